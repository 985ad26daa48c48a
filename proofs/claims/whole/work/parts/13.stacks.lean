theorem d_Stacks_clear_0 : decode b_Stacks_clear 0 = .ok (.aload_n 0, 1) := by decide +kernel
theorem d_Stacks_clear_1 : decode b_Stacks_clear 1 = .ok (.iconst 0, 1) := by decide +kernel
theorem d_Stacks_clear_2 : decode b_Stacks_clear 2 = .ok (.putfield 45, 3) := by decide +kernel
theorem d_Stacks_clear_5 : decode b_Stacks_clear 5 = .ok (.aload_n 0, 1) := by decide +kernel
theorem d_Stacks_clear_6 : decode b_Stacks_clear 6 = .ok (.iconst 0, 1) := by decide +kernel
theorem d_Stacks_clear_7 : decode b_Stacks_clear 7 = .ok (.putfield 41, 3) := by decide +kernel
theorem d_Stacks_clear_10 : decode b_Stacks_clear 10 = .ok (.aload_n 0, 1) := by decide +kernel
theorem d_Stacks_clear_11 : decode b_Stacks_clear 11 = .ok (.iconst 0, 1) := by decide +kernel
theorem d_Stacks_clear_12 : decode b_Stacks_clear 12 = .ok (.putfield 48, 3) := by decide +kernel
theorem d_Stacks_clear_15 : decode b_Stacks_clear 15 = .ok (.return_, 1) := by decide +kernel
theorem d_Stacks_begin_0 : decode b_Stacks_begin 0 = .ok (.aload_n 0, 1) := by decide +kernel
theorem d_Stacks_begin_1 : decode b_Stacks_begin 1 = .ok (.invokevirtual 38, 3) := by decide +kernel
theorem d_Stacks_begin_4 : decode b_Stacks_begin 4 = .ok (.aload_n 0, 1) := by decide +kernel
theorem d_Stacks_begin_5 : decode b_Stacks_begin 5 = .ok (.iconst 1, 1) := by decide +kernel
theorem d_Stacks_begin_6 : decode b_Stacks_begin 6 = .ok (.putfield 41, 3) := by decide +kernel
theorem d_Stacks_begin_9 : decode b_Stacks_begin 9 = .ok (.aload_n 0, 1) := by decide +kernel
theorem d_Stacks_begin_10 : decode b_Stacks_begin 10 = .ok (.getfield 13, 3) := by decide +kernel
theorem d_Stacks_begin_13 : decode b_Stacks_begin 13 = .ok (.iconst 0, 1) := by decide +kernel
theorem d_Stacks_begin_14 : decode b_Stacks_begin 14 = .ok (.iconst 0, 1) := by decide +kernel
theorem d_Stacks_begin_15 : decode b_Stacks_begin 15 = .ok (.iastore, 1) := by decide +kernel
theorem d_Stacks_begin_16 : decode b_Stacks_begin 16 = .ok (.aload_n 0, 1) := by decide +kernel
theorem d_Stacks_begin_17 : decode b_Stacks_begin 17 = .ok (.getfield 17, 3) := by decide +kernel
theorem d_Stacks_begin_20 : decode b_Stacks_begin 20 = .ok (.iconst 0, 1) := by decide +kernel
theorem d_Stacks_begin_21 : decode b_Stacks_begin 21 = .ok (.iconst 0, 1) := by decide +kernel
theorem d_Stacks_begin_22 : decode b_Stacks_begin 22 = .ok (.iastore, 1) := by decide +kernel
theorem d_Stacks_begin_23 : decode b_Stacks_begin 23 = .ok (.aload_n 0, 1) := by decide +kernel
theorem d_Stacks_begin_24 : decode b_Stacks_begin 24 = .ok (.getfield 20, 3) := by decide +kernel
theorem d_Stacks_begin_27 : decode b_Stacks_begin 27 = .ok (.iconst 0, 1) := by decide +kernel
theorem d_Stacks_begin_28 : decode b_Stacks_begin 28 = .ok (.iconst 0, 1) := by decide +kernel
theorem d_Stacks_begin_29 : decode b_Stacks_begin 29 = .ok (.iastore, 1) := by decide +kernel
theorem d_Stacks_begin_30 : decode b_Stacks_begin 30 = .ok (.aload_n 0, 1) := by decide +kernel
theorem d_Stacks_begin_31 : decode b_Stacks_begin 31 = .ok (.getfield 23, 3) := by decide +kernel
theorem d_Stacks_begin_34 : decode b_Stacks_begin 34 = .ok (.iconst 0, 1) := by decide +kernel
theorem d_Stacks_begin_35 : decode b_Stacks_begin 35 = .ok (.lconst 0, 1) := by decide +kernel
theorem d_Stacks_begin_36 : decode b_Stacks_begin 36 = .ok (.lastore, 1) := by decide +kernel
theorem d_Stacks_begin_37 : decode b_Stacks_begin 37 = .ok (.return_, 1) := by decide +kernel
theorem d_Stacks_height_0 : decode b_Stacks_height 0 = .ok (.aload_n 0, 1) := by decide +kernel
theorem d_Stacks_height_1 : decode b_Stacks_height 1 = .ok (.getfield 45, 3) := by decide +kernel
theorem d_Stacks_height_4 : decode b_Stacks_height 4 = .ok (.aload_n 0, 1) := by decide +kernel
theorem d_Stacks_height_5 : decode b_Stacks_height 5 = .ok (.getfield 17, 3) := by decide +kernel
theorem d_Stacks_height_8 : decode b_Stacks_height 8 = .ok (.aload_n 0, 1) := by decide +kernel
theorem d_Stacks_height_9 : decode b_Stacks_height 9 = .ok (.getfield 41, 3) := by decide +kernel
theorem d_Stacks_height_12 : decode b_Stacks_height 12 = .ok (.iconst 1, 1) := by decide +kernel
theorem d_Stacks_height_13 : decode b_Stacks_height 13 = .ok (.isub, 1) := by decide +kernel
theorem d_Stacks_height_14 : decode b_Stacks_height 14 = .ok (.iaload, 1) := by decide +kernel
theorem d_Stacks_height_15 : decode b_Stacks_height 15 = .ok (.isub, 1) := by decide +kernel
theorem d_Stacks_height_16 : decode b_Stacks_height 16 = .ok (.ireturn, 1) := by decide +kernel
theorem d_Stacks_peek_0 : decode b_Stacks_peek 0 = .ok (.aload_n 0, 1) := by decide +kernel
theorem d_Stacks_peek_1 : decode b_Stacks_peek 1 = .ok (.getfield 7, 3) := by decide +kernel
theorem d_Stacks_peek_4 : decode b_Stacks_peek 4 = .ok (.aload_n 0, 1) := by decide +kernel
theorem d_Stacks_peek_5 : decode b_Stacks_peek 5 = .ok (.getfield 45, 3) := by decide +kernel
theorem d_Stacks_peek_8 : decode b_Stacks_peek 8 = .ok (.iconst 1, 1) := by decide +kernel
theorem d_Stacks_peek_9 : decode b_Stacks_peek 9 = .ok (.isub, 1) := by decide +kernel
theorem d_Stacks_peek_10 : decode b_Stacks_peek 10 = .ok (.iload_n 1, 1) := by decide +kernel
theorem d_Stacks_peek_11 : decode b_Stacks_peek 11 = .ok (.isub, 1) := by decide +kernel
theorem d_Stacks_peek_12 : decode b_Stacks_peek 12 = .ok (.laload, 1) := by decide +kernel
theorem d_Stacks_peek_13 : decode b_Stacks_peek 13 = .ok (.lreturn, 1) := by decide +kernel
theorem d_Stacks_drop_0 : decode b_Stacks_drop 0 = .ok (.aload_n 0, 1) := by decide +kernel
theorem d_Stacks_drop_1 : decode b_Stacks_drop 1 = .ok (.dup, 1) := by decide +kernel
theorem d_Stacks_drop_2 : decode b_Stacks_drop 2 = .ok (.getfield 45, 3) := by decide +kernel
theorem d_Stacks_drop_5 : decode b_Stacks_drop 5 = .ok (.iconst 1, 1) := by decide +kernel
theorem d_Stacks_drop_6 : decode b_Stacks_drop 6 = .ok (.isub, 1) := by decide +kernel
theorem d_Stacks_drop_7 : decode b_Stacks_drop 7 = .ok (.putfield 45, 3) := by decide +kernel
theorem d_Stacks_drop_10 : decode b_Stacks_drop 10 = .ok (.iconst 5, 1) := by decide +kernel
theorem d_Stacks_drop_11 : decode b_Stacks_drop 11 = .ok (.ireturn, 1) := by decide +kernel
theorem d_Stacks_isFull_0 : decode b_Stacks_isFull 0 = .ok (.aload_n 0, 1) := by decide +kernel
theorem d_Stacks_isFull_1 : decode b_Stacks_isFull 1 = .ok (.getfield 45, 3) := by decide +kernel
theorem d_Stacks_isFull_4 : decode b_Stacks_isFull 4 = .ok (.ldc 51, 2) := by decide +kernel
theorem d_Stacks_isFull_6 : decode b_Stacks_isFull 6 = .ok (.if_icmp .lt 7, 3) := by decide +kernel
theorem d_Stacks_isFull_9 : decode b_Stacks_isFull 9 = .ok (.iconst 1, 1) := by decide +kernel
theorem d_Stacks_isFull_10 : decode b_Stacks_isFull 10 = .ok (.goto 4, 3) := by decide +kernel
theorem d_Stacks_isFull_13 : decode b_Stacks_isFull 13 = .ok (.iconst 0, 1) := by decide +kernel
theorem d_Stacks_isFull_14 : decode b_Stacks_isFull 14 = .ok (.ireturn, 1) := by decide +kernel
theorem d_Stacks_widen_0 : decode b_Stacks_widen 0 = .ok (.aload_n 0, 1) := by decide +kernel
theorem d_Stacks_widen_1 : decode b_Stacks_widen 1 = .ok (.aload_n 0, 1) := by decide +kernel
theorem d_Stacks_widen_2 : decode b_Stacks_widen 2 = .ok (.getfield 7, 3) := by decide +kernel
theorem d_Stacks_widen_5 : decode b_Stacks_widen 5 = .ok (.aload_n 0, 1) := by decide +kernel
theorem d_Stacks_widen_6 : decode b_Stacks_widen 6 = .ok (.getfield 7, 3) := by decide +kernel
theorem d_Stacks_widen_9 : decode b_Stacks_widen 9 = .ok (.arraylength, 1) := by decide +kernel
theorem d_Stacks_widen_10 : decode b_Stacks_widen 10 = .ok (.iload_n 1, 1) := by decide +kernel
theorem d_Stacks_widen_11 : decode b_Stacks_widen 11 = .ok (.ldc 51, 2) := by decide +kernel
theorem d_Stacks_widen_13 : decode b_Stacks_widen 13 = .ok (.invokestatic 62, 3) := by decide +kernel
theorem d_Stacks_widen_16 : decode b_Stacks_widen 16 = .ok (.invokestatic 68, 3) := by decide +kernel
theorem d_Stacks_widen_19 : decode b_Stacks_widen 19 = .ok (.putfield 7, 3) := by decide +kernel
theorem d_Stacks_widen_22 : decode b_Stacks_widen 22 = .ok (.return_, 1) := by decide +kernel
theorem d_Stacks_push_0 : decode b_Stacks_push 0 = .ok (.aload_n 0, 1) := by decide +kernel
theorem d_Stacks_push_1 : decode b_Stacks_push 1 = .ok (.invokevirtual 52, 3) := by decide +kernel
theorem d_Stacks_push_4 : decode b_Stacks_push 4 = .ok (.ifCond .eq 5, 3) := by decide +kernel
theorem d_Stacks_push_7 : decode b_Stacks_push 7 = .ok (.iconst 3, 1) := by decide +kernel
theorem d_Stacks_push_8 : decode b_Stacks_push 8 = .ok (.ireturn, 1) := by decide +kernel
theorem d_Stacks_push_9 : decode b_Stacks_push 9 = .ok (.aload_n 0, 1) := by decide +kernel
theorem d_Stacks_push_10 : decode b_Stacks_push 10 = .ok (.getfield 45, 3) := by decide +kernel
theorem d_Stacks_push_13 : decode b_Stacks_push 13 = .ok (.aload_n 0, 1) := by decide +kernel
theorem d_Stacks_push_14 : decode b_Stacks_push 14 = .ok (.getfield 7, 3) := by decide +kernel
theorem d_Stacks_push_17 : decode b_Stacks_push 17 = .ok (.arraylength, 1) := by decide +kernel
theorem d_Stacks_push_18 : decode b_Stacks_push 18 = .ok (.if_icmp .lt 13, 3) := by decide +kernel
theorem d_Stacks_push_21 : decode b_Stacks_push 21 = .ok (.aload_n 0, 1) := by decide +kernel
theorem d_Stacks_push_22 : decode b_Stacks_push 22 = .ok (.aload_n 0, 1) := by decide +kernel
theorem d_Stacks_push_23 : decode b_Stacks_push 23 = .ok (.getfield 45, 3) := by decide +kernel
theorem d_Stacks_push_26 : decode b_Stacks_push 26 = .ok (.iconst 1, 1) := by decide +kernel
theorem d_Stacks_push_27 : decode b_Stacks_push 27 = .ok (.iadd, 1) := by decide +kernel
theorem d_Stacks_push_28 : decode b_Stacks_push 28 = .ok (.invokevirtual 58, 3) := by decide +kernel
theorem d_Stacks_push_31 : decode b_Stacks_push 31 = .ok (.aload_n 0, 1) := by decide +kernel
theorem d_Stacks_push_32 : decode b_Stacks_push 32 = .ok (.getfield 7, 3) := by decide +kernel
theorem d_Stacks_push_35 : decode b_Stacks_push 35 = .ok (.aload_n 0, 1) := by decide +kernel
theorem d_Stacks_push_36 : decode b_Stacks_push 36 = .ok (.dup, 1) := by decide +kernel
theorem d_Stacks_push_37 : decode b_Stacks_push 37 = .ok (.getfield 45, 3) := by decide +kernel
theorem d_Stacks_push_40 : decode b_Stacks_push 40 = .ok (.dup_x1, 1) := by decide +kernel
theorem d_Stacks_push_41 : decode b_Stacks_push 41 = .ok (.iconst 1, 1) := by decide +kernel
theorem d_Stacks_push_42 : decode b_Stacks_push 42 = .ok (.iadd, 1) := by decide +kernel
theorem d_Stacks_push_43 : decode b_Stacks_push 43 = .ok (.putfield 45, 3) := by decide +kernel
theorem d_Stacks_push_46 : decode b_Stacks_push 46 = .ok (.lload_n 1, 1) := by decide +kernel
theorem d_Stacks_push_47 : decode b_Stacks_push 47 = .ok (.lastore, 1) := by decide +kernel
theorem d_Stacks_push_48 : decode b_Stacks_push 48 = .ok (.iconst 5, 1) := by decide +kernel
theorem d_Stacks_push_49 : decode b_Stacks_push 49 = .ok (.ireturn, 1) := by decide +kernel
theorem d_Stacks_locals_0 : decode b_Stacks_locals 0 = .ok (.aload_n 0, 1) := by decide +kernel
theorem d_Stacks_locals_1 : decode b_Stacks_locals 1 = .ok (.getfield 17, 3) := by decide +kernel
theorem d_Stacks_locals_4 : decode b_Stacks_locals 4 = .ok (.aload_n 0, 1) := by decide +kernel
theorem d_Stacks_locals_5 : decode b_Stacks_locals 5 = .ok (.getfield 41, 3) := by decide +kernel
theorem d_Stacks_locals_8 : decode b_Stacks_locals 8 = .ok (.iconst 1, 1) := by decide +kernel
theorem d_Stacks_locals_9 : decode b_Stacks_locals 9 = .ok (.isub, 1) := by decide +kernel
theorem d_Stacks_locals_10 : decode b_Stacks_locals 10 = .ok (.iaload, 1) := by decide +kernel
theorem d_Stacks_locals_11 : decode b_Stacks_locals 11 = .ok (.aload_n 0, 1) := by decide +kernel
theorem d_Stacks_locals_12 : decode b_Stacks_locals 12 = .ok (.getfield 13, 3) := by decide +kernel
theorem d_Stacks_locals_15 : decode b_Stacks_locals 15 = .ok (.aload_n 0, 1) := by decide +kernel
theorem d_Stacks_locals_16 : decode b_Stacks_locals 16 = .ok (.getfield 41, 3) := by decide +kernel
theorem d_Stacks_locals_19 : decode b_Stacks_locals 19 = .ok (.iconst 1, 1) := by decide +kernel
theorem d_Stacks_locals_20 : decode b_Stacks_locals 20 = .ok (.isub, 1) := by decide +kernel
theorem d_Stacks_locals_21 : decode b_Stacks_locals 21 = .ok (.iaload, 1) := by decide +kernel
theorem d_Stacks_locals_22 : decode b_Stacks_locals 22 = .ok (.isub, 1) := by decide +kernel
theorem d_Stacks_locals_23 : decode b_Stacks_locals 23 = .ok (.ireturn, 1) := by decide +kernel
theorem d_Stacks_local_0 : decode b_Stacks_local 0 = .ok (.iload_n 1, 1) := by decide +kernel
theorem d_Stacks_local_1 : decode b_Stacks_local 1 = .ok (.ifCond .lt 11, 3) := by decide +kernel
theorem d_Stacks_local_4 : decode b_Stacks_local 4 = .ok (.iload_n 1, 1) := by decide +kernel
theorem d_Stacks_local_5 : decode b_Stacks_local 5 = .ok (.aload_n 0, 1) := by decide +kernel
theorem d_Stacks_local_6 : decode b_Stacks_local 6 = .ok (.invokevirtual 74, 3) := by decide +kernel
theorem d_Stacks_local_9 : decode b_Stacks_local 9 = .ok (.if_icmp .lt 7, 3) := by decide +kernel
theorem d_Stacks_local_12 : decode b_Stacks_local 12 = .ok (.iconst 4, 1) := by decide +kernel
theorem d_Stacks_local_13 : decode b_Stacks_local 13 = .ok (.goto 25, 3) := by decide +kernel
theorem d_Stacks_local_16 : decode b_Stacks_local 16 = .ok (.aload_n 0, 1) := by decide +kernel
theorem d_Stacks_local_17 : decode b_Stacks_local 17 = .ok (.aload_n 0, 1) := by decide +kernel
theorem d_Stacks_local_18 : decode b_Stacks_local 18 = .ok (.getfield 7, 3) := by decide +kernel
theorem d_Stacks_local_21 : decode b_Stacks_local 21 = .ok (.aload_n 0, 1) := by decide +kernel
theorem d_Stacks_local_22 : decode b_Stacks_local 22 = .ok (.getfield 13, 3) := by decide +kernel
theorem d_Stacks_local_25 : decode b_Stacks_local 25 = .ok (.aload_n 0, 1) := by decide +kernel
theorem d_Stacks_local_26 : decode b_Stacks_local 26 = .ok (.getfield 41, 3) := by decide +kernel
theorem d_Stacks_local_29 : decode b_Stacks_local 29 = .ok (.iconst 1, 1) := by decide +kernel
theorem d_Stacks_local_30 : decode b_Stacks_local 30 = .ok (.isub, 1) := by decide +kernel
theorem d_Stacks_local_31 : decode b_Stacks_local 31 = .ok (.iaload, 1) := by decide +kernel
theorem d_Stacks_local_32 : decode b_Stacks_local 32 = .ok (.iload_n 1, 1) := by decide +kernel
theorem d_Stacks_local_33 : decode b_Stacks_local 33 = .ok (.iadd, 1) := by decide +kernel
theorem d_Stacks_local_34 : decode b_Stacks_local 34 = .ok (.laload, 1) := by decide +kernel
theorem d_Stacks_local_35 : decode b_Stacks_local 35 = .ok (.invokevirtual 78, 3) := by decide +kernel
theorem d_Stacks_local_38 : decode b_Stacks_local 38 = .ok (.ireturn, 1) := by decide +kernel
theorem d_Stacks_store_0 : decode b_Stacks_store 0 = .ok (.iload_n 1, 1) := by decide +kernel
theorem d_Stacks_store_1 : decode b_Stacks_store 1 = .ok (.ifCond .lt 11, 3) := by decide +kernel
theorem d_Stacks_store_4 : decode b_Stacks_store 4 = .ok (.iload_n 1, 1) := by decide +kernel
theorem d_Stacks_store_5 : decode b_Stacks_store 5 = .ok (.aload_n 0, 1) := by decide +kernel
theorem d_Stacks_store_6 : decode b_Stacks_store 6 = .ok (.invokevirtual 74, 3) := by decide +kernel
theorem d_Stacks_store_9 : decode b_Stacks_store 9 = .ok (.if_icmp .lt 5, 3) := by decide +kernel
theorem d_Stacks_store_12 : decode b_Stacks_store 12 = .ok (.iconst 4, 1) := by decide +kernel
theorem d_Stacks_store_13 : decode b_Stacks_store 13 = .ok (.ireturn, 1) := by decide +kernel
theorem d_Stacks_store_14 : decode b_Stacks_store 14 = .ok (.aload_n 0, 1) := by decide +kernel
theorem d_Stacks_store_15 : decode b_Stacks_store 15 = .ok (.getfield 7, 3) := by decide +kernel
theorem d_Stacks_store_18 : decode b_Stacks_store 18 = .ok (.aload_n 0, 1) := by decide +kernel
theorem d_Stacks_store_19 : decode b_Stacks_store 19 = .ok (.getfield 13, 3) := by decide +kernel
theorem d_Stacks_store_22 : decode b_Stacks_store 22 = .ok (.aload_n 0, 1) := by decide +kernel
theorem d_Stacks_store_23 : decode b_Stacks_store 23 = .ok (.getfield 41, 3) := by decide +kernel
theorem d_Stacks_store_26 : decode b_Stacks_store 26 = .ok (.iconst 1, 1) := by decide +kernel
theorem d_Stacks_store_27 : decode b_Stacks_store 27 = .ok (.isub, 1) := by decide +kernel
theorem d_Stacks_store_28 : decode b_Stacks_store 28 = .ok (.iaload, 1) := by decide +kernel
theorem d_Stacks_store_29 : decode b_Stacks_store 29 = .ok (.iload_n 1, 1) := by decide +kernel
theorem d_Stacks_store_30 : decode b_Stacks_store 30 = .ok (.iadd, 1) := by decide +kernel
theorem d_Stacks_store_31 : decode b_Stacks_store 31 = .ok (.aload_n 0, 1) := by decide +kernel
theorem d_Stacks_store_32 : decode b_Stacks_store 32 = .ok (.iconst 0, 1) := by decide +kernel
theorem d_Stacks_store_33 : decode b_Stacks_store 33 = .ok (.invokevirtual 82, 3) := by decide +kernel
theorem d_Stacks_store_36 : decode b_Stacks_store 36 = .ok (.lastore, 1) := by decide +kernel
theorem d_Stacks_store_37 : decode b_Stacks_store 37 = .ok (.aload_n 0, 1) := by decide +kernel
theorem d_Stacks_store_38 : decode b_Stacks_store 38 = .ok (.dup, 1) := by decide +kernel
theorem d_Stacks_store_39 : decode b_Stacks_store 39 = .ok (.getfield 45, 3) := by decide +kernel
theorem d_Stacks_store_42 : decode b_Stacks_store 42 = .ok (.iconst 1, 1) := by decide +kernel
theorem d_Stacks_store_43 : decode b_Stacks_store 43 = .ok (.isub, 1) := by decide +kernel
theorem d_Stacks_store_44 : decode b_Stacks_store 44 = .ok (.putfield 45, 3) := by decide +kernel
theorem d_Stacks_store_47 : decode b_Stacks_store 47 = .ok (.iconst 5, 1) := by decide +kernel
theorem d_Stacks_store_48 : decode b_Stacks_store 48 = .ok (.ireturn, 1) := by decide +kernel
theorem d_Stacks_closure_0 : decode b_Stacks_closure 0 = .ok (.aload_n 0, 1) := by decide +kernel
theorem d_Stacks_closure_1 : decode b_Stacks_closure 1 = .ok (.getfield 23, 3) := by decide +kernel
theorem d_Stacks_closure_4 : decode b_Stacks_closure 4 = .ok (.aload_n 0, 1) := by decide +kernel
theorem d_Stacks_closure_5 : decode b_Stacks_closure 5 = .ok (.getfield 41, 3) := by decide +kernel
theorem d_Stacks_closure_8 : decode b_Stacks_closure 8 = .ok (.iconst 1, 1) := by decide +kernel
theorem d_Stacks_closure_9 : decode b_Stacks_closure 9 = .ok (.isub, 1) := by decide +kernel
theorem d_Stacks_closure_10 : decode b_Stacks_closure 10 = .ok (.laload, 1) := by decide +kernel
theorem d_Stacks_closure_11 : decode b_Stacks_closure 11 = .ok (.lreturn, 1) := by decide +kernel
theorem d_Stacks_replace_0 : decode b_Stacks_replace 0 = .ok (.aload_n 0, 1) := by decide +kernel
theorem d_Stacks_replace_1 : decode b_Stacks_replace 1 = .ok (.dup, 1) := by decide +kernel
theorem d_Stacks_replace_2 : decode b_Stacks_replace 2 = .ok (.getfield 45, 3) := by decide +kernel
theorem d_Stacks_replace_5 : decode b_Stacks_replace 5 = .ok (.iload_n 1, 1) := by decide +kernel
theorem d_Stacks_replace_6 : decode b_Stacks_replace 6 = .ok (.isub, 1) := by decide +kernel
theorem d_Stacks_replace_7 : decode b_Stacks_replace 7 = .ok (.putfield 45, 3) := by decide +kernel
theorem d_Stacks_replace_10 : decode b_Stacks_replace 10 = .ok (.aload_n 0, 1) := by decide +kernel
theorem d_Stacks_replace_11 : decode b_Stacks_replace 11 = .ok (.getfield 7, 3) := by decide +kernel
theorem d_Stacks_replace_14 : decode b_Stacks_replace 14 = .ok (.aload_n 0, 1) := by decide +kernel
theorem d_Stacks_replace_15 : decode b_Stacks_replace 15 = .ok (.dup, 1) := by decide +kernel
theorem d_Stacks_replace_16 : decode b_Stacks_replace 16 = .ok (.getfield 45, 3) := by decide +kernel
theorem d_Stacks_replace_19 : decode b_Stacks_replace 19 = .ok (.dup_x1, 1) := by decide +kernel
theorem d_Stacks_replace_20 : decode b_Stacks_replace 20 = .ok (.iconst 1, 1) := by decide +kernel
theorem d_Stacks_replace_21 : decode b_Stacks_replace 21 = .ok (.iadd, 1) := by decide +kernel
theorem d_Stacks_replace_22 : decode b_Stacks_replace 22 = .ok (.putfield 45, 3) := by decide +kernel
theorem d_Stacks_replace_25 : decode b_Stacks_replace 25 = .ok (.lload_n 2, 1) := by decide +kernel
theorem d_Stacks_replace_26 : decode b_Stacks_replace 26 = .ok (.lastore, 1) := by decide +kernel
theorem d_Stacks_replace_27 : decode b_Stacks_replace 27 = .ok (.iconst 5, 1) := by decide +kernel
theorem d_Stacks_replace_28 : decode b_Stacks_replace 28 = .ok (.ireturn, 1) := by decide +kernel
theorem d_Stacks_widenFrames_0 : decode b_Stacks_widenFrames 0 = .ok (.aload_n 0, 1) := by decide +kernel
theorem d_Stacks_widenFrames_1 : decode b_Stacks_widenFrames 1 = .ok (.getfield 13, 3) := by decide +kernel
theorem d_Stacks_widenFrames_4 : decode b_Stacks_widenFrames 4 = .ok (.arraylength, 1) := by decide +kernel
theorem d_Stacks_widenFrames_5 : decode b_Stacks_widenFrames 5 = .ok (.aload_n 0, 1) := by decide +kernel
theorem d_Stacks_widenFrames_6 : decode b_Stacks_widenFrames 6 = .ok (.getfield 41, 3) := by decide +kernel
theorem d_Stacks_widenFrames_9 : decode b_Stacks_widenFrames 9 = .ok (.iconst 1, 1) := by decide +kernel
theorem d_Stacks_widenFrames_10 : decode b_Stacks_widenFrames 10 = .ok (.iadd, 1) := by decide +kernel
theorem d_Stacks_widenFrames_11 : decode b_Stacks_widenFrames 11 = .ok (.sipush 8192, 3) := by decide +kernel
theorem d_Stacks_widenFrames_14 : decode b_Stacks_widenFrames 14 = .ok (.invokestatic 62, 3) := by decide +kernel
theorem d_Stacks_widenFrames_17 : decode b_Stacks_widenFrames 17 = .ok (.istore_n 1, 1) := by decide +kernel
theorem d_Stacks_widenFrames_18 : decode b_Stacks_widenFrames 18 = .ok (.aload_n 0, 1) := by decide +kernel
theorem d_Stacks_widenFrames_19 : decode b_Stacks_widenFrames 19 = .ok (.aload_n 0, 1) := by decide +kernel
theorem d_Stacks_widenFrames_20 : decode b_Stacks_widenFrames 20 = .ok (.getfield 13, 3) := by decide +kernel
theorem d_Stacks_widenFrames_23 : decode b_Stacks_widenFrames 23 = .ok (.iload_n 1, 1) := by decide +kernel
theorem d_Stacks_widenFrames_24 : decode b_Stacks_widenFrames 24 = .ok (.invokestatic 93, 3) := by decide +kernel
theorem d_Stacks_widenFrames_27 : decode b_Stacks_widenFrames 27 = .ok (.putfield 13, 3) := by decide +kernel
theorem d_Stacks_widenFrames_30 : decode b_Stacks_widenFrames 30 = .ok (.aload_n 0, 1) := by decide +kernel
theorem d_Stacks_widenFrames_31 : decode b_Stacks_widenFrames 31 = .ok (.aload_n 0, 1) := by decide +kernel
theorem d_Stacks_widenFrames_32 : decode b_Stacks_widenFrames 32 = .ok (.getfield 17, 3) := by decide +kernel
theorem d_Stacks_widenFrames_35 : decode b_Stacks_widenFrames 35 = .ok (.iload_n 1, 1) := by decide +kernel
theorem d_Stacks_widenFrames_36 : decode b_Stacks_widenFrames 36 = .ok (.invokestatic 93, 3) := by decide +kernel
theorem d_Stacks_widenFrames_39 : decode b_Stacks_widenFrames 39 = .ok (.putfield 17, 3) := by decide +kernel
theorem d_Stacks_widenFrames_42 : decode b_Stacks_widenFrames 42 = .ok (.aload_n 0, 1) := by decide +kernel
theorem d_Stacks_widenFrames_43 : decode b_Stacks_widenFrames 43 = .ok (.aload_n 0, 1) := by decide +kernel
theorem d_Stacks_widenFrames_44 : decode b_Stacks_widenFrames 44 = .ok (.getfield 20, 3) := by decide +kernel
theorem d_Stacks_widenFrames_47 : decode b_Stacks_widenFrames 47 = .ok (.iload_n 1, 1) := by decide +kernel
theorem d_Stacks_widenFrames_48 : decode b_Stacks_widenFrames 48 = .ok (.invokestatic 93, 3) := by decide +kernel
theorem d_Stacks_widenFrames_51 : decode b_Stacks_widenFrames 51 = .ok (.putfield 20, 3) := by decide +kernel
theorem d_Stacks_widenFrames_54 : decode b_Stacks_widenFrames 54 = .ok (.aload_n 0, 1) := by decide +kernel
theorem d_Stacks_widenFrames_55 : decode b_Stacks_widenFrames 55 = .ok (.aload_n 0, 1) := by decide +kernel
theorem d_Stacks_widenFrames_56 : decode b_Stacks_widenFrames 56 = .ok (.getfield 23, 3) := by decide +kernel
theorem d_Stacks_widenFrames_59 : decode b_Stacks_widenFrames 59 = .ok (.iload_n 1, 1) := by decide +kernel
theorem d_Stacks_widenFrames_60 : decode b_Stacks_widenFrames 60 = .ok (.invokestatic 68, 3) := by decide +kernel
theorem d_Stacks_widenFrames_63 : decode b_Stacks_widenFrames 63 = .ok (.putfield 23, 3) := by decide +kernel
theorem d_Stacks_widenFrames_66 : decode b_Stacks_widenFrames 66 = .ok (.return_, 1) := by decide +kernel
theorem d_Stacks_enter_0 : decode b_Stacks_enter 0 = .ok (.aload_n 0, 1) := by decide +kernel
theorem d_Stacks_enter_1 : decode b_Stacks_enter 1 = .ok (.getfield 41, 3) := by decide +kernel
theorem d_Stacks_enter_4 : decode b_Stacks_enter 4 = .ok (.sipush 8192, 3) := by decide +kernel
theorem d_Stacks_enter_7 : decode b_Stacks_enter 7 = .ok (.if_icmp .lt 5, 3) := by decide +kernel
theorem d_Stacks_enter_10 : decode b_Stacks_enter 10 = .ok (.iconst 3, 1) := by decide +kernel
theorem d_Stacks_enter_11 : decode b_Stacks_enter 11 = .ok (.ireturn, 1) := by decide +kernel
theorem d_Stacks_enter_12 : decode b_Stacks_enter 12 = .ok (.aload_n 0, 1) := by decide +kernel
theorem d_Stacks_enter_13 : decode b_Stacks_enter 13 = .ok (.getfield 41, 3) := by decide +kernel
theorem d_Stacks_enter_16 : decode b_Stacks_enter 16 = .ok (.aload_n 0, 1) := by decide +kernel
theorem d_Stacks_enter_17 : decode b_Stacks_enter 17 = .ok (.getfield 13, 3) := by decide +kernel
theorem d_Stacks_enter_20 : decode b_Stacks_enter 20 = .ok (.arraylength, 1) := by decide +kernel
theorem d_Stacks_enter_21 : decode b_Stacks_enter 21 = .ok (.if_icmp .lt 7, 3) := by decide +kernel
theorem d_Stacks_enter_24 : decode b_Stacks_enter 24 = .ok (.aload_n 0, 1) := by decide +kernel
theorem d_Stacks_enter_25 : decode b_Stacks_enter 25 = .ok (.invokevirtual 86, 3) := by decide +kernel
theorem d_Stacks_enter_28 : decode b_Stacks_enter 28 = .ok (.aload_n 0, 1) := by decide +kernel
theorem d_Stacks_enter_29 : decode b_Stacks_enter 29 = .ok (.iconst 0, 1) := by decide +kernel
theorem d_Stacks_enter_30 : decode b_Stacks_enter 30 = .ok (.invokevirtual 82, 3) := by decide +kernel
theorem d_Stacks_enter_33 : decode b_Stacks_enter 33 = .ok (.lstore_n 2, 1) := by decide +kernel
theorem d_Stacks_enter_34 : decode b_Stacks_enter 34 = .ok (.aload_n 0, 1) := by decide +kernel
theorem d_Stacks_enter_35 : decode b_Stacks_enter 35 = .ok (.getfield 23, 3) := by decide +kernel
theorem d_Stacks_enter_38 : decode b_Stacks_enter 38 = .ok (.aload_n 0, 1) := by decide +kernel
theorem d_Stacks_enter_39 : decode b_Stacks_enter 39 = .ok (.getfield 41, 3) := by decide +kernel
theorem d_Stacks_enter_42 : decode b_Stacks_enter 42 = .ok (.aload_n 0, 1) := by decide +kernel
theorem d_Stacks_enter_43 : decode b_Stacks_enter 43 = .ok (.iconst 1, 1) := by decide +kernel
theorem d_Stacks_enter_44 : decode b_Stacks_enter 44 = .ok (.invokevirtual 82, 3) := by decide +kernel
theorem d_Stacks_enter_47 : decode b_Stacks_enter 47 = .ok (.lastore, 1) := by decide +kernel
theorem d_Stacks_enter_48 : decode b_Stacks_enter 48 = .ok (.aload_n 0, 1) := by decide +kernel
theorem d_Stacks_enter_49 : decode b_Stacks_enter 49 = .ok (.iconst 2, 1) := by decide +kernel
theorem d_Stacks_enter_50 : decode b_Stacks_enter 50 = .ok (.lload_n 2, 1) := by decide +kernel
theorem d_Stacks_enter_51 : decode b_Stacks_enter 51 = .ok (.invokevirtual 89, 3) := by decide +kernel
theorem d_Stacks_enter_54 : decode b_Stacks_enter 54 = .ok (.pop, 1) := by decide +kernel
theorem d_Stacks_enter_55 : decode b_Stacks_enter 55 = .ok (.aload_n 0, 1) := by decide +kernel
theorem d_Stacks_enter_56 : decode b_Stacks_enter 56 = .ok (.getfield 13, 3) := by decide +kernel
theorem d_Stacks_enter_59 : decode b_Stacks_enter 59 = .ok (.aload_n 0, 1) := by decide +kernel
theorem d_Stacks_enter_60 : decode b_Stacks_enter 60 = .ok (.getfield 41, 3) := by decide +kernel
theorem d_Stacks_enter_63 : decode b_Stacks_enter 63 = .ok (.aload_n 0, 1) := by decide +kernel
theorem d_Stacks_enter_64 : decode b_Stacks_enter 64 = .ok (.getfield 45, 3) := by decide +kernel
theorem d_Stacks_enter_67 : decode b_Stacks_enter 67 = .ok (.iconst 1, 1) := by decide +kernel
theorem d_Stacks_enter_68 : decode b_Stacks_enter 68 = .ok (.isub, 1) := by decide +kernel
theorem d_Stacks_enter_69 : decode b_Stacks_enter 69 = .ok (.iastore, 1) := by decide +kernel
theorem d_Stacks_enter_70 : decode b_Stacks_enter 70 = .ok (.aload_n 0, 1) := by decide +kernel
theorem d_Stacks_enter_71 : decode b_Stacks_enter 71 = .ok (.getfield 17, 3) := by decide +kernel
theorem d_Stacks_enter_74 : decode b_Stacks_enter 74 = .ok (.aload_n 0, 1) := by decide +kernel
theorem d_Stacks_enter_75 : decode b_Stacks_enter 75 = .ok (.getfield 41, 3) := by decide +kernel
theorem d_Stacks_enter_78 : decode b_Stacks_enter 78 = .ok (.aload_n 0, 1) := by decide +kernel
theorem d_Stacks_enter_79 : decode b_Stacks_enter 79 = .ok (.getfield 45, 3) := by decide +kernel
theorem d_Stacks_enter_82 : decode b_Stacks_enter 82 = .ok (.iastore, 1) := by decide +kernel
theorem d_Stacks_enter_83 : decode b_Stacks_enter 83 = .ok (.aload_n 0, 1) := by decide +kernel
theorem d_Stacks_enter_84 : decode b_Stacks_enter 84 = .ok (.getfield 20, 3) := by decide +kernel
theorem d_Stacks_enter_87 : decode b_Stacks_enter 87 = .ok (.aload_n 0, 1) := by decide +kernel
theorem d_Stacks_enter_88 : decode b_Stacks_enter 88 = .ok (.getfield 41, 3) := by decide +kernel
theorem d_Stacks_enter_91 : decode b_Stacks_enter 91 = .ok (.iload_n 1, 1) := by decide +kernel
theorem d_Stacks_enter_92 : decode b_Stacks_enter 92 = .ok (.iastore, 1) := by decide +kernel
theorem d_Stacks_enter_93 : decode b_Stacks_enter 93 = .ok (.aload_n 0, 1) := by decide +kernel
theorem d_Stacks_enter_94 : decode b_Stacks_enter 94 = .ok (.dup, 1) := by decide +kernel
theorem d_Stacks_enter_95 : decode b_Stacks_enter 95 = .ok (.getfield 41, 3) := by decide +kernel
theorem d_Stacks_enter_98 : decode b_Stacks_enter 98 = .ok (.iconst 1, 1) := by decide +kernel
theorem d_Stacks_enter_99 : decode b_Stacks_enter 99 = .ok (.iadd, 1) := by decide +kernel
theorem d_Stacks_enter_100 : decode b_Stacks_enter 100 = .ok (.putfield 41, 3) := by decide +kernel
theorem d_Stacks_enter_103 : decode b_Stacks_enter 103 = .ok (.iconst 5, 1) := by decide +kernel
theorem d_Stacks_enter_104 : decode b_Stacks_enter 104 = .ok (.ireturn, 1) := by decide +kernel
theorem d_Stacks_hasHandler_0 : decode b_Stacks_hasHandler 0 = .ok (.aload_n 0, 1) := by decide +kernel
theorem d_Stacks_hasHandler_1 : decode b_Stacks_hasHandler 1 = .ok (.getfield 48, 3) := by decide +kernel
theorem d_Stacks_hasHandler_4 : decode b_Stacks_hasHandler 4 = .ok (.ifCond .le 27, 3) := by decide +kernel
theorem d_Stacks_hasHandler_7 : decode b_Stacks_hasHandler 7 = .ok (.aload_n 0, 1) := by decide +kernel
theorem d_Stacks_hasHandler_8 : decode b_Stacks_hasHandler 8 = .ok (.getfield 26, 3) := by decide +kernel
theorem d_Stacks_hasHandler_11 : decode b_Stacks_hasHandler 11 = .ok (.aload_n 0, 1) := by decide +kernel
theorem d_Stacks_hasHandler_12 : decode b_Stacks_hasHandler 12 = .ok (.getfield 48, 3) := by decide +kernel
theorem d_Stacks_hasHandler_15 : decode b_Stacks_hasHandler 15 = .ok (.iconst 1, 1) := by decide +kernel
theorem d_Stacks_hasHandler_16 : decode b_Stacks_hasHandler 16 = .ok (.isub, 1) := by decide +kernel
theorem d_Stacks_hasHandler_17 : decode b_Stacks_hasHandler 17 = .ok (.iaload, 1) := by decide +kernel
theorem d_Stacks_hasHandler_18 : decode b_Stacks_hasHandler 18 = .ok (.aload_n 0, 1) := by decide +kernel
theorem d_Stacks_hasHandler_19 : decode b_Stacks_hasHandler 19 = .ok (.getfield 41, 3) := by decide +kernel
theorem d_Stacks_hasHandler_22 : decode b_Stacks_hasHandler 22 = .ok (.iconst 1, 1) := by decide +kernel
theorem d_Stacks_hasHandler_23 : decode b_Stacks_hasHandler 23 = .ok (.isub, 1) := by decide +kernel
theorem d_Stacks_hasHandler_24 : decode b_Stacks_hasHandler 24 = .ok (.if_icmp .ne 7, 3) := by decide +kernel
theorem d_Stacks_hasHandler_27 : decode b_Stacks_hasHandler 27 = .ok (.iconst 1, 1) := by decide +kernel
theorem d_Stacks_hasHandler_28 : decode b_Stacks_hasHandler 28 = .ok (.goto 4, 3) := by decide +kernel
theorem d_Stacks_hasHandler_31 : decode b_Stacks_hasHandler 31 = .ok (.iconst 0, 1) := by decide +kernel
theorem d_Stacks_hasHandler_32 : decode b_Stacks_hasHandler 32 = .ok (.ireturn, 1) := by decide +kernel
theorem d_Stacks_become_0 : decode b_Stacks_become 0 = .ok (.aload_n 0, 1) := by decide +kernel
theorem d_Stacks_become_1 : decode b_Stacks_become 1 = .ok (.iconst 0, 1) := by decide +kernel
theorem d_Stacks_become_2 : decode b_Stacks_become 2 = .ok (.invokevirtual 82, 3) := by decide +kernel
theorem d_Stacks_become_5 : decode b_Stacks_become 5 = .ok (.lstore_n 1, 1) := by decide +kernel
theorem d_Stacks_become_6 : decode b_Stacks_become 6 = .ok (.aload_n 0, 1) := by decide +kernel
theorem d_Stacks_become_7 : decode b_Stacks_become 7 = .ok (.getfield 23, 3) := by decide +kernel
theorem d_Stacks_become_10 : decode b_Stacks_become 10 = .ok (.aload_n 0, 1) := by decide +kernel
theorem d_Stacks_become_11 : decode b_Stacks_become 11 = .ok (.getfield 41, 3) := by decide +kernel
theorem d_Stacks_become_14 : decode b_Stacks_become 14 = .ok (.iconst 1, 1) := by decide +kernel
theorem d_Stacks_become_15 : decode b_Stacks_become 15 = .ok (.isub, 1) := by decide +kernel
theorem d_Stacks_become_16 : decode b_Stacks_become 16 = .ok (.aload_n 0, 1) := by decide +kernel
theorem d_Stacks_become_17 : decode b_Stacks_become 17 = .ok (.iconst 1, 1) := by decide +kernel
theorem d_Stacks_become_18 : decode b_Stacks_become 18 = .ok (.invokevirtual 82, 3) := by decide +kernel
theorem d_Stacks_become_21 : decode b_Stacks_become 21 = .ok (.lastore, 1) := by decide +kernel
theorem d_Stacks_become_22 : decode b_Stacks_become 22 = .ok (.aload_n 0, 1) := by decide +kernel
theorem d_Stacks_become_23 : decode b_Stacks_become 23 = .ok (.aload_n 0, 1) := by decide +kernel
theorem d_Stacks_become_24 : decode b_Stacks_become 24 = .ok (.getfield 13, 3) := by decide +kernel
theorem d_Stacks_become_27 : decode b_Stacks_become 27 = .ok (.aload_n 0, 1) := by decide +kernel
theorem d_Stacks_become_28 : decode b_Stacks_become 28 = .ok (.getfield 41, 3) := by decide +kernel
theorem d_Stacks_become_31 : decode b_Stacks_become 31 = .ok (.iconst 1, 1) := by decide +kernel
theorem d_Stacks_become_32 : decode b_Stacks_become 32 = .ok (.isub, 1) := by decide +kernel
theorem d_Stacks_become_33 : decode b_Stacks_become 33 = .ok (.iaload, 1) := by decide +kernel
theorem d_Stacks_become_34 : decode b_Stacks_become 34 = .ok (.putfield 45, 3) := by decide +kernel
theorem d_Stacks_become_37 : decode b_Stacks_become 37 = .ok (.aload_n 0, 1) := by decide +kernel
theorem d_Stacks_become_38 : decode b_Stacks_become 38 = .ok (.getfield 7, 3) := by decide +kernel
theorem d_Stacks_become_41 : decode b_Stacks_become 41 = .ok (.aload_n 0, 1) := by decide +kernel
theorem d_Stacks_become_42 : decode b_Stacks_become 42 = .ok (.dup, 1) := by decide +kernel
theorem d_Stacks_become_43 : decode b_Stacks_become 43 = .ok (.getfield 45, 3) := by decide +kernel
theorem d_Stacks_become_46 : decode b_Stacks_become 46 = .ok (.dup_x1, 1) := by decide +kernel
theorem d_Stacks_become_47 : decode b_Stacks_become 47 = .ok (.iconst 1, 1) := by decide +kernel
theorem d_Stacks_become_48 : decode b_Stacks_become 48 = .ok (.iadd, 1) := by decide +kernel
theorem d_Stacks_become_49 : decode b_Stacks_become 49 = .ok (.putfield 45, 3) := by decide +kernel
theorem d_Stacks_become_52 : decode b_Stacks_become 52 = .ok (.lload_n 1, 1) := by decide +kernel
theorem d_Stacks_become_53 : decode b_Stacks_become 53 = .ok (.lastore, 1) := by decide +kernel
theorem d_Stacks_become_54 : decode b_Stacks_become 54 = .ok (.aload_n 0, 1) := by decide +kernel
theorem d_Stacks_become_55 : decode b_Stacks_become 55 = .ok (.getfield 17, 3) := by decide +kernel
theorem d_Stacks_become_58 : decode b_Stacks_become 58 = .ok (.aload_n 0, 1) := by decide +kernel
theorem d_Stacks_become_59 : decode b_Stacks_become 59 = .ok (.getfield 41, 3) := by decide +kernel
theorem d_Stacks_become_62 : decode b_Stacks_become 62 = .ok (.iconst 1, 1) := by decide +kernel
theorem d_Stacks_become_63 : decode b_Stacks_become 63 = .ok (.isub, 1) := by decide +kernel
theorem d_Stacks_become_64 : decode b_Stacks_become 64 = .ok (.aload_n 0, 1) := by decide +kernel
theorem d_Stacks_become_65 : decode b_Stacks_become 65 = .ok (.getfield 45, 3) := by decide +kernel
theorem d_Stacks_become_68 : decode b_Stacks_become 68 = .ok (.iastore, 1) := by decide +kernel
theorem d_Stacks_become_69 : decode b_Stacks_become 69 = .ok (.return_, 1) := by decide +kernel
theorem d_Stacks_leave_0 : decode b_Stacks_leave 0 = .ok (.aload_n 0, 1) := by decide +kernel
theorem d_Stacks_leave_1 : decode b_Stacks_leave 1 = .ok (.iconst 0, 1) := by decide +kernel
theorem d_Stacks_leave_2 : decode b_Stacks_leave 2 = .ok (.invokevirtual 82, 3) := by decide +kernel
theorem d_Stacks_leave_5 : decode b_Stacks_leave 5 = .ok (.lstore_n 1, 1) := by decide +kernel
theorem d_Stacks_leave_6 : decode b_Stacks_leave 6 = .ok (.aload_n 0, 1) := by decide +kernel
theorem d_Stacks_leave_7 : decode b_Stacks_leave 7 = .ok (.dup, 1) := by decide +kernel
theorem d_Stacks_leave_8 : decode b_Stacks_leave 8 = .ok (.getfield 41, 3) := by decide +kernel
theorem d_Stacks_leave_11 : decode b_Stacks_leave 11 = .ok (.iconst 1, 1) := by decide +kernel
theorem d_Stacks_leave_12 : decode b_Stacks_leave 12 = .ok (.isub, 1) := by decide +kernel
theorem d_Stacks_leave_13 : decode b_Stacks_leave 13 = .ok (.putfield 41, 3) := by decide +kernel
theorem d_Stacks_leave_16 : decode b_Stacks_leave 16 = .ok (.aload_n 0, 1) := by decide +kernel
theorem d_Stacks_leave_17 : decode b_Stacks_leave 17 = .ok (.aload_n 0, 1) := by decide +kernel
theorem d_Stacks_leave_18 : decode b_Stacks_leave 18 = .ok (.getfield 13, 3) := by decide +kernel
theorem d_Stacks_leave_21 : decode b_Stacks_leave 21 = .ok (.aload_n 0, 1) := by decide +kernel
theorem d_Stacks_leave_22 : decode b_Stacks_leave 22 = .ok (.getfield 41, 3) := by decide +kernel
theorem d_Stacks_leave_25 : decode b_Stacks_leave 25 = .ok (.iaload, 1) := by decide +kernel
theorem d_Stacks_leave_26 : decode b_Stacks_leave 26 = .ok (.putfield 45, 3) := by decide +kernel
theorem d_Stacks_leave_29 : decode b_Stacks_leave 29 = .ok (.aload_n 0, 1) := by decide +kernel
theorem d_Stacks_leave_30 : decode b_Stacks_leave 30 = .ok (.getfield 7, 3) := by decide +kernel
theorem d_Stacks_leave_33 : decode b_Stacks_leave 33 = .ok (.aload_n 0, 1) := by decide +kernel
theorem d_Stacks_leave_34 : decode b_Stacks_leave 34 = .ok (.dup, 1) := by decide +kernel
theorem d_Stacks_leave_35 : decode b_Stacks_leave 35 = .ok (.getfield 45, 3) := by decide +kernel
theorem d_Stacks_leave_38 : decode b_Stacks_leave 38 = .ok (.dup_x1, 1) := by decide +kernel
theorem d_Stacks_leave_39 : decode b_Stacks_leave 39 = .ok (.iconst 1, 1) := by decide +kernel
theorem d_Stacks_leave_40 : decode b_Stacks_leave 40 = .ok (.iadd, 1) := by decide +kernel
theorem d_Stacks_leave_41 : decode b_Stacks_leave 41 = .ok (.putfield 45, 3) := by decide +kernel
theorem d_Stacks_leave_44 : decode b_Stacks_leave 44 = .ok (.lload_n 1, 1) := by decide +kernel
theorem d_Stacks_leave_45 : decode b_Stacks_leave 45 = .ok (.lastore, 1) := by decide +kernel
theorem d_Stacks_leave_46 : decode b_Stacks_leave 46 = .ok (.aload_n 0, 1) := by decide +kernel
theorem d_Stacks_leave_47 : decode b_Stacks_leave 47 = .ok (.getfield 20, 3) := by decide +kernel
theorem d_Stacks_leave_50 : decode b_Stacks_leave 50 = .ok (.aload_n 0, 1) := by decide +kernel
theorem d_Stacks_leave_51 : decode b_Stacks_leave 51 = .ok (.getfield 41, 3) := by decide +kernel
theorem d_Stacks_leave_54 : decode b_Stacks_leave 54 = .ok (.iaload, 1) := by decide +kernel
theorem d_Stacks_leave_55 : decode b_Stacks_leave 55 = .ok (.ireturn, 1) := by decide +kernel
theorem d_Stacks_widenHandlers_0 : decode b_Stacks_widenHandlers 0 = .ok (.aload_n 0, 1) := by decide +kernel
theorem d_Stacks_widenHandlers_1 : decode b_Stacks_widenHandlers 1 = .ok (.getfield 26, 3) := by decide +kernel
theorem d_Stacks_widenHandlers_4 : decode b_Stacks_widenHandlers 4 = .ok (.arraylength, 1) := by decide +kernel
theorem d_Stacks_widenHandlers_5 : decode b_Stacks_widenHandlers 5 = .ok (.aload_n 0, 1) := by decide +kernel
theorem d_Stacks_widenHandlers_6 : decode b_Stacks_widenHandlers 6 = .ok (.getfield 48, 3) := by decide +kernel
theorem d_Stacks_widenHandlers_9 : decode b_Stacks_widenHandlers 9 = .ok (.iconst 1, 1) := by decide +kernel
theorem d_Stacks_widenHandlers_10 : decode b_Stacks_widenHandlers 10 = .ok (.iadd, 1) := by decide +kernel
theorem d_Stacks_widenHandlers_11 : decode b_Stacks_widenHandlers 11 = .ok (.sipush 1024, 3) := by decide +kernel
theorem d_Stacks_widenHandlers_14 : decode b_Stacks_widenHandlers 14 = .ok (.invokestatic 62, 3) := by decide +kernel
theorem d_Stacks_widenHandlers_17 : decode b_Stacks_widenHandlers 17 = .ok (.istore_n 1, 1) := by decide +kernel
theorem d_Stacks_widenHandlers_18 : decode b_Stacks_widenHandlers 18 = .ok (.aload_n 0, 1) := by decide +kernel
theorem d_Stacks_widenHandlers_19 : decode b_Stacks_widenHandlers 19 = .ok (.aload_n 0, 1) := by decide +kernel
theorem d_Stacks_widenHandlers_20 : decode b_Stacks_widenHandlers 20 = .ok (.getfield 26, 3) := by decide +kernel
theorem d_Stacks_widenHandlers_23 : decode b_Stacks_widenHandlers 23 = .ok (.iload_n 1, 1) := by decide +kernel
theorem d_Stacks_widenHandlers_24 : decode b_Stacks_widenHandlers 24 = .ok (.invokestatic 93, 3) := by decide +kernel
theorem d_Stacks_widenHandlers_27 : decode b_Stacks_widenHandlers 27 = .ok (.putfield 26, 3) := by decide +kernel
theorem d_Stacks_widenHandlers_30 : decode b_Stacks_widenHandlers 30 = .ok (.aload_n 0, 1) := by decide +kernel
theorem d_Stacks_widenHandlers_31 : decode b_Stacks_widenHandlers 31 = .ok (.aload_n 0, 1) := by decide +kernel
theorem d_Stacks_widenHandlers_32 : decode b_Stacks_widenHandlers 32 = .ok (.getfield 29, 3) := by decide +kernel
theorem d_Stacks_widenHandlers_35 : decode b_Stacks_widenHandlers 35 = .ok (.iload_n 1, 1) := by decide +kernel
theorem d_Stacks_widenHandlers_36 : decode b_Stacks_widenHandlers 36 = .ok (.invokestatic 93, 3) := by decide +kernel
theorem d_Stacks_widenHandlers_39 : decode b_Stacks_widenHandlers 39 = .ok (.putfield 29, 3) := by decide +kernel
theorem d_Stacks_widenHandlers_42 : decode b_Stacks_widenHandlers 42 = .ok (.aload_n 0, 1) := by decide +kernel
theorem d_Stacks_widenHandlers_43 : decode b_Stacks_widenHandlers 43 = .ok (.aload_n 0, 1) := by decide +kernel
theorem d_Stacks_widenHandlers_44 : decode b_Stacks_widenHandlers 44 = .ok (.getfield 32, 3) := by decide +kernel
theorem d_Stacks_widenHandlers_47 : decode b_Stacks_widenHandlers 47 = .ok (.iload_n 1, 1) := by decide +kernel
theorem d_Stacks_widenHandlers_48 : decode b_Stacks_widenHandlers 48 = .ok (.invokestatic 93, 3) := by decide +kernel
theorem d_Stacks_widenHandlers_51 : decode b_Stacks_widenHandlers 51 = .ok (.putfield 32, 3) := by decide +kernel
theorem d_Stacks_widenHandlers_54 : decode b_Stacks_widenHandlers 54 = .ok (.aload_n 0, 1) := by decide +kernel
theorem d_Stacks_widenHandlers_55 : decode b_Stacks_widenHandlers 55 = .ok (.aload_n 0, 1) := by decide +kernel
theorem d_Stacks_widenHandlers_56 : decode b_Stacks_widenHandlers 56 = .ok (.getfield 35, 3) := by decide +kernel
theorem d_Stacks_widenHandlers_59 : decode b_Stacks_widenHandlers 59 = .ok (.iload_n 1, 1) := by decide +kernel
theorem d_Stacks_widenHandlers_60 : decode b_Stacks_widenHandlers 60 = .ok (.invokestatic 93, 3) := by decide +kernel
theorem d_Stacks_widenHandlers_63 : decode b_Stacks_widenHandlers 63 = .ok (.putfield 35, 3) := by decide +kernel
theorem d_Stacks_widenHandlers_66 : decode b_Stacks_widenHandlers 66 = .ok (.return_, 1) := by decide +kernel
theorem d_Stacks_addHandler_0 : decode b_Stacks_addHandler 0 = .ok (.aload_n 0, 1) := by decide +kernel
theorem d_Stacks_addHandler_1 : decode b_Stacks_addHandler 1 = .ok (.getfield 48, 3) := by decide +kernel
theorem d_Stacks_addHandler_4 : decode b_Stacks_addHandler 4 = .ok (.sipush 1024, 3) := by decide +kernel
theorem d_Stacks_addHandler_7 : decode b_Stacks_addHandler 7 = .ok (.if_icmp .lt 5, 3) := by decide +kernel
theorem d_Stacks_addHandler_10 : decode b_Stacks_addHandler 10 = .ok (.iconst 3, 1) := by decide +kernel
theorem d_Stacks_addHandler_11 : decode b_Stacks_addHandler 11 = .ok (.ireturn, 1) := by decide +kernel
theorem d_Stacks_addHandler_12 : decode b_Stacks_addHandler 12 = .ok (.aload_n 0, 1) := by decide +kernel
theorem d_Stacks_addHandler_13 : decode b_Stacks_addHandler 13 = .ok (.getfield 48, 3) := by decide +kernel
theorem d_Stacks_addHandler_16 : decode b_Stacks_addHandler 16 = .ok (.aload_n 0, 1) := by decide +kernel
theorem d_Stacks_addHandler_17 : decode b_Stacks_addHandler 17 = .ok (.getfield 26, 3) := by decide +kernel
theorem d_Stacks_addHandler_20 : decode b_Stacks_addHandler 20 = .ok (.arraylength, 1) := by decide +kernel
theorem d_Stacks_addHandler_21 : decode b_Stacks_addHandler 21 = .ok (.if_icmp .lt 7, 3) := by decide +kernel
theorem d_Stacks_addHandler_24 : decode b_Stacks_addHandler 24 = .ok (.aload_n 0, 1) := by decide +kernel
theorem d_Stacks_addHandler_25 : decode b_Stacks_addHandler 25 = .ok (.invokevirtual 96, 3) := by decide +kernel
theorem d_Stacks_addHandler_28 : decode b_Stacks_addHandler 28 = .ok (.aload_n 0, 1) := by decide +kernel
theorem d_Stacks_addHandler_29 : decode b_Stacks_addHandler 29 = .ok (.getfield 26, 3) := by decide +kernel
theorem d_Stacks_addHandler_32 : decode b_Stacks_addHandler 32 = .ok (.aload_n 0, 1) := by decide +kernel
theorem d_Stacks_addHandler_33 : decode b_Stacks_addHandler 33 = .ok (.getfield 48, 3) := by decide +kernel
theorem d_Stacks_addHandler_36 : decode b_Stacks_addHandler 36 = .ok (.aload_n 0, 1) := by decide +kernel
theorem d_Stacks_addHandler_37 : decode b_Stacks_addHandler 37 = .ok (.getfield 41, 3) := by decide +kernel
theorem d_Stacks_addHandler_40 : decode b_Stacks_addHandler 40 = .ok (.iconst 1, 1) := by decide +kernel
theorem d_Stacks_addHandler_41 : decode b_Stacks_addHandler 41 = .ok (.isub, 1) := by decide +kernel
theorem d_Stacks_addHandler_42 : decode b_Stacks_addHandler 42 = .ok (.iastore, 1) := by decide +kernel
theorem d_Stacks_addHandler_43 : decode b_Stacks_addHandler 43 = .ok (.aload_n 0, 1) := by decide +kernel
theorem d_Stacks_addHandler_44 : decode b_Stacks_addHandler 44 = .ok (.getfield 29, 3) := by decide +kernel
theorem d_Stacks_addHandler_47 : decode b_Stacks_addHandler 47 = .ok (.aload_n 0, 1) := by decide +kernel
theorem d_Stacks_addHandler_48 : decode b_Stacks_addHandler 48 = .ok (.getfield 48, 3) := by decide +kernel
theorem d_Stacks_addHandler_51 : decode b_Stacks_addHandler 51 = .ok (.iload_n 1, 1) := by decide +kernel
theorem d_Stacks_addHandler_52 : decode b_Stacks_addHandler 52 = .ok (.iastore, 1) := by decide +kernel
theorem d_Stacks_addHandler_53 : decode b_Stacks_addHandler 53 = .ok (.aload_n 0, 1) := by decide +kernel
theorem d_Stacks_addHandler_54 : decode b_Stacks_addHandler 54 = .ok (.getfield 32, 3) := by decide +kernel
theorem d_Stacks_addHandler_57 : decode b_Stacks_addHandler 57 = .ok (.aload_n 0, 1) := by decide +kernel
theorem d_Stacks_addHandler_58 : decode b_Stacks_addHandler 58 = .ok (.getfield 48, 3) := by decide +kernel
theorem d_Stacks_addHandler_61 : decode b_Stacks_addHandler 61 = .ok (.aload_n 0, 1) := by decide +kernel
theorem d_Stacks_addHandler_62 : decode b_Stacks_addHandler 62 = .ok (.invokevirtual 99, 3) := by decide +kernel
theorem d_Stacks_addHandler_65 : decode b_Stacks_addHandler 65 = .ok (.iastore, 1) := by decide +kernel
theorem d_Stacks_addHandler_66 : decode b_Stacks_addHandler 66 = .ok (.aload_n 0, 1) := by decide +kernel
theorem d_Stacks_addHandler_67 : decode b_Stacks_addHandler 67 = .ok (.getfield 35, 3) := by decide +kernel
theorem d_Stacks_addHandler_70 : decode b_Stacks_addHandler 70 = .ok (.aload_n 0, 1) := by decide +kernel
theorem d_Stacks_addHandler_71 : decode b_Stacks_addHandler 71 = .ok (.getfield 48, 3) := by decide +kernel
theorem d_Stacks_addHandler_74 : decode b_Stacks_addHandler 74 = .ok (.iload_n 2, 1) := by decide +kernel
theorem d_Stacks_addHandler_75 : decode b_Stacks_addHandler 75 = .ok (.iastore, 1) := by decide +kernel
theorem d_Stacks_addHandler_76 : decode b_Stacks_addHandler 76 = .ok (.aload_n 0, 1) := by decide +kernel
theorem d_Stacks_addHandler_77 : decode b_Stacks_addHandler 77 = .ok (.dup, 1) := by decide +kernel
theorem d_Stacks_addHandler_78 : decode b_Stacks_addHandler 78 = .ok (.getfield 48, 3) := by decide +kernel
theorem d_Stacks_addHandler_81 : decode b_Stacks_addHandler 81 = .ok (.iconst 1, 1) := by decide +kernel
theorem d_Stacks_addHandler_82 : decode b_Stacks_addHandler 82 = .ok (.iadd, 1) := by decide +kernel
theorem d_Stacks_addHandler_83 : decode b_Stacks_addHandler 83 = .ok (.putfield 48, 3) := by decide +kernel
theorem d_Stacks_addHandler_86 : decode b_Stacks_addHandler 86 = .ok (.iconst 5, 1) := by decide +kernel
theorem d_Stacks_addHandler_87 : decode b_Stacks_addHandler 87 = .ok (.ireturn, 1) := by decide +kernel
theorem d_Stacks_unwind_0 : decode b_Stacks_unwind 0 = .ok (.aload_n 0, 1) := by decide +kernel
theorem d_Stacks_unwind_1 : decode b_Stacks_unwind 1 = .ok (.getfield 26, 3) := by decide +kernel
theorem d_Stacks_unwind_4 : decode b_Stacks_unwind 4 = .ok (.aload_n 0, 1) := by decide +kernel
theorem d_Stacks_unwind_5 : decode b_Stacks_unwind 5 = .ok (.getfield 48, 3) := by decide +kernel
theorem d_Stacks_unwind_8 : decode b_Stacks_unwind 8 = .ok (.iconst 1, 1) := by decide +kernel
theorem d_Stacks_unwind_9 : decode b_Stacks_unwind 9 = .ok (.isub, 1) := by decide +kernel
theorem d_Stacks_unwind_10 : decode b_Stacks_unwind 10 = .ok (.iaload, 1) := by decide +kernel
theorem d_Stacks_unwind_11 : decode b_Stacks_unwind 11 = .ok (.istore 4, 2) := by decide +kernel
theorem d_Stacks_unwind_13 : decode b_Stacks_unwind 13 = .ok (.iload 4, 2) := by decide +kernel
theorem d_Stacks_unwind_15 : decode b_Stacks_unwind 15 = .ok (.aload_n 0, 1) := by decide +kernel
theorem d_Stacks_unwind_16 : decode b_Stacks_unwind 16 = .ok (.getfield 41, 3) := by decide +kernel
theorem d_Stacks_unwind_19 : decode b_Stacks_unwind 19 = .ok (.iconst 1, 1) := by decide +kernel
theorem d_Stacks_unwind_20 : decode b_Stacks_unwind 20 = .ok (.isub, 1) := by decide +kernel
theorem d_Stacks_unwind_21 : decode b_Stacks_unwind 21 = .ok (.if_icmp .ne 12, 3) := by decide +kernel
theorem d_Stacks_unwind_24 : decode b_Stacks_unwind 24 = .ok (.aload_n 0, 1) := by decide +kernel
theorem d_Stacks_unwind_25 : decode b_Stacks_unwind 25 = .ok (.getfield 45, 3) := by decide +kernel
theorem d_Stacks_unwind_28 : decode b_Stacks_unwind 28 = .ok (.iload_n 3, 1) := by decide +kernel
theorem d_Stacks_unwind_29 : decode b_Stacks_unwind 29 = .ok (.isub, 1) := by decide +kernel
theorem d_Stacks_unwind_30 : decode b_Stacks_unwind 30 = .ok (.goto 12, 3) := by decide +kernel
theorem d_Stacks_unwind_33 : decode b_Stacks_unwind 33 = .ok (.aload_n 0, 1) := by decide +kernel
theorem d_Stacks_unwind_34 : decode b_Stacks_unwind 34 = .ok (.getfield 13, 3) := by decide +kernel
theorem d_Stacks_unwind_37 : decode b_Stacks_unwind 37 = .ok (.iload 4, 2) := by decide +kernel
theorem d_Stacks_unwind_39 : decode b_Stacks_unwind 39 = .ok (.iconst 1, 1) := by decide +kernel
theorem d_Stacks_unwind_40 : decode b_Stacks_unwind 40 = .ok (.iadd, 1) := by decide +kernel
theorem d_Stacks_unwind_41 : decode b_Stacks_unwind 41 = .ok (.iaload, 1) := by decide +kernel
theorem d_Stacks_unwind_42 : decode b_Stacks_unwind 42 = .ok (.istore 5, 2) := by decide +kernel
theorem d_Stacks_unwind_44 : decode b_Stacks_unwind 44 = .ok (.aload_n 0, 1) := by decide +kernel
theorem d_Stacks_unwind_45 : decode b_Stacks_unwind 45 = .ok (.getfield 17, 3) := by decide +kernel
theorem d_Stacks_unwind_48 : decode b_Stacks_unwind 48 = .ok (.iload 4, 2) := by decide +kernel
theorem d_Stacks_unwind_50 : decode b_Stacks_unwind 50 = .ok (.iaload, 1) := by decide +kernel
theorem d_Stacks_unwind_51 : decode b_Stacks_unwind 51 = .ok (.aload_n 0, 1) := by decide +kernel
theorem d_Stacks_unwind_52 : decode b_Stacks_unwind 52 = .ok (.getfield 32, 3) := by decide +kernel
theorem d_Stacks_unwind_55 : decode b_Stacks_unwind 55 = .ok (.aload_n 0, 1) := by decide +kernel
theorem d_Stacks_unwind_56 : decode b_Stacks_unwind 56 = .ok (.getfield 48, 3) := by decide +kernel
theorem d_Stacks_unwind_59 : decode b_Stacks_unwind 59 = .ok (.iconst 1, 1) := by decide +kernel
theorem d_Stacks_unwind_60 : decode b_Stacks_unwind 60 = .ok (.isub, 1) := by decide +kernel
theorem d_Stacks_unwind_61 : decode b_Stacks_unwind 61 = .ok (.iaload, 1) := by decide +kernel
theorem d_Stacks_unwind_62 : decode b_Stacks_unwind 62 = .ok (.iadd, 1) := by decide +kernel
theorem d_Stacks_unwind_63 : decode b_Stacks_unwind 63 = .ok (.istore 6, 2) := by decide +kernel
theorem d_Stacks_unwind_65 : decode b_Stacks_unwind 65 = .ok (.iload 6, 2) := by decide +kernel
theorem d_Stacks_unwind_67 : decode b_Stacks_unwind 67 = .ok (.iload 5, 2) := by decide +kernel
theorem d_Stacks_unwind_69 : decode b_Stacks_unwind 69 = .ok (.if_icmp .le 5, 3) := by decide +kernel
theorem d_Stacks_unwind_72 : decode b_Stacks_unwind 72 = .ok (.iconst 0, 1) := by decide +kernel
theorem d_Stacks_unwind_73 : decode b_Stacks_unwind 73 = .ok (.ireturn, 1) := by decide +kernel
theorem d_Stacks_unwind_74 : decode b_Stacks_unwind 74 = .ok (.aload_n 0, 1) := by decide +kernel
theorem d_Stacks_unwind_75 : decode b_Stacks_unwind 75 = .ok (.dup, 1) := by decide +kernel
theorem d_Stacks_unwind_76 : decode b_Stacks_unwind 76 = .ok (.getfield 48, 3) := by decide +kernel
theorem d_Stacks_unwind_79 : decode b_Stacks_unwind 79 = .ok (.iconst 1, 1) := by decide +kernel
theorem d_Stacks_unwind_80 : decode b_Stacks_unwind 80 = .ok (.isub, 1) := by decide +kernel
theorem d_Stacks_unwind_81 : decode b_Stacks_unwind 81 = .ok (.putfield 48, 3) := by decide +kernel
theorem d_Stacks_unwind_84 : decode b_Stacks_unwind 84 = .ok (.aload_n 0, 1) := by decide +kernel
theorem d_Stacks_unwind_85 : decode b_Stacks_unwind 85 = .ok (.iload 4, 2) := by decide +kernel
theorem d_Stacks_unwind_87 : decode b_Stacks_unwind 87 = .ok (.iconst 1, 1) := by decide +kernel
theorem d_Stacks_unwind_88 : decode b_Stacks_unwind 88 = .ok (.iadd, 1) := by decide +kernel
theorem d_Stacks_unwind_89 : decode b_Stacks_unwind 89 = .ok (.putfield 41, 3) := by decide +kernel
theorem d_Stacks_unwind_92 : decode b_Stacks_unwind 92 = .ok (.aload_n 0, 1) := by decide +kernel
theorem d_Stacks_unwind_93 : decode b_Stacks_unwind 93 = .ok (.iload 6, 2) := by decide +kernel
theorem d_Stacks_unwind_95 : decode b_Stacks_unwind 95 = .ok (.putfield 45, 3) := by decide +kernel
theorem d_Stacks_unwind_98 : decode b_Stacks_unwind 98 = .ok (.aload_n 0, 1) := by decide +kernel
theorem d_Stacks_unwind_99 : decode b_Stacks_unwind 99 = .ok (.getfield 7, 3) := by decide +kernel
theorem d_Stacks_unwind_102 : decode b_Stacks_unwind 102 = .ok (.aload_n 0, 1) := by decide +kernel
theorem d_Stacks_unwind_103 : decode b_Stacks_unwind 103 = .ok (.dup, 1) := by decide +kernel
theorem d_Stacks_unwind_104 : decode b_Stacks_unwind 104 = .ok (.getfield 45, 3) := by decide +kernel
theorem d_Stacks_unwind_107 : decode b_Stacks_unwind 107 = .ok (.dup_x1, 1) := by decide +kernel
theorem d_Stacks_unwind_108 : decode b_Stacks_unwind 108 = .ok (.iconst 1, 1) := by decide +kernel
theorem d_Stacks_unwind_109 : decode b_Stacks_unwind 109 = .ok (.iadd, 1) := by decide +kernel
theorem d_Stacks_unwind_110 : decode b_Stacks_unwind 110 = .ok (.putfield 45, 3) := by decide +kernel
theorem d_Stacks_unwind_113 : decode b_Stacks_unwind 113 = .ok (.lload_n 1, 1) := by decide +kernel
theorem d_Stacks_unwind_114 : decode b_Stacks_unwind 114 = .ok (.lastore, 1) := by decide +kernel
theorem d_Stacks_unwind_115 : decode b_Stacks_unwind 115 = .ok (.iconst 1, 1) := by decide +kernel
theorem d_Stacks_unwind_116 : decode b_Stacks_unwind 116 = .ok (.ireturn, 1) := by decide +kernel
theorem d_Stacks_setLocals_0 : decode b_Stacks_setLocals 0 = .ok (.iload_n 1, 1) := by decide +kernel
theorem d_Stacks_setLocals_1 : decode b_Stacks_setLocals 1 = .ok (.ifCond .lt 10, 3) := by decide +kernel
theorem d_Stacks_setLocals_4 : decode b_Stacks_setLocals 4 = .ok (.iload_n 1, 1) := by decide +kernel
theorem d_Stacks_setLocals_5 : decode b_Stacks_setLocals 5 = .ok (.sipush 16383, 3) := by decide +kernel
theorem d_Stacks_setLocals_8 : decode b_Stacks_setLocals 8 = .ok (.if_icmp .le 5, 3) := by decide +kernel
theorem d_Stacks_setLocals_11 : decode b_Stacks_setLocals 11 = .ok (.iconst 4, 1) := by decide +kernel
theorem d_Stacks_setLocals_12 : decode b_Stacks_setLocals 12 = .ok (.ireturn, 1) := by decide +kernel
theorem d_Stacks_setLocals_13 : decode b_Stacks_setLocals 13 = .ok (.aload_n 0, 1) := by decide +kernel
theorem d_Stacks_setLocals_14 : decode b_Stacks_setLocals 14 = .ok (.getfield 13, 3) := by decide +kernel
theorem d_Stacks_setLocals_17 : decode b_Stacks_setLocals 17 = .ok (.aload_n 0, 1) := by decide +kernel
theorem d_Stacks_setLocals_18 : decode b_Stacks_setLocals 18 = .ok (.getfield 41, 3) := by decide +kernel
theorem d_Stacks_setLocals_21 : decode b_Stacks_setLocals 21 = .ok (.iconst 1, 1) := by decide +kernel
theorem d_Stacks_setLocals_22 : decode b_Stacks_setLocals 22 = .ok (.isub, 1) := by decide +kernel
theorem d_Stacks_setLocals_23 : decode b_Stacks_setLocals 23 = .ok (.iaload, 1) := by decide +kernel
theorem d_Stacks_setLocals_24 : decode b_Stacks_setLocals 24 = .ok (.istore_n 2, 1) := by decide +kernel
theorem d_Stacks_setLocals_25 : decode b_Stacks_setLocals 25 = .ok (.iload_n 2, 1) := by decide +kernel
theorem d_Stacks_setLocals_26 : decode b_Stacks_setLocals 26 = .ok (.iload_n 1, 1) := by decide +kernel
theorem d_Stacks_setLocals_27 : decode b_Stacks_setLocals 27 = .ok (.iadd, 1) := by decide +kernel
theorem d_Stacks_setLocals_28 : decode b_Stacks_setLocals 28 = .ok (.istore_n 3, 1) := by decide +kernel
theorem d_Stacks_setLocals_29 : decode b_Stacks_setLocals 29 = .ok (.iload_n 3, 1) := by decide +kernel
theorem d_Stacks_setLocals_30 : decode b_Stacks_setLocals 30 = .ok (.ldc 51, 2) := by decide +kernel
theorem d_Stacks_setLocals_32 : decode b_Stacks_setLocals 32 = .ok (.if_icmp .le 5, 3) := by decide +kernel
theorem d_Stacks_setLocals_35 : decode b_Stacks_setLocals 35 = .ok (.iconst 3, 1) := by decide +kernel
theorem d_Stacks_setLocals_36 : decode b_Stacks_setLocals 36 = .ok (.ireturn, 1) := by decide +kernel
theorem d_Stacks_setLocals_37 : decode b_Stacks_setLocals 37 = .ok (.iload_n 3, 1) := by decide +kernel
theorem d_Stacks_setLocals_38 : decode b_Stacks_setLocals 38 = .ok (.aload_n 0, 1) := by decide +kernel
theorem d_Stacks_setLocals_39 : decode b_Stacks_setLocals 39 = .ok (.getfield 7, 3) := by decide +kernel
theorem d_Stacks_setLocals_42 : decode b_Stacks_setLocals 42 = .ok (.arraylength, 1) := by decide +kernel
theorem d_Stacks_setLocals_43 : decode b_Stacks_setLocals 43 = .ok (.if_icmp .le 8, 3) := by decide +kernel
theorem d_Stacks_setLocals_46 : decode b_Stacks_setLocals 46 = .ok (.aload_n 0, 1) := by decide +kernel
theorem d_Stacks_setLocals_47 : decode b_Stacks_setLocals 47 = .ok (.iload_n 3, 1) := by decide +kernel
theorem d_Stacks_setLocals_48 : decode b_Stacks_setLocals 48 = .ok (.invokevirtual 58, 3) := by decide +kernel
theorem d_Stacks_setLocals_51 : decode b_Stacks_setLocals 51 = .ok (.aload_n 0, 1) := by decide +kernel
theorem d_Stacks_setLocals_52 : decode b_Stacks_setLocals 52 = .ok (.getfield 17, 3) := by decide +kernel
theorem d_Stacks_setLocals_55 : decode b_Stacks_setLocals 55 = .ok (.aload_n 0, 1) := by decide +kernel
theorem d_Stacks_setLocals_56 : decode b_Stacks_setLocals 56 = .ok (.getfield 41, 3) := by decide +kernel
theorem d_Stacks_setLocals_59 : decode b_Stacks_setLocals 59 = .ok (.iconst 1, 1) := by decide +kernel
theorem d_Stacks_setLocals_60 : decode b_Stacks_setLocals 60 = .ok (.isub, 1) := by decide +kernel
theorem d_Stacks_setLocals_61 : decode b_Stacks_setLocals 61 = .ok (.iaload, 1) := by decide +kernel
theorem d_Stacks_setLocals_62 : decode b_Stacks_setLocals 62 = .ok (.istore 4, 2) := by decide +kernel
theorem d_Stacks_setLocals_64 : decode b_Stacks_setLocals 64 = .ok (.iload 4, 2) := by decide +kernel
theorem d_Stacks_setLocals_66 : decode b_Stacks_setLocals 66 = .ok (.iload_n 3, 1) := by decide +kernel
theorem d_Stacks_setLocals_67 : decode b_Stacks_setLocals 67 = .ok (.if_icmp .ge 17, 3) := by decide +kernel
theorem d_Stacks_setLocals_70 : decode b_Stacks_setLocals 70 = .ok (.aload_n 0, 1) := by decide +kernel
theorem d_Stacks_setLocals_71 : decode b_Stacks_setLocals 71 = .ok (.getfield 7, 3) := by decide +kernel
theorem d_Stacks_setLocals_74 : decode b_Stacks_setLocals 74 = .ok (.iload 4, 2) := by decide +kernel
theorem d_Stacks_setLocals_76 : decode b_Stacks_setLocals 76 = .ok (.lconst 0, 1) := by decide +kernel
theorem d_Stacks_setLocals_77 : decode b_Stacks_setLocals 77 = .ok (.lastore, 1) := by decide +kernel
theorem d_Stacks_setLocals_78 : decode b_Stacks_setLocals 78 = .ok (.iinc 4 1, 3) := by decide +kernel
theorem d_Stacks_setLocals_81 : decode b_Stacks_setLocals 81 = .ok (.goto (-17), 3) := by decide +kernel
theorem d_Stacks_setLocals_84 : decode b_Stacks_setLocals 84 = .ok (.aload_n 0, 1) := by decide +kernel
theorem d_Stacks_setLocals_85 : decode b_Stacks_setLocals 85 = .ok (.getfield 17, 3) := by decide +kernel
theorem d_Stacks_setLocals_88 : decode b_Stacks_setLocals 88 = .ok (.aload_n 0, 1) := by decide +kernel
theorem d_Stacks_setLocals_89 : decode b_Stacks_setLocals 89 = .ok (.getfield 41, 3) := by decide +kernel
theorem d_Stacks_setLocals_92 : decode b_Stacks_setLocals 92 = .ok (.iconst 1, 1) := by decide +kernel
theorem d_Stacks_setLocals_93 : decode b_Stacks_setLocals 93 = .ok (.isub, 1) := by decide +kernel
theorem d_Stacks_setLocals_94 : decode b_Stacks_setLocals 94 = .ok (.iload_n 3, 1) := by decide +kernel
theorem d_Stacks_setLocals_95 : decode b_Stacks_setLocals 95 = .ok (.iastore, 1) := by decide +kernel
theorem d_Stacks_setLocals_96 : decode b_Stacks_setLocals 96 = .ok (.aload_n 0, 1) := by decide +kernel
theorem d_Stacks_setLocals_97 : decode b_Stacks_setLocals 97 = .ok (.iload_n 3, 1) := by decide +kernel
theorem d_Stacks_setLocals_98 : decode b_Stacks_setLocals 98 = .ok (.putfield 45, 3) := by decide +kernel
theorem d_Stacks_setLocals_101 : decode b_Stacks_setLocals 101 = .ok (.iconst 5, 1) := by decide +kernel
theorem d_Stacks_setLocals_102 : decode b_Stacks_setLocals 102 = .ok (.ireturn, 1) := by decide +kernel
theorem d_Stacks_swap_0 : decode b_Stacks_swap 0 = .ok (.aload_n 0, 1) := by decide +kernel
theorem d_Stacks_swap_1 : decode b_Stacks_swap 1 = .ok (.getfield 7, 3) := by decide +kernel
theorem d_Stacks_swap_4 : decode b_Stacks_swap 4 = .ok (.aload_n 0, 1) := by decide +kernel
theorem d_Stacks_swap_5 : decode b_Stacks_swap 5 = .ok (.getfield 45, 3) := by decide +kernel
theorem d_Stacks_swap_8 : decode b_Stacks_swap 8 = .ok (.iconst 1, 1) := by decide +kernel
theorem d_Stacks_swap_9 : decode b_Stacks_swap 9 = .ok (.isub, 1) := by decide +kernel
theorem d_Stacks_swap_10 : decode b_Stacks_swap 10 = .ok (.laload, 1) := by decide +kernel
theorem d_Stacks_swap_11 : decode b_Stacks_swap 11 = .ok (.lstore_n 1, 1) := by decide +kernel
theorem d_Stacks_swap_12 : decode b_Stacks_swap 12 = .ok (.aload_n 0, 1) := by decide +kernel
theorem d_Stacks_swap_13 : decode b_Stacks_swap 13 = .ok (.getfield 7, 3) := by decide +kernel
theorem d_Stacks_swap_16 : decode b_Stacks_swap 16 = .ok (.aload_n 0, 1) := by decide +kernel
theorem d_Stacks_swap_17 : decode b_Stacks_swap 17 = .ok (.getfield 45, 3) := by decide +kernel
theorem d_Stacks_swap_20 : decode b_Stacks_swap 20 = .ok (.iconst 1, 1) := by decide +kernel
theorem d_Stacks_swap_21 : decode b_Stacks_swap 21 = .ok (.isub, 1) := by decide +kernel
theorem d_Stacks_swap_22 : decode b_Stacks_swap 22 = .ok (.aload_n 0, 1) := by decide +kernel
theorem d_Stacks_swap_23 : decode b_Stacks_swap 23 = .ok (.getfield 7, 3) := by decide +kernel
theorem d_Stacks_swap_26 : decode b_Stacks_swap 26 = .ok (.aload_n 0, 1) := by decide +kernel
theorem d_Stacks_swap_27 : decode b_Stacks_swap 27 = .ok (.getfield 45, 3) := by decide +kernel
theorem d_Stacks_swap_30 : decode b_Stacks_swap 30 = .ok (.iconst 2, 1) := by decide +kernel
theorem d_Stacks_swap_31 : decode b_Stacks_swap 31 = .ok (.isub, 1) := by decide +kernel
theorem d_Stacks_swap_32 : decode b_Stacks_swap 32 = .ok (.laload, 1) := by decide +kernel
theorem d_Stacks_swap_33 : decode b_Stacks_swap 33 = .ok (.lastore, 1) := by decide +kernel
theorem d_Stacks_swap_34 : decode b_Stacks_swap 34 = .ok (.aload_n 0, 1) := by decide +kernel
theorem d_Stacks_swap_35 : decode b_Stacks_swap 35 = .ok (.getfield 7, 3) := by decide +kernel
theorem d_Stacks_swap_38 : decode b_Stacks_swap 38 = .ok (.aload_n 0, 1) := by decide +kernel
theorem d_Stacks_swap_39 : decode b_Stacks_swap 39 = .ok (.getfield 45, 3) := by decide +kernel
theorem d_Stacks_swap_42 : decode b_Stacks_swap 42 = .ok (.iconst 2, 1) := by decide +kernel
theorem d_Stacks_swap_43 : decode b_Stacks_swap 43 = .ok (.isub, 1) := by decide +kernel
theorem d_Stacks_swap_44 : decode b_Stacks_swap 44 = .ok (.lload_n 1, 1) := by decide +kernel
theorem d_Stacks_swap_45 : decode b_Stacks_swap 45 = .ok (.lastore, 1) := by decide +kernel
theorem d_Stacks_swap_46 : decode b_Stacks_swap 46 = .ok (.iconst 5, 1) := by decide +kernel
theorem d_Stacks_swap_47 : decode b_Stacks_swap 47 = .ok (.ireturn, 1) := by decide +kernel
theorem k53 : Cond.fieldLink R_Stacks 45 "CellEngine$Stacks" "top" "I" ∈ lw_g := kg (List.mem_append_right _ (List.mem_of_getElem? (i := 34) (by decide +kernel))) rfl
theorem k54 : Cond.fieldLink R_Stacks 41 "CellEngine$Stacks" "frames" "I" ∈ lw_g := kg (List.mem_append_right _ (List.mem_of_getElem? (i := 43) (by decide +kernel))) rfl
theorem k55 : Cond.fieldLink R_Stacks 48 "CellEngine$Stacks" "handlers" "I" ∈ lw_g := kg (List.mem_append_right _ (List.mem_of_getElem? (i := 52) (by decide +kernel))) rfl
theorem k56 : Cond.fieldLink R_Stacks 13 "CellEngine$Stacks" "bases" "[I" ∈ lw_g := kg (List.mem_append_right _ (List.mem_of_getElem? (i := 38) (by decide +kernel))) rfl
theorem k57 : Cond.fieldLink R_Stacks 17 "CellEngine$Stacks" "floors" "[I" ∈ lw_g := kg (List.mem_append_right _ (List.mem_of_getElem? (i := 39) (by decide +kernel))) rfl
theorem k58 : Cond.fieldLink R_Stacks 20 "CellEngine$Stacks" "returns" "[I" ∈ lw_g := kg (List.mem_append_right _ (List.mem_of_getElem? (i := 40) (by decide +kernel))) rfl
theorem k59 : Cond.fieldLink R_Stacks 23 "CellEngine$Stacks" "closures" "[J" ∈ lw_g := kg (List.mem_append_right _ (List.mem_of_getElem? (i := 41) (by decide +kernel))) rfl
theorem k60 : Cond.code y_Stacks_clear b_Stacks_clear 1 none ∈ lw_g := kg (List.mem_append_right _ (List.mem_of_getElem? (i := 431) (by decide +kernel))) rfl
theorem k61 : Cond.methodLink R_Stacks 38 y_Stacks_clear ∈ lw_g := kg (List.mem_append_right _ (List.mem_of_getElem? (i := 428) (by decide +kernel))) rfl
theorem k62 : Cond.instanceMethod y_Stacks_clear ∈ lw_g := kg (List.mem_append_right _ (List.mem_of_getElem? (i := 429) (by decide +kernel))) rfl
theorem k63 : Cond.selects R_Stacks y_Stacks_clear y_Stacks_clear ∈ lw_g := kg (List.mem_append_right _ (List.mem_of_getElem? (i := 430) (by decide +kernel))) rfl
theorem k64 : Cond.initialized R_Stacks ∈ lw_g := kg (List.mem_append_right _ (List.mem_of_getElem? (i := 2) (by decide +kernel))) rfl
theorem k65 : Cond.fieldLink R_Stacks 7 "CellEngine$Stacks" "values" "[J" ∈ lw_g := kg (List.mem_append_right _ (List.mem_of_getElem? (i := 31) (by decide +kernel))) rfl
theorem k66 : Cond.constant R_Stacks 51 65536 ∈ lw_g := kg (List.mem_append_right _ (List.mem_of_getElem? (i := 480) (by decide +kernel))) rfl
theorem k67 : Cond.code y_Arrays_copyOfJ b_Arrays_copyOfJ 3 (some (.array .long)) ∈ lw_g := kg (List.mem_append_right _ (List.mem_of_getElem? (i := 488) (by decide +kernel))) rfl
theorem k68 : Cond.methodLink R_Stacks 68 y_Arrays_copyOfJ ∈ lw_g := kg (List.mem_append_right _ (List.mem_of_getElem? (i := 486) (by decide +kernel))) rfl
theorem k69 : Cond.static y_Arrays_copyOfJ ∈ lw_g := kg (List.mem_append_right _ (List.mem_of_getElem? (i := 487) (by decide +kernel))) rfl
theorem k70 : Cond.code y_Stacks_isFull b_Stacks_isFull 1 (some .boolean) ∈ lw_g := kg (List.mem_append_right _ (List.mem_of_getElem? (i := 479) (by decide +kernel))) rfl
theorem k71 : Cond.methodLink R_Stacks 52 y_Stacks_isFull ∈ lw_g := kg (List.mem_append_right _ (List.mem_of_getElem? (i := 476) (by decide +kernel))) rfl
theorem k72 : Cond.instanceMethod y_Stacks_isFull ∈ lw_g := kg (List.mem_append_right _ (List.mem_of_getElem? (i := 477) (by decide +kernel))) rfl
theorem k73 : Cond.selects R_Stacks y_Stacks_isFull y_Stacks_isFull ∈ lw_g := kg (List.mem_append_right _ (List.mem_of_getElem? (i := 478) (by decide +kernel))) rfl
theorem k74 : Cond.code y_Stacks_widen b_Stacks_widen 2 none ∈ lw_g := kg (List.mem_append_right _ (List.mem_of_getElem? (i := 484) (by decide +kernel))) rfl
theorem k75 : Cond.methodLink R_Stacks 58 y_Stacks_widen ∈ lw_g := kg (List.mem_append_right _ (List.mem_of_getElem? (i := 481) (by decide +kernel))) rfl
theorem k76 : Cond.instanceMethod y_Stacks_widen ∈ lw_g := kg (List.mem_append_right _ (List.mem_of_getElem? (i := 483) (by decide +kernel))) rfl
theorem k77 : Cond.selects R_Stacks y_Stacks_widen y_Stacks_widen ∈ lw_g := kg (List.mem_append_left _ (List.mem_of_getElem? (i := 4) (by decide +kernel))) rfl
theorem k78 : Cond.code y_Stacks_locals b_Stacks_locals 1 (some .int) ∈ lw_g := kg (List.mem_append_right _ (List.mem_of_getElem? (i := 564) (by decide +kernel))) rfl
theorem k79 : Cond.methodLink R_Stacks 74 y_Stacks_locals ∈ lw_g := kg (List.mem_append_right _ (List.mem_of_getElem? (i := 561) (by decide +kernel))) rfl
theorem k80 : Cond.instanceMethod y_Stacks_locals ∈ lw_g := kg (List.mem_append_right _ (List.mem_of_getElem? (i := 562) (by decide +kernel))) rfl
theorem k81 : Cond.selects R_Stacks y_Stacks_locals y_Stacks_locals ∈ lw_g := kg (List.mem_append_right _ (List.mem_of_getElem? (i := 563) (by decide +kernel))) rfl
theorem k82 : Cond.code y_Stacks_push b_Stacks_push 3 (some .int) ∈ lw_g := kg (List.mem_append_right _ (List.mem_of_getElem? (i := 475) (by decide +kernel))) rfl
theorem k83 : Cond.methodLink R_Stacks 78 y_Stacks_push ∈ lw_g := kg (List.mem_append_right _ (List.mem_of_getElem? (i := 565) (by decide +kernel))) rfl
theorem k84 : Cond.instanceMethod y_Stacks_push ∈ lw_g := kg (List.mem_append_right _ (List.mem_of_getElem? (i := 473) (by decide +kernel))) rfl
theorem k85 : Cond.selects R_Stacks y_Stacks_push y_Stacks_push ∈ lw_g := kg (List.mem_append_right _ (List.mem_of_getElem? (i := 474) (by decide +kernel))) rfl
theorem k86 : Cond.code y_Stacks_peek b_Stacks_peek 2 (some .long) ∈ lw_g := kg (List.mem_append_right _ (List.mem_of_getElem? (i := 464) (by decide +kernel))) rfl
theorem k87 : Cond.methodLink R_Stacks 82 y_Stacks_peek ∈ lw_g := kg (List.mem_append_right _ (List.mem_of_getElem? (i := 570) (by decide +kernel))) rfl
theorem k88 : Cond.instanceMethod y_Stacks_peek ∈ lw_g := kg (List.mem_append_right _ (List.mem_of_getElem? (i := 462) (by decide +kernel))) rfl
theorem k89 : Cond.selects R_Stacks y_Stacks_peek y_Stacks_peek ∈ lw_g := kg (List.mem_append_right _ (List.mem_of_getElem? (i := 463) (by decide +kernel))) rfl
theorem k90 : Cond.methodLink R_Stacks 93 y_Arrays_copyOfI ∈ lw_g := kg (List.mem_append_right _ (List.mem_of_getElem? (i := 668) (by decide +kernel))) rfl
theorem k91 : Cond.code y_Stacks_replace b_Stacks_replace 4 (some .int) ∈ lw_g := kg (List.mem_append_right _ (List.mem_of_getElem? (i := 627) (by decide +kernel))) rfl
theorem k92 : Cond.methodLink R_Stacks 89 y_Stacks_replace ∈ lw_g := kg (List.mem_append_right _ (List.mem_of_getElem? (i := 669) (by decide +kernel))) rfl
theorem k93 : Cond.instanceMethod y_Stacks_replace ∈ lw_g := kg (List.mem_append_right _ (List.mem_of_getElem? (i := 625) (by decide +kernel))) rfl
theorem k94 : Cond.selects R_Stacks y_Stacks_replace y_Stacks_replace ∈ lw_g := kg (List.mem_append_right _ (List.mem_of_getElem? (i := 626) (by decide +kernel))) rfl
theorem k95 : Cond.code y_Stacks_widenFrames b_Stacks_widenFrames 2 none ∈ lw_g := kg (List.mem_append_right _ (List.mem_of_getElem? (i := 667) (by decide +kernel))) rfl
theorem k96 : Cond.methodLink R_Stacks 86 y_Stacks_widenFrames ∈ lw_g := kg (List.mem_append_right _ (List.mem_of_getElem? (i := 664) (by decide +kernel))) rfl
theorem k97 : Cond.instanceMethod y_Stacks_widenFrames ∈ lw_g := kg (List.mem_append_right _ (List.mem_of_getElem? (i := 666) (by decide +kernel))) rfl
theorem k98 : Cond.selects R_Stacks y_Stacks_widenFrames y_Stacks_widenFrames ∈ lw_g := kg (List.mem_append_left _ (List.mem_of_getElem? (i := 8) (by decide +kernel))) rfl
theorem k99 : Cond.fieldLink R_Stacks 26 "CellEngine$Stacks" "handlerFrames" "[I" ∈ lw_g := kg (List.mem_append_right _ (List.mem_of_getElem? (i := 46) (by decide +kernel))) rfl
theorem k100 : Cond.fieldLink R_Stacks 29 "CellEngine$Stacks" "handlerPlaces" "[I" ∈ lw_g := kg (List.mem_append_right _ (List.mem_of_getElem? (i := 47) (by decide +kernel))) rfl
theorem k101 : Cond.fieldLink R_Stacks 32 "CellEngine$Stacks" "handlerHeights" "[I" ∈ lw_g := kg (List.mem_append_right _ (List.mem_of_getElem? (i := 49) (by decide +kernel))) rfl
theorem k102 : Cond.fieldLink R_Stacks 35 "CellEngine$Stacks" "handlerDepths" "[I" ∈ lw_g := kg (List.mem_append_right _ (List.mem_of_getElem? (i := 50) (by decide +kernel))) rfl
theorem k103 : Cond.code y_Stacks_height b_Stacks_height 1 (some .int) ∈ lw_g := kg (List.mem_append_right _ (List.mem_of_getElem? (i := 450) (by decide +kernel))) rfl
theorem k104 : Cond.methodLink R_Stacks 99 y_Stacks_height ∈ lw_g := kg (List.mem_append_right _ (List.mem_of_getElem? (i := 720) (by decide +kernel))) rfl
theorem k105 : Cond.instanceMethod y_Stacks_height ∈ lw_g := kg (List.mem_append_right _ (List.mem_of_getElem? (i := 448) (by decide +kernel))) rfl
theorem k106 : Cond.selects R_Stacks y_Stacks_height y_Stacks_height ∈ lw_g := kg (List.mem_append_right _ (List.mem_of_getElem? (i := 449) (by decide +kernel))) rfl
theorem k107 : Cond.code y_Stacks_widenHandlers b_Stacks_widenHandlers 2 none ∈ lw_g := kg (List.mem_append_right _ (List.mem_of_getElem? (i := 719) (by decide +kernel))) rfl
theorem k108 : Cond.methodLink R_Stacks 96 y_Stacks_widenHandlers ∈ lw_g := kg (List.mem_append_right _ (List.mem_of_getElem? (i := 716) (by decide +kernel))) rfl
theorem k109 : Cond.instanceMethod y_Stacks_widenHandlers ∈ lw_g := kg (List.mem_append_right _ (List.mem_of_getElem? (i := 718) (by decide +kernel))) rfl
theorem k110 : Cond.selects R_Stacks y_Stacks_widenHandlers y_Stacks_widenHandlers ∈ lw_g := kg (List.mem_append_left _ (List.mem_of_getElem? (i := 14) (by decide +kernel))) rfl
set_option maxHeartbeats 4000000 in
set_option maxRecDepth 100000 in
theorem c_Stacks_clear (l : Launch) (dC : Nat → ClassId) (dI : Nat → Nat → Nat) (N : Nat) (o_Stacks : Nat) (r_S_values : Nat) (r_S_bases : Nat) (r_S_floors : Nat) (r_S_returns : Nat) (r_S_closures : Nat) (r_S_handlerFrames : Nat) (r_S_handlerPlaces : Nat) (r_S_handlerHeights : Nat) (r_S_handlerDepths : Nat) (S_top : Int32) (S_frames : Int32) (S_handlers : Int32) (sz : Nat) (z : Int32 × Int32 × Int32) (h : m_Stacks_clear N S_top S_frames S_handlers = some z) : Met l y_Stacks_clear (.code y_Stacks_clear b_Stacks_clear 1 none :: lw_g) ({ frames := 0, cells := 0, slots := 0, locals := 0 }) (va_Pc [.ref o_Stacks] (fun U => dz_N U ∧ U.heap.size = sz ∧ va_P (dC, dI) classes [(o_Stacks, .inr (2, [.ref r_S_values, .int S_top, .ref r_S_bases, .ref r_S_floors, .ref r_S_returns, .ref r_S_closures, .int S_frames, .ref r_S_handlerFrames, .ref r_S_handlerPlaces, .ref r_S_handlerHeights, .ref r_S_handlerDepths, .int S_handlers]))] U.heap ∧ va_K (dC, dI) classes [] U ∧ va_D (fun _ => True) [(o_Stacks, .inr (2, [.ref r_S_values, .int S_top, .ref r_S_bases, .ref r_S_floors, .ref r_S_returns, .ref r_S_closures, .int S_frames, .ref r_S_handlerFrames, .ref r_S_handlerPlaces, .ref r_S_handlerHeights, .ref r_S_handlerDepths, .int S_handlers]))])) (va_Qv (fun (_ : Unit) => True) (fun (u : Unit) t => va_P (dC, dI) classes [(o_Stacks, .inr (2, [.ref r_S_values, .int z.2.2, .ref r_S_bases, .ref r_S_floors, .ref r_S_returns, .ref r_S_closures, .int z.1, .ref r_S_handlerFrames, .ref r_S_handlerPlaces, .ref r_S_handlerHeights, .ref r_S_handlerDepths, .int z.2.1]))] t.heap ∧ va_K (dC, dI) classes [] t ∧ va_D (va_A [(o_Stacks, .inr (2, [.ref r_S_values, .int S_top, .ref r_S_bases, .ref r_S_floors, .ref r_S_returns, .ref r_S_closures, .int S_frames, .ref r_S_handlerFrames, .ref r_S_handlerPlaces, .ref r_S_handlerHeights, .ref r_S_handlerDepths, .int S_handlers]))] sz) [(o_Stacks, .inr (2, [.ref r_S_values, .int z.2.2, .ref r_S_bases, .ref r_S_floors, .ref r_S_returns, .ref r_S_closures, .int z.1, .ref r_S_handlerFrames, .ref r_S_handlerPlaces, .ref r_S_handlerHeights, .ref r_S_handlerDepths, .int z.2.1]))]) (va_A [(o_Stacks, .inr (2, [.ref r_S_values, .int S_top, .ref r_S_bases, .ref r_S_floors, .ref r_S_returns, .ref r_S_closures, .int S_frames, .ref r_S_handlerFrames, .ref r_S_handlerPlaces, .ref r_S_handlerHeights, .ref r_S_handlerDepths, .int S_handlers]))] sz)) 0 0 (va_A [(o_Stacks, .inr (2, [.ref r_S_values, .int S_top, .ref r_S_bases, .ref r_S_floors, .ref r_S_returns, .ref r_S_closures, .int S_frames, .ref r_S_handlerFrames, .ref r_S_handlerPlaces, .ref r_S_handlerHeights, .ref r_S_handlerDepths, .int S_handlers]))] sz) := by
  refine Met.ofW (cc := b_Stacks_clear) (maxL := 1) (ret := none) (by decide +kernel) rfl ?_
  intro p e s m args below meth c s₁ B hml hv
  obtain ⟨rfl, hN, hsz, hP, hK, hD0⟩ := hv
  have hx := B.exec
  have hb := B.bytes
  have hr := B.returns
  have hg : ∀ w ∈ lw_g, w.before _ s = true := fun w hw => atoms_spec (ws := .code y_Stacks_clear b_Stacks_clear 1 none :: lw_g) B.pre w (List.mem_cons_of_mem _ hw)
  have hown : s.vm.findClass R_Stacks = some m.cls := findClass_of_methodNamed B.named
  have hlocks := B.notSynchronized
  clear B
  subst hsz
  have hD := hD0.self (sz := s.heap.size)
  generalize hAe : va_A [(o_Stacks, .inr (2, [.ref r_S_values, .int S_top, .ref r_S_bases, .ref r_S_floors, .ref r_S_returns, .ref r_S_closures, .int S_frames, .ref r_S_handlerFrames, .ref r_S_handlerPlaces, .ref r_S_handlerHeights, .ref r_S_handlerDepths, .int S_handlers]))] s.heap.size = A at hD ⊢
  have hA : ∀ q : Nat, s.heap.size ≤ q → A q := fun q h => by rw [← hAe]; exact Or.inr h
  have hS : va_S A s.heap s.heap [] := va_S.rf
  have hP : va_P (dC, dI) classes [(o_Stacks, .inr (2, [.ref r_S_values, .int S_top, .ref r_S_bases, .ref r_S_floors, .ref r_S_returns, .ref r_S_closures, .int S_frames, .ref r_S_handlerFrames, .ref r_S_handlerPlaces, .ref r_S_handlerHeights, .ref r_S_handlerDepths, .int S_handlers]))] s.heap := hP
  have hl := lv_entry ([.ref o_Stacks]) (n := 1) (Nat.le_of_ble_eq_true rfl)
  rw [lg_entry_eq]
  generalize (lg_sl ([.ref o_Stacks]) ++ List.replicate (1 - (lg_sl ([.ref o_Stacks])).length) Slot.unset).toArray = ls at hl ⊢
  have hl : lv_has ls 1 [(0, .ref o_Stacks)] := hl
  unfold m_Stacks_clear at h
  refine lv_aload_n hx hb d_Stacks_clear_0 rfl (lv_at hl 0 rfl) ?_
  refine lv_iconst (v := 0) hx hb d_Stacks_clear_1 (by decide) ?_
  refine va_put (D := (dC, dI)) (ci := 2) (v := .int 0) (ty := .int) (C := R_Stacks) (T := F_Stacks) (N := 12) hx hb hg i_Stacks t_Stacks t_Stacks_ok n_Stacks hown hK hP hD hS 0 rfl rfl 1 (by decide) (hg _ k53) (fun _ h9 => h9) rfl (by decide +kernel) rfl rfl (Nat.le_of_ble_eq_true rfl) d_Stacks_clear_2 (fun H locs hP hD hS => ?_)
  have hP : va_P (dC, dI) classes [(o_Stacks, .inr (2, [.ref r_S_values, .int 0, .ref r_S_bases, .ref r_S_floors, .ref r_S_returns, .ref r_S_closures, .int S_frames, .ref r_S_handlerFrames, .ref r_S_handlerPlaces, .ref r_S_handlerHeights, .ref r_S_handlerDepths, .int S_handlers]))] H := hP
  have hD : va_D A [(o_Stacks, .inr (2, [.ref r_S_values, .int 0, .ref r_S_bases, .ref r_S_floors, .ref r_S_returns, .ref r_S_closures, .int S_frames, .ref r_S_handlerFrames, .ref r_S_handlerPlaces, .ref r_S_handlerHeights, .ref r_S_handlerDepths, .int S_handlers]))] := hD
  refine lv_aload_n hx hb d_Stacks_clear_5 rfl (lv_at hl 0 rfl) ?_
  refine lv_iconst (v := 0) hx hb d_Stacks_clear_6 (by decide) ?_
  refine va_put (D := (dC, dI)) (ci := 2) (v := .int 0) (ty := .int) (C := R_Stacks) (T := F_Stacks) (N := 12) hx hb hg i_Stacks t_Stacks t_Stacks_ok n_Stacks hown hK hP hD hS 0 rfl rfl 6 (by decide) (hg _ k54) (fun _ h9 => h9) rfl (by decide +kernel) rfl rfl (Nat.le_of_ble_eq_true rfl) d_Stacks_clear_7 (fun H locs hP hD hS => ?_)
  have hP : va_P (dC, dI) classes [(o_Stacks, .inr (2, [.ref r_S_values, .int 0, .ref r_S_bases, .ref r_S_floors, .ref r_S_returns, .ref r_S_closures, .int 0, .ref r_S_handlerFrames, .ref r_S_handlerPlaces, .ref r_S_handlerHeights, .ref r_S_handlerDepths, .int S_handlers]))] H := hP
  have hD : va_D A [(o_Stacks, .inr (2, [.ref r_S_values, .int 0, .ref r_S_bases, .ref r_S_floors, .ref r_S_returns, .ref r_S_closures, .int 0, .ref r_S_handlerFrames, .ref r_S_handlerPlaces, .ref r_S_handlerHeights, .ref r_S_handlerDepths, .int S_handlers]))] := hD
  refine lv_aload_n hx hb d_Stacks_clear_10 rfl (lv_at hl 0 rfl) ?_
  refine lv_iconst (v := 0) hx hb d_Stacks_clear_11 (by decide) ?_
  refine va_put (D := (dC, dI)) (ci := 2) (v := .int 0) (ty := .int) (C := R_Stacks) (T := F_Stacks) (N := 12) hx hb hg i_Stacks t_Stacks t_Stacks_ok n_Stacks hown hK hP hD hS 0 rfl rfl 11 (by decide) (hg _ k55) (fun _ h9 => h9) rfl (by decide +kernel) rfl rfl (Nat.le_of_ble_eq_true rfl) d_Stacks_clear_12 (fun H locs hP hD hS => ?_)
  have hP : va_P (dC, dI) classes [(o_Stacks, .inr (2, [.ref r_S_values, .int 0, .ref r_S_bases, .ref r_S_floors, .ref r_S_returns, .ref r_S_closures, .int 0, .ref r_S_handlerFrames, .ref r_S_handlerPlaces, .ref r_S_handlerHeights, .ref r_S_handlerDepths, .int 0]))] H := hP
  have hD : va_D A [(o_Stacks, .inr (2, [.ref r_S_values, .int 0, .ref r_S_bases, .ref r_S_floors, .ref r_S_returns, .ref r_S_closures, .int 0, .ref r_S_handlerFrames, .ref r_S_handlerPlaces, .ref r_S_handlerHeights, .ref r_S_handlerDepths, .int 0]))] := hD
  obtain rfl := Option.some.inj h
  have hP9 := hP.sub (ws' := [(o_Stacks, .inr (2, [.ref r_S_values, .int 0, .ref r_S_bases, .ref r_S_floors, .ref r_S_returns, .ref r_S_closures, .int 0, .ref r_S_handlerFrames, .ref r_S_handlerPlaces, .ref r_S_handlerHeights, .ref r_S_handlerDepths, .int 0]))]) [0] rfl
  have hD9 := hD.sub (ws' := [(o_Stacks, .inr (2, [.ref r_S_values, .int 0, .ref r_S_bases, .ref r_S_floors, .ref r_S_returns, .ref r_S_closures, .int 0, .ref r_S_handlerFrames, .ref r_S_handlerPlaces, .ref r_S_handlerHeights, .ref r_S_handlerDepths, .int 0]))]) [0] (by decide) rfl
  have hK9 := hK.sub (tys' := []) [] rfl
  exact W.vret hx hb hr (fun t ht hW => ⟨⟨(), rfl, trivial, by rw [ht]; exact hP9, va_K.moved hW.alike hK9, hD9⟩, hS.F ht⟩) hS.2.2 d_Stacks_clear_15

set_option maxHeartbeats 4000000 in
set_option maxRecDepth 100000 in
theorem c_Stacks_begin (l : Launch) (dC : Nat → ClassId) (dI : Nat → Nat → Nat) (N : Nat) (cI : ClassId) (cL : ClassId) (o_Stacks : Nat) (r_S_values : Nat) (r_S_bases : Nat) (r_S_floors : Nat) (r_S_returns : Nat) (r_S_closures : Nat) (r_S_handlerFrames : Nat) (r_S_handlerPlaces : Nat) (r_S_handlerHeights : Nat) (r_S_handlerDepths : Nat) (S_top : Int32) (S_frames : Int32) (S_handlers : Int32) (n_S_bases : Nat) (f_S_bases : Nat → Int32) (n_S_floors : Nat) (f_S_floors : Nat → Int32) (n_S_returns : Nat) (f_S_returns : Nat → Int32) (n_S_closures : Nat) (f_S_closures : Nat → Int64) (sz : Nat) (z : (Nat → Int32) × (Nat → Int64) × (Nat → Int32) × (Nat → Int32) × Int32 × Int32 × Int32) (h : m_Stacks_begin N S_top S_frames S_handlers n_S_bases f_S_bases n_S_floors f_S_floors n_S_returns f_S_returns n_S_closures f_S_closures = some z) : Met l y_Stacks_begin (.code y_Stacks_begin b_Stacks_begin 1 none :: lw_g) ({ frames := 1, cells := 0, slots := 0, locals := 20 }) (va_Pc [.ref o_Stacks] (fun U => dz_N U ∧ U.heap.size = sz ∧ va_P (dC, dI) classes [(o_Stacks, .inr (2, [.ref r_S_values, .int S_top, .ref r_S_bases, .ref r_S_floors, .ref r_S_returns, .ref r_S_closures, .int S_frames, .ref r_S_handlerFrames, .ref r_S_handlerPlaces, .ref r_S_handlerHeights, .ref r_S_handlerDepths, .int S_handlers])), (r_S_bases, .inl (cI, n_S_bases, .inl f_S_bases)), (r_S_floors, .inl (cI, n_S_floors, .inl f_S_floors)), (r_S_returns, .inl (cI, n_S_returns, .inl f_S_returns)), (r_S_closures, .inl (cL, n_S_closures, .inr (.inl f_S_closures)))] U.heap ∧ va_K (dC, dI) classes [(cI, .int), (cL, .long)] U ∧ va_D (fun _ => True) [(o_Stacks, .inr (2, [.ref r_S_values, .int S_top, .ref r_S_bases, .ref r_S_floors, .ref r_S_returns, .ref r_S_closures, .int S_frames, .ref r_S_handlerFrames, .ref r_S_handlerPlaces, .ref r_S_handlerHeights, .ref r_S_handlerDepths, .int S_handlers])), (r_S_bases, .inl (cI, n_S_bases, .inl f_S_bases)), (r_S_floors, .inl (cI, n_S_floors, .inl f_S_floors)), (r_S_returns, .inl (cI, n_S_returns, .inl f_S_returns)), (r_S_closures, .inl (cL, n_S_closures, .inr (.inl f_S_closures)))])) (va_Qv (fun (_ : Unit) => True) (fun (u : Unit) t => va_P (dC, dI) classes [(o_Stacks, .inr (2, [.ref r_S_values, .int z.2.2.2.2.2.2, .ref r_S_bases, .ref r_S_floors, .ref r_S_returns, .ref r_S_closures, .int z.2.2.2.2.1, .ref r_S_handlerFrames, .ref r_S_handlerPlaces, .ref r_S_handlerHeights, .ref r_S_handlerDepths, .int z.2.2.2.2.2.1])), (r_S_bases, .inl (cI, n_S_bases, .inl z.1)), (r_S_floors, .inl (cI, n_S_floors, .inl z.2.2.1)), (r_S_returns, .inl (cI, n_S_returns, .inl z.2.2.2.1)), (r_S_closures, .inl (cL, n_S_closures, .inr (.inl z.2.1)))] t.heap ∧ va_K (dC, dI) classes [(cI, .int), (cL, .long)] t ∧ va_D (va_A [(o_Stacks, .inr (2, [.ref r_S_values, .int S_top, .ref r_S_bases, .ref r_S_floors, .ref r_S_returns, .ref r_S_closures, .int S_frames, .ref r_S_handlerFrames, .ref r_S_handlerPlaces, .ref r_S_handlerHeights, .ref r_S_handlerDepths, .int S_handlers])), (r_S_bases, .inl (cI, n_S_bases, .inl f_S_bases)), (r_S_floors, .inl (cI, n_S_floors, .inl f_S_floors)), (r_S_returns, .inl (cI, n_S_returns, .inl f_S_returns)), (r_S_closures, .inl (cL, n_S_closures, .inr (.inl f_S_closures)))] sz) [(o_Stacks, .inr (2, [.ref r_S_values, .int z.2.2.2.2.2.2, .ref r_S_bases, .ref r_S_floors, .ref r_S_returns, .ref r_S_closures, .int z.2.2.2.2.1, .ref r_S_handlerFrames, .ref r_S_handlerPlaces, .ref r_S_handlerHeights, .ref r_S_handlerDepths, .int z.2.2.2.2.2.1])), (r_S_bases, .inl (cI, n_S_bases, .inl z.1)), (r_S_floors, .inl (cI, n_S_floors, .inl z.2.2.1)), (r_S_returns, .inl (cI, n_S_returns, .inl z.2.2.2.1)), (r_S_closures, .inl (cL, n_S_closures, .inr (.inl z.2.1)))]) (va_A [(o_Stacks, .inr (2, [.ref r_S_values, .int S_top, .ref r_S_bases, .ref r_S_floors, .ref r_S_returns, .ref r_S_closures, .int S_frames, .ref r_S_handlerFrames, .ref r_S_handlerPlaces, .ref r_S_handlerHeights, .ref r_S_handlerDepths, .int S_handlers])), (r_S_bases, .inl (cI, n_S_bases, .inl f_S_bases)), (r_S_floors, .inl (cI, n_S_floors, .inl f_S_floors)), (r_S_returns, .inl (cI, n_S_returns, .inl f_S_returns)), (r_S_closures, .inl (cL, n_S_closures, .inr (.inl f_S_closures)))] sz)) 0 0 (va_A [(o_Stacks, .inr (2, [.ref r_S_values, .int S_top, .ref r_S_bases, .ref r_S_floors, .ref r_S_returns, .ref r_S_closures, .int S_frames, .ref r_S_handlerFrames, .ref r_S_handlerPlaces, .ref r_S_handlerHeights, .ref r_S_handlerDepths, .int S_handlers])), (r_S_bases, .inl (cI, n_S_bases, .inl f_S_bases)), (r_S_floors, .inl (cI, n_S_floors, .inl f_S_floors)), (r_S_returns, .inl (cI, n_S_returns, .inl f_S_returns)), (r_S_closures, .inl (cL, n_S_closures, .inr (.inl f_S_closures)))] sz) := by
  refine Met.ofW (cc := b_Stacks_begin) (maxL := 1) (ret := none) (by decide +kernel) rfl ?_
  intro p e s m args below meth c s₁ B hml hv
  obtain ⟨rfl, hN, hsz, hP, hK, hD0⟩ := hv
  have hx := B.exec
  have hb := B.bytes
  have hr := B.returns
  have hg : ∀ w ∈ lw_g, w.before _ s = true := fun w hw => atoms_spec (ws := .code y_Stacks_begin b_Stacks_begin 1 none :: lw_g) B.pre w (List.mem_cons_of_mem _ hw)
  have hown : s.vm.findClass R_Stacks = some m.cls := findClass_of_methodNamed B.named
  have hlocks := B.notSynchronized
  clear B
  subst hsz
  have hD := hD0.self (sz := s.heap.size)
  generalize hAe : va_A [(o_Stacks, .inr (2, [.ref r_S_values, .int S_top, .ref r_S_bases, .ref r_S_floors, .ref r_S_returns, .ref r_S_closures, .int S_frames, .ref r_S_handlerFrames, .ref r_S_handlerPlaces, .ref r_S_handlerHeights, .ref r_S_handlerDepths, .int S_handlers])), (r_S_bases, .inl (cI, n_S_bases, .inl f_S_bases)), (r_S_floors, .inl (cI, n_S_floors, .inl f_S_floors)), (r_S_returns, .inl (cI, n_S_returns, .inl f_S_returns)), (r_S_closures, .inl (cL, n_S_closures, .inr (.inl f_S_closures)))] s.heap.size = A at hD ⊢
  have hA : ∀ q : Nat, s.heap.size ≤ q → A q := fun q h => by rw [← hAe]; exact Or.inr h
  have hS : va_S A s.heap s.heap [] := va_S.rf
  have hP : va_P (dC, dI) classes [(o_Stacks, .inr (2, [.ref r_S_values, .int S_top, .ref r_S_bases, .ref r_S_floors, .ref r_S_returns, .ref r_S_closures, .int S_frames, .ref r_S_handlerFrames, .ref r_S_handlerPlaces, .ref r_S_handlerHeights, .ref r_S_handlerDepths, .int S_handlers])), (r_S_bases, .inl (cI, n_S_bases, .inl f_S_bases)), (r_S_floors, .inl (cI, n_S_floors, .inl f_S_floors)), (r_S_returns, .inl (cI, n_S_returns, .inl f_S_returns)), (r_S_closures, .inl (cL, n_S_closures, .inr (.inl f_S_closures)))] s.heap := hP
  have hl := lv_entry ([.ref o_Stacks]) (n := 1) (Nat.le_of_ble_eq_true rfl)
  rw [lg_entry_eq]
  generalize (lg_sl ([.ref o_Stacks]) ++ List.replicate (1 - (lg_sl ([.ref o_Stacks])).length) Slot.unset).toArray = ls at hl ⊢
  have hl : lv_has ls 1 [(0, .ref o_Stacks)] := hl
  unfold m_Stacks_begin at h
  refine lv_aload_n hx hb d_Stacks_begin_0 rfl (lv_at hl 0 rfl) ?_
  obtain ⟨⟨z1_1, z1_2, z1_3⟩, hc1, h⟩ := dz_ob h
  try dsimp only at h
  have hPc := hP.sub (ws' := [(o_Stacks, .inr (2, [.ref r_S_values, .int S_top, .ref r_S_bases, .ref r_S_floors, .ref r_S_returns, .ref r_S_closures, .int S_frames, .ref r_S_handlerFrames, .ref r_S_handlerPlaces, .ref r_S_handlerHeights, .ref r_S_handlerDepths, .int S_handlers]))]) [0] rfl
  have hKc := hK.sub (tys' := []) [] rfl
  have hDc := hD.sub (ws' := [(o_Stacks, .inr (2, [.ref r_S_values, .int S_top, .ref r_S_bases, .ref r_S_floors, .ref r_S_returns, .ref r_S_closures, .int S_frames, .ref r_S_handlerFrames, .ref r_S_handlerPlaces, .ref r_S_handlerHeights, .ref r_S_handlerDepths, .int S_handlers]))]) [0] (by decide) rfl
  have hFc := va_free (wc := [(o_Stacks, .inr (2, [.ref r_S_values, .int S_top, .ref r_S_bases, .ref r_S_floors, .ref r_S_returns, .ref r_S_closures, .int S_frames, .ref r_S_handlerFrames, .ref r_S_handlerPlaces, .ref r_S_handlerHeights, .ref r_S_handlerDepths, .int S_handlers]))]) hD hS hA [0] rfl
  refine va_callv (va_runV (As := []) (rest := []) ⟨hx, hb, hml, hown, hg⟩ (c_Stacks_clear l dC dI N o_Stacks r_S_values r_S_bases r_S_floors r_S_returns r_S_closures r_S_handlerFrames r_S_handlerPlaces r_S_handlerHeights r_S_handlerDepths S_top S_frames S_handlers s.heap.size (z1_1, z1_2, z1_3) hc1) (cwV 0 hg (gd_V k61 k62 k63 k64 k60) rfl rfl rfl (by decide +kernel) ⟨Nat.le_of_ble_eq_true rfl, Nat.le_of_ble_eq_true rfl⟩) ⟨dz_blind, va_recv hKc hPc (ci := 2) (q0 := 0) rfl rfl, fun U hU hW => ⟨rfl, dz_Nw hW hN, by rw [hU], by rw [hU]; exact hPc, va_K.moved hW.alike hKc, hDc.weaken (fun _ _ _ _ => trivial)⟩⟩ rfl rfl hl.1 rfl (lv_room (Nat.le_of_ble_eq_true rfl)) d_Stacks_begin_1 ⟨Nat.le_of_ble_eq_true rfl, Nat.le_of_ble_eq_true rfl⟩) hS (fun q _ h => hFc q h) hFc (fun u1 t1 H1 locs ht hvm hw hB hz1 hk1 hS => ?_)
  obtain ⟨hP1, hK1, hD1⟩ := hB
  rw [ht] at hP1
  obtain ⟨hP, hD⟩ := va_join (wr := [(r_S_bases, .inl (cI, n_S_bases, .inl f_S_bases)), (r_S_floors, .inl (cI, n_S_floors, .inl f_S_floors)), (r_S_returns, .inl (cI, n_S_returns, .inl f_S_returns)), (r_S_closures, .inl (cL, n_S_closures, .inr (.inl f_S_closures)))]) (w1 := [(o_Stacks, .inr (2, [.ref r_S_values, .int z1_3, .ref r_S_bases, .ref r_S_floors, .ref r_S_returns, .ref r_S_closures, .int z1_1, .ref r_S_handlerFrames, .ref r_S_handlerPlaces, .ref r_S_handlerHeights, .ref r_S_handlerDepths, .int z1_2]))]) hP hD [0] [1, 2, 3, 4] rfl rfl (by decide) (by decide) hk1 hFc hP1 hD1
  generalize H1 = H at hP hS ⊢
  have hP : va_P (dC, dI) classes [(r_S_bases, .inl (cI, n_S_bases, .inl f_S_bases)), (r_S_floors, .inl (cI, n_S_floors, .inl f_S_floors)), (r_S_returns, .inl (cI, n_S_returns, .inl f_S_returns)), (r_S_closures, .inl (cL, n_S_closures, .inr (.inl f_S_closures))), (o_Stacks, .inr (2, [.ref r_S_values, .int z1_3, .ref r_S_bases, .ref r_S_floors, .ref r_S_returns, .ref r_S_closures, .int z1_1, .ref r_S_handlerFrames, .ref r_S_handlerPlaces, .ref r_S_handlerHeights, .ref r_S_handlerDepths, .int z1_2]))] H := hP
  have hD : va_D A [(r_S_bases, .inl (cI, n_S_bases, .inl f_S_bases)), (r_S_floors, .inl (cI, n_S_floors, .inl f_S_floors)), (r_S_returns, .inl (cI, n_S_returns, .inl f_S_returns)), (r_S_closures, .inl (cL, n_S_closures, .inr (.inl f_S_closures))), (o_Stacks, .inr (2, [.ref r_S_values, .int z1_3, .ref r_S_bases, .ref r_S_floors, .ref r_S_returns, .ref r_S_closures, .int z1_1, .ref r_S_handlerFrames, .ref r_S_handlerPlaces, .ref r_S_handlerHeights, .ref r_S_handlerDepths, .int z1_2]))] := hD
  refine lv_aload_n hx hb d_Stacks_begin_4 rfl (lv_at hl 0 rfl) ?_
  refine lv_iconst (v := 1) hx hb d_Stacks_begin_5 (by decide) ?_
  refine va_put (D := (dC, dI)) (ci := 2) (v := .int 1) (ty := .int) (C := R_Stacks) (T := F_Stacks) (N := 12) hx hb hg i_Stacks t_Stacks t_Stacks_ok n_Stacks hown hK hP hD hS 4 rfl rfl 6 (by decide) (hg _ k54) (fun _ h9 => h9) rfl (by decide +kernel) rfl rfl (Nat.le_of_ble_eq_true rfl) d_Stacks_begin_6 (fun H locs hP hD hS => ?_)
  have hP : va_P (dC, dI) classes [(r_S_bases, .inl (cI, n_S_bases, .inl f_S_bases)), (r_S_floors, .inl (cI, n_S_floors, .inl f_S_floors)), (r_S_returns, .inl (cI, n_S_returns, .inl f_S_returns)), (r_S_closures, .inl (cL, n_S_closures, .inr (.inl f_S_closures))), (o_Stacks, .inr (2, [.ref r_S_values, .int z1_3, .ref r_S_bases, .ref r_S_floors, .ref r_S_returns, .ref r_S_closures, .int 1, .ref r_S_handlerFrames, .ref r_S_handlerPlaces, .ref r_S_handlerHeights, .ref r_S_handlerDepths, .int z1_2]))] H := hP
  have hD : va_D A [(r_S_bases, .inl (cI, n_S_bases, .inl f_S_bases)), (r_S_floors, .inl (cI, n_S_floors, .inl f_S_floors)), (r_S_returns, .inl (cI, n_S_returns, .inl f_S_returns)), (r_S_closures, .inl (cL, n_S_closures, .inr (.inl f_S_closures))), (o_Stacks, .inr (2, [.ref r_S_values, .int z1_3, .ref r_S_bases, .ref r_S_floors, .ref r_S_returns, .ref r_S_closures, .int 1, .ref r_S_handlerFrames, .ref r_S_handlerPlaces, .ref r_S_handlerHeights, .ref r_S_handlerDepths, .int z1_2]))] := hD
  refine lv_aload_n hx hb d_Stacks_begin_9 rfl (lv_at hl 0 rfl) ?_
  refine va_get (D := (dC, dI)) (ci := 2) (v := .ref r_S_bases) (C := R_Stacks) (T := F_Stacks) (N := 12) hx hb hg i_Stacks hown hK hP 4 rfl rfl 2 (by decide) (hg _ k56) (fun _ h9 => h9) rfl d_Stacks_begin_10 ?_
  refine lv_iconst (v := 0) hx hb d_Stacks_begin_13 (by decide) ?_
  refine lv_iconst (v := 0) hx hb d_Stacks_begin_14 (by decide) ?_
  obtain ⟨i2, h⟩ := dz_oi h
  refine va_iast (D := (dC, dI)) hx hb hK hP hD hS 0 0 rfl rfl i2 d_Stacks_begin_15 (fun H locs hP hD hS => ?_)
  have hP : va_P (dC, dI) classes [(r_S_bases, .inl (cI, n_S_bases, .inl (upd f_S_bases (0 : Int32).toNatClampNeg 0))), (r_S_floors, .inl (cI, n_S_floors, .inl f_S_floors)), (r_S_returns, .inl (cI, n_S_returns, .inl f_S_returns)), (r_S_closures, .inl (cL, n_S_closures, .inr (.inl f_S_closures))), (o_Stacks, .inr (2, [.ref r_S_values, .int z1_3, .ref r_S_bases, .ref r_S_floors, .ref r_S_returns, .ref r_S_closures, .int 1, .ref r_S_handlerFrames, .ref r_S_handlerPlaces, .ref r_S_handlerHeights, .ref r_S_handlerDepths, .int z1_2]))] H := hP
  have hD : va_D A [(r_S_bases, .inl (cI, n_S_bases, .inl (upd f_S_bases (0 : Int32).toNatClampNeg 0))), (r_S_floors, .inl (cI, n_S_floors, .inl f_S_floors)), (r_S_returns, .inl (cI, n_S_returns, .inl f_S_returns)), (r_S_closures, .inl (cL, n_S_closures, .inr (.inl f_S_closures))), (o_Stacks, .inr (2, [.ref r_S_values, .int z1_3, .ref r_S_bases, .ref r_S_floors, .ref r_S_returns, .ref r_S_closures, .int 1, .ref r_S_handlerFrames, .ref r_S_handlerPlaces, .ref r_S_handlerHeights, .ref r_S_handlerDepths, .int z1_2]))] := hD
  refine lv_aload_n hx hb d_Stacks_begin_16 rfl (lv_at hl 0 rfl) ?_
  refine va_get (D := (dC, dI)) (ci := 2) (v := .ref r_S_floors) (C := R_Stacks) (T := F_Stacks) (N := 12) hx hb hg i_Stacks hown hK hP 4 rfl rfl 3 (by decide) (hg _ k57) (fun _ h9 => h9) rfl d_Stacks_begin_17 ?_
  refine lv_iconst (v := 0) hx hb d_Stacks_begin_20 (by decide) ?_
  refine lv_iconst (v := 0) hx hb d_Stacks_begin_21 (by decide) ?_
  obtain ⟨i3, h⟩ := dz_oi h
  refine va_iast (D := (dC, dI)) hx hb hK hP hD hS 1 0 rfl rfl i3 d_Stacks_begin_22 (fun H locs hP hD hS => ?_)
  have hP : va_P (dC, dI) classes [(r_S_bases, .inl (cI, n_S_bases, .inl (upd f_S_bases (0 : Int32).toNatClampNeg 0))), (r_S_floors, .inl (cI, n_S_floors, .inl (upd f_S_floors (0 : Int32).toNatClampNeg 0))), (r_S_returns, .inl (cI, n_S_returns, .inl f_S_returns)), (r_S_closures, .inl (cL, n_S_closures, .inr (.inl f_S_closures))), (o_Stacks, .inr (2, [.ref r_S_values, .int z1_3, .ref r_S_bases, .ref r_S_floors, .ref r_S_returns, .ref r_S_closures, .int 1, .ref r_S_handlerFrames, .ref r_S_handlerPlaces, .ref r_S_handlerHeights, .ref r_S_handlerDepths, .int z1_2]))] H := hP
  have hD : va_D A [(r_S_bases, .inl (cI, n_S_bases, .inl (upd f_S_bases (0 : Int32).toNatClampNeg 0))), (r_S_floors, .inl (cI, n_S_floors, .inl (upd f_S_floors (0 : Int32).toNatClampNeg 0))), (r_S_returns, .inl (cI, n_S_returns, .inl f_S_returns)), (r_S_closures, .inl (cL, n_S_closures, .inr (.inl f_S_closures))), (o_Stacks, .inr (2, [.ref r_S_values, .int z1_3, .ref r_S_bases, .ref r_S_floors, .ref r_S_returns, .ref r_S_closures, .int 1, .ref r_S_handlerFrames, .ref r_S_handlerPlaces, .ref r_S_handlerHeights, .ref r_S_handlerDepths, .int z1_2]))] := hD
  refine lv_aload_n hx hb d_Stacks_begin_23 rfl (lv_at hl 0 rfl) ?_
  refine va_get (D := (dC, dI)) (ci := 2) (v := .ref r_S_returns) (C := R_Stacks) (T := F_Stacks) (N := 12) hx hb hg i_Stacks hown hK hP 4 rfl rfl 4 (by decide) (hg _ k58) (fun _ h9 => h9) rfl d_Stacks_begin_24 ?_
  refine lv_iconst (v := 0) hx hb d_Stacks_begin_27 (by decide) ?_
  refine lv_iconst (v := 0) hx hb d_Stacks_begin_28 (by decide) ?_
  obtain ⟨i4, h⟩ := dz_oi h
  refine va_iast (D := (dC, dI)) hx hb hK hP hD hS 2 0 rfl rfl i4 d_Stacks_begin_29 (fun H locs hP hD hS => ?_)
  have hP : va_P (dC, dI) classes [(r_S_bases, .inl (cI, n_S_bases, .inl (upd f_S_bases (0 : Int32).toNatClampNeg 0))), (r_S_floors, .inl (cI, n_S_floors, .inl (upd f_S_floors (0 : Int32).toNatClampNeg 0))), (r_S_returns, .inl (cI, n_S_returns, .inl (upd f_S_returns (0 : Int32).toNatClampNeg 0))), (r_S_closures, .inl (cL, n_S_closures, .inr (.inl f_S_closures))), (o_Stacks, .inr (2, [.ref r_S_values, .int z1_3, .ref r_S_bases, .ref r_S_floors, .ref r_S_returns, .ref r_S_closures, .int 1, .ref r_S_handlerFrames, .ref r_S_handlerPlaces, .ref r_S_handlerHeights, .ref r_S_handlerDepths, .int z1_2]))] H := hP
  have hD : va_D A [(r_S_bases, .inl (cI, n_S_bases, .inl (upd f_S_bases (0 : Int32).toNatClampNeg 0))), (r_S_floors, .inl (cI, n_S_floors, .inl (upd f_S_floors (0 : Int32).toNatClampNeg 0))), (r_S_returns, .inl (cI, n_S_returns, .inl (upd f_S_returns (0 : Int32).toNatClampNeg 0))), (r_S_closures, .inl (cL, n_S_closures, .inr (.inl f_S_closures))), (o_Stacks, .inr (2, [.ref r_S_values, .int z1_3, .ref r_S_bases, .ref r_S_floors, .ref r_S_returns, .ref r_S_closures, .int 1, .ref r_S_handlerFrames, .ref r_S_handlerPlaces, .ref r_S_handlerHeights, .ref r_S_handlerDepths, .int z1_2]))] := hD
  refine lv_aload_n hx hb d_Stacks_begin_30 rfl (lv_at hl 0 rfl) ?_
  refine va_get (D := (dC, dI)) (ci := 2) (v := .ref r_S_closures) (C := R_Stacks) (T := F_Stacks) (N := 12) hx hb hg i_Stacks hown hK hP 4 rfl rfl 5 (by decide) (hg _ k59) (fun _ h9 => h9) rfl d_Stacks_begin_31 ?_
  refine lv_iconst (v := 0) hx hb d_Stacks_begin_34 (by decide) ?_
  refine lv_lconst (v := 0) hx hb d_Stacks_begin_35 (by decide) ?_
  obtain ⟨i5, h⟩ := dz_oi h
  refine va_last (D := (dC, dI)) hx hb hK hP hD hS 3 1 rfl rfl i5 d_Stacks_begin_36 (fun H locs hP hD hS => ?_)
  have hP : va_P (dC, dI) classes [(r_S_bases, .inl (cI, n_S_bases, .inl (upd f_S_bases (0 : Int32).toNatClampNeg 0))), (r_S_floors, .inl (cI, n_S_floors, .inl (upd f_S_floors (0 : Int32).toNatClampNeg 0))), (r_S_returns, .inl (cI, n_S_returns, .inl (upd f_S_returns (0 : Int32).toNatClampNeg 0))), (r_S_closures, .inl (cL, n_S_closures, .inr (.inl (vp_updL f_S_closures (0 : Int32).toNatClampNeg 0)))), (o_Stacks, .inr (2, [.ref r_S_values, .int z1_3, .ref r_S_bases, .ref r_S_floors, .ref r_S_returns, .ref r_S_closures, .int 1, .ref r_S_handlerFrames, .ref r_S_handlerPlaces, .ref r_S_handlerHeights, .ref r_S_handlerDepths, .int z1_2]))] H := hP
  have hD : va_D A [(r_S_bases, .inl (cI, n_S_bases, .inl (upd f_S_bases (0 : Int32).toNatClampNeg 0))), (r_S_floors, .inl (cI, n_S_floors, .inl (upd f_S_floors (0 : Int32).toNatClampNeg 0))), (r_S_returns, .inl (cI, n_S_returns, .inl (upd f_S_returns (0 : Int32).toNatClampNeg 0))), (r_S_closures, .inl (cL, n_S_closures, .inr (.inl (vp_updL f_S_closures (0 : Int32).toNatClampNeg 0)))), (o_Stacks, .inr (2, [.ref r_S_values, .int z1_3, .ref r_S_bases, .ref r_S_floors, .ref r_S_returns, .ref r_S_closures, .int 1, .ref r_S_handlerFrames, .ref r_S_handlerPlaces, .ref r_S_handlerHeights, .ref r_S_handlerDepths, .int z1_2]))] := hD
  obtain rfl := Option.some.inj h
  have hP9 := hP.sub (ws' := [(o_Stacks, .inr (2, [.ref r_S_values, .int z1_3, .ref r_S_bases, .ref r_S_floors, .ref r_S_returns, .ref r_S_closures, .int 1, .ref r_S_handlerFrames, .ref r_S_handlerPlaces, .ref r_S_handlerHeights, .ref r_S_handlerDepths, .int z1_2])), (r_S_bases, .inl (cI, n_S_bases, .inl (upd f_S_bases (0 : Int32).toNatClampNeg 0))), (r_S_floors, .inl (cI, n_S_floors, .inl (upd f_S_floors (0 : Int32).toNatClampNeg 0))), (r_S_returns, .inl (cI, n_S_returns, .inl (upd f_S_returns (0 : Int32).toNatClampNeg 0))), (r_S_closures, .inl (cL, n_S_closures, .inr (.inl (vp_updL f_S_closures (0 : Int32).toNatClampNeg 0))))]) [4, 0, 1, 2, 3] rfl
  have hD9 := hD.sub (ws' := [(o_Stacks, .inr (2, [.ref r_S_values, .int z1_3, .ref r_S_bases, .ref r_S_floors, .ref r_S_returns, .ref r_S_closures, .int 1, .ref r_S_handlerFrames, .ref r_S_handlerPlaces, .ref r_S_handlerHeights, .ref r_S_handlerDepths, .int z1_2])), (r_S_bases, .inl (cI, n_S_bases, .inl (upd f_S_bases (0 : Int32).toNatClampNeg 0))), (r_S_floors, .inl (cI, n_S_floors, .inl (upd f_S_floors (0 : Int32).toNatClampNeg 0))), (r_S_returns, .inl (cI, n_S_returns, .inl (upd f_S_returns (0 : Int32).toNatClampNeg 0))), (r_S_closures, .inl (cL, n_S_closures, .inr (.inl (vp_updL f_S_closures (0 : Int32).toNatClampNeg 0))))]) [4, 0, 1, 2, 3] (by decide) rfl
  have hK9 := hK.sub (tys' := [(cI, .int), (cL, .long)]) [0, 1] rfl
  exact W.vret hx hb hr (fun t ht hW => ⟨⟨(), rfl, trivial, by rw [ht]; exact hP9, va_K.moved hW.alike hK9, hD9⟩, hS.F ht⟩) hS.2.2 d_Stacks_begin_37

set_option maxHeartbeats 4000000 in
set_option maxRecDepth 100000 in
theorem c_Stacks_height (l : Launch) (dC : Nat → ClassId) (dI : Nat → Nat → Nat) (N : Nat) (cI : ClassId) (o_Stacks : Nat) (r_S_values : Nat) (r_S_bases : Nat) (r_S_floors : Nat) (r_S_returns : Nat) (r_S_closures : Nat) (r_S_handlerFrames : Nat) (r_S_handlerPlaces : Nat) (r_S_handlerHeights : Nat) (r_S_handlerDepths : Nat) (S_top : Int32) (S_frames : Int32) (S_handlers : Int32) (n_S_floors : Nat) (f_S_floors : Nat → Int32) (z : Int32) (h : m_Stacks_height N S_top S_frames S_handlers n_S_floors f_S_floors = some z) : Met l y_Stacks_height (.code y_Stacks_height b_Stacks_height 1 (some .int) :: lw_g) ({ frames := 0, cells := 0, slots := 0, locals := 0 }) (va_Pc [.ref o_Stacks] (fun U => dz_N U ∧ va_P (dC, dI) classes [(o_Stacks, .inr (2, [.ref r_S_values, .int S_top, .ref r_S_bases, .ref r_S_floors, .ref r_S_returns, .ref r_S_closures, .int S_frames, .ref r_S_handlerFrames, .ref r_S_handlerPlaces, .ref r_S_handlerHeights, .ref r_S_handlerDepths, .int S_handlers])), (r_S_floors, .inl (cI, n_S_floors, .inl f_S_floors))] U.heap ∧ va_K (dC, dI) classes [(cI, .int)] U)) (vp_Si (fun r => r = z)) 0 0 (fun _ => False) := by
  refine Met.ofW (cc := b_Stacks_height) (maxL := 1) (ret := (some .int)) (by decide +kernel) rfl ?_
  intro p e s m args below meth c s₁ B hml hv
  obtain ⟨rfl, hN, hP, hK⟩ := hv
  have hx := B.exec
  have hb := B.bytes
  have hr := B.returns
  have hg : ∀ w ∈ lw_g, w.before _ s = true := fun w hw => atoms_spec (ws := .code y_Stacks_height b_Stacks_height 1 (some .int) :: lw_g) B.pre w (List.mem_cons_of_mem _ hw)
  have hown : s.vm.findClass R_Stacks = some m.cls := findClass_of_methodNamed B.named
  have hlocks := B.notSynchronized
  clear B
  have hP : va_P (dC, dI) classes [(o_Stacks, .inr (2, [.ref r_S_values, .int S_top, .ref r_S_bases, .ref r_S_floors, .ref r_S_returns, .ref r_S_closures, .int S_frames, .ref r_S_handlerFrames, .ref r_S_handlerPlaces, .ref r_S_handlerHeights, .ref r_S_handlerDepths, .int S_handlers])), (r_S_floors, .inl (cI, n_S_floors, .inl f_S_floors))] s.heap := hP
  have hl := lv_entry ([.ref o_Stacks]) (n := 1) (Nat.le_of_ble_eq_true rfl)
  rw [lg_entry_eq]
  generalize (lg_sl ([.ref o_Stacks]) ++ List.replicate (1 - (lg_sl ([.ref o_Stacks])).length) Slot.unset).toArray = ls at hl ⊢
  have hl : lv_has ls 1 [(0, .ref o_Stacks)] := hl
  unfold m_Stacks_height at h
  refine lv_aload_n hx hb d_Stacks_height_0 rfl (lv_at hl 0 rfl) ?_
  refine va_get (D := (dC, dI)) (ci := 2) (v := .int S_top) (C := R_Stacks) (T := F_Stacks) (N := 12) hx hb hg i_Stacks hown hK hP 0 rfl rfl 1 (by decide) (hg _ k53) (fun _ h9 => h9) rfl d_Stacks_height_1 ?_
  refine lv_aload_n hx hb d_Stacks_height_4 rfl (lv_at hl 0 rfl) ?_
  refine va_get (D := (dC, dI)) (ci := 2) (v := .ref r_S_floors) (C := R_Stacks) (T := F_Stacks) (N := 12) hx hb hg i_Stacks hown hK hP 0 rfl rfl 3 (by decide) (hg _ k57) (fun _ h9 => h9) rfl d_Stacks_height_5 ?_
  refine lv_aload_n hx hb d_Stacks_height_8 rfl (lv_at hl 0 rfl) ?_
  refine va_get (D := (dC, dI)) (ci := 2) (v := .int S_frames) (C := R_Stacks) (T := F_Stacks) (N := 12) hx hb hg i_Stacks hown hK hP 0 rfl rfl 6 (by decide) (hg _ k54) (fun _ h9 => h9) rfl d_Stacks_height_9 ?_
  refine lv_iconst (v := 1) hx hb d_Stacks_height_12 (by decide) ?_
  refine lv_isub hx hb d_Stacks_height_13 ?_
  obtain ⟨i1, h⟩ := dz_oi h
  refine va_iald (D := (dC, dI)) hx hb hK hP 1 0 rfl rfl i1 d_Stacks_height_14 ?_
  refine lv_isub hx hb d_Stacks_height_15 ?_
  obtain rfl := Option.some.inj h
  exact W.iret (v := S_top - (f_S_floors (S_frames - 1).toNatClampNeg)) hx hb hr (fun t ht hW => ⟨_, rfl, rfl, ht⟩) (fun _ h => by cases h) d_Stacks_height_16

set_option maxHeartbeats 4000000 in
set_option maxRecDepth 100000 in
theorem c_Stacks_peek (l : Launch) (dC : Nat → ClassId) (dI : Nat → Nat → Nat) (N : Nat) (cL : ClassId) (o_Stacks : Nat) (r_S_values : Nat) (r_S_bases : Nat) (r_S_floors : Nat) (r_S_returns : Nat) (r_S_closures : Nat) (r_S_handlerFrames : Nat) (r_S_handlerPlaces : Nat) (r_S_handlerHeights : Nat) (r_S_handlerDepths : Nat) (S_top : Int32) (S_frames : Int32) (S_handlers : Int32) (n_S_values : Nat) (f_S_values : Nat → Int64) (p0 : Int32) (z : Int64) (h : m_Stacks_peek N S_top S_frames S_handlers n_S_values f_S_values p0 = some z) : Met l y_Stacks_peek (.code y_Stacks_peek b_Stacks_peek 2 (some .long) :: lw_g) ({ frames := 0, cells := 0, slots := 0, locals := 0 }) (va_Pc [.ref o_Stacks, .int p0] (fun U => dz_N U ∧ va_P (dC, dI) classes [(o_Stacks, .inr (2, [.ref r_S_values, .int S_top, .ref r_S_bases, .ref r_S_floors, .ref r_S_returns, .ref r_S_closures, .int S_frames, .ref r_S_handlerFrames, .ref r_S_handlerPlaces, .ref r_S_handlerHeights, .ref r_S_handlerDepths, .int S_handlers])), (r_S_values, .inl (cL, n_S_values, .inr (.inl f_S_values)))] U.heap ∧ va_K (dC, dI) classes [(cL, .long)] U)) (vp_Sl (fun r => r = z)) 0 0 (fun _ => False) := by
  refine Met.ofW (cc := b_Stacks_peek) (maxL := 2) (ret := (some .long)) (by decide +kernel) rfl ?_
  intro p e s m args below meth c s₁ B hml hv
  obtain ⟨rfl, hN, hP, hK⟩ := hv
  have hx := B.exec
  have hb := B.bytes
  have hr := B.returns
  have hg : ∀ w ∈ lw_g, w.before _ s = true := fun w hw => atoms_spec (ws := .code y_Stacks_peek b_Stacks_peek 2 (some .long) :: lw_g) B.pre w (List.mem_cons_of_mem _ hw)
  have hown : s.vm.findClass R_Stacks = some m.cls := findClass_of_methodNamed B.named
  have hlocks := B.notSynchronized
  clear B
  have hP : va_P (dC, dI) classes [(o_Stacks, .inr (2, [.ref r_S_values, .int S_top, .ref r_S_bases, .ref r_S_floors, .ref r_S_returns, .ref r_S_closures, .int S_frames, .ref r_S_handlerFrames, .ref r_S_handlerPlaces, .ref r_S_handlerHeights, .ref r_S_handlerDepths, .int S_handlers])), (r_S_values, .inl (cL, n_S_values, .inr (.inl f_S_values)))] s.heap := hP
  have hl := lv_entry ([.ref o_Stacks, .int p0]) (n := 2) (Nat.le_of_ble_eq_true rfl)
  rw [lg_entry_eq]
  generalize (lg_sl ([.ref o_Stacks, .int p0]) ++ List.replicate (2 - (lg_sl ([.ref o_Stacks, .int p0])).length) Slot.unset).toArray = ls at hl ⊢
  have hl : lv_has ls 2 [(0, .ref o_Stacks), (1, .int p0)] := hl
  unfold m_Stacks_peek at h
  refine lv_aload_n hx hb d_Stacks_peek_0 rfl (lv_at hl 0 rfl) ?_
  refine va_get (D := (dC, dI)) (ci := 2) (v := .ref r_S_values) (C := R_Stacks) (T := F_Stacks) (N := 12) hx hb hg i_Stacks hown hK hP 0 rfl rfl 0 (by decide) (hg _ k65) (fun _ h9 => h9) rfl d_Stacks_peek_1 ?_
  refine lv_aload_n hx hb d_Stacks_peek_4 rfl (lv_at hl 0 rfl) ?_
  refine va_get (D := (dC, dI)) (ci := 2) (v := .int S_top) (C := R_Stacks) (T := F_Stacks) (N := 12) hx hb hg i_Stacks hown hK hP 0 rfl rfl 1 (by decide) (hg _ k53) (fun _ h9 => h9) rfl d_Stacks_peek_5 ?_
  refine lv_iconst (v := 1) hx hb d_Stacks_peek_8 (by decide) ?_
  refine lv_isub hx hb d_Stacks_peek_9 ?_
  refine lv_iload_n hx hb d_Stacks_peek_10 rfl (lv_at hl 1 rfl) ?_
  refine lv_isub hx hb d_Stacks_peek_11 ?_
  obtain ⟨i1, h⟩ := dz_oi h
  refine va_lald (D := (dC, dI)) hx hb hK hP 1 0 rfl rfl i1 d_Stacks_peek_12 ?_
  obtain rfl := Option.some.inj h
  exact W.lret (v := f_S_values ((S_top - 1) - p0).toNatClampNeg) hx hb hr (fun t ht hW => ⟨_, rfl, rfl, ht⟩) (fun _ h => by cases h) d_Stacks_peek_13

set_option maxHeartbeats 4000000 in
set_option maxRecDepth 100000 in
theorem c_Stacks_drop (l : Launch) (dC : Nat → ClassId) (dI : Nat → Nat → Nat) (N : Nat) (o_Stacks : Nat) (r_S_values : Nat) (r_S_bases : Nat) (r_S_floors : Nat) (r_S_returns : Nat) (r_S_closures : Nat) (r_S_handlerFrames : Nat) (r_S_handlerPlaces : Nat) (r_S_handlerHeights : Nat) (r_S_handlerDepths : Nat) (S_top : Int32) (S_frames : Int32) (S_handlers : Int32) (sz : Nat) (z : Int32 × Int32) (h : m_Stacks_drop N S_top S_frames S_handlers = some z) : Met l y_Stacks_drop (.code y_Stacks_drop b_Stacks_drop 1 (some .int) :: lw_g) ({ frames := 0, cells := 0, slots := 0, locals := 0 }) (va_Pc [.ref o_Stacks] (fun U => dz_N U ∧ U.heap.size = sz ∧ va_P (dC, dI) classes [(o_Stacks, .inr (2, [.ref r_S_values, .int S_top, .ref r_S_bases, .ref r_S_floors, .ref r_S_returns, .ref r_S_closures, .int S_frames, .ref r_S_handlerFrames, .ref r_S_handlerPlaces, .ref r_S_handlerHeights, .ref r_S_handlerDepths, .int S_handlers]))] U.heap ∧ va_K (dC, dI) classes [] U ∧ va_D (fun _ => True) [(o_Stacks, .inr (2, [.ref r_S_values, .int S_top, .ref r_S_bases, .ref r_S_floors, .ref r_S_returns, .ref r_S_closures, .int S_frames, .ref r_S_handlerFrames, .ref r_S_handlerPlaces, .ref r_S_handlerHeights, .ref r_S_handlerDepths, .int S_handlers]))])) (va_Qi (fun (r : Int32) (_ : Unit) => r = z.1) (fun (u : Unit) t => va_P (dC, dI) classes [(o_Stacks, .inr (2, [.ref r_S_values, .int z.2, .ref r_S_bases, .ref r_S_floors, .ref r_S_returns, .ref r_S_closures, .int S_frames, .ref r_S_handlerFrames, .ref r_S_handlerPlaces, .ref r_S_handlerHeights, .ref r_S_handlerDepths, .int S_handlers]))] t.heap ∧ va_K (dC, dI) classes [] t ∧ va_D (va_A [(o_Stacks, .inr (2, [.ref r_S_values, .int S_top, .ref r_S_bases, .ref r_S_floors, .ref r_S_returns, .ref r_S_closures, .int S_frames, .ref r_S_handlerFrames, .ref r_S_handlerPlaces, .ref r_S_handlerHeights, .ref r_S_handlerDepths, .int S_handlers]))] sz) [(o_Stacks, .inr (2, [.ref r_S_values, .int z.2, .ref r_S_bases, .ref r_S_floors, .ref r_S_returns, .ref r_S_closures, .int S_frames, .ref r_S_handlerFrames, .ref r_S_handlerPlaces, .ref r_S_handlerHeights, .ref r_S_handlerDepths, .int S_handlers]))]) (va_A [(o_Stacks, .inr (2, [.ref r_S_values, .int S_top, .ref r_S_bases, .ref r_S_floors, .ref r_S_returns, .ref r_S_closures, .int S_frames, .ref r_S_handlerFrames, .ref r_S_handlerPlaces, .ref r_S_handlerHeights, .ref r_S_handlerDepths, .int S_handlers]))] sz)) 0 0 (va_A [(o_Stacks, .inr (2, [.ref r_S_values, .int S_top, .ref r_S_bases, .ref r_S_floors, .ref r_S_returns, .ref r_S_closures, .int S_frames, .ref r_S_handlerFrames, .ref r_S_handlerPlaces, .ref r_S_handlerHeights, .ref r_S_handlerDepths, .int S_handlers]))] sz) := by
  refine Met.ofW (cc := b_Stacks_drop) (maxL := 1) (ret := (some .int)) (by decide +kernel) rfl ?_
  intro p e s m args below meth c s₁ B hml hv
  obtain ⟨rfl, hN, hsz, hP, hK, hD0⟩ := hv
  have hx := B.exec
  have hb := B.bytes
  have hr := B.returns
  have hg : ∀ w ∈ lw_g, w.before _ s = true := fun w hw => atoms_spec (ws := .code y_Stacks_drop b_Stacks_drop 1 (some .int) :: lw_g) B.pre w (List.mem_cons_of_mem _ hw)
  have hown : s.vm.findClass R_Stacks = some m.cls := findClass_of_methodNamed B.named
  have hlocks := B.notSynchronized
  clear B
  subst hsz
  have hD := hD0.self (sz := s.heap.size)
  generalize hAe : va_A [(o_Stacks, .inr (2, [.ref r_S_values, .int S_top, .ref r_S_bases, .ref r_S_floors, .ref r_S_returns, .ref r_S_closures, .int S_frames, .ref r_S_handlerFrames, .ref r_S_handlerPlaces, .ref r_S_handlerHeights, .ref r_S_handlerDepths, .int S_handlers]))] s.heap.size = A at hD ⊢
  have hA : ∀ q : Nat, s.heap.size ≤ q → A q := fun q h => by rw [← hAe]; exact Or.inr h
  have hS : va_S A s.heap s.heap [] := va_S.rf
  have hP : va_P (dC, dI) classes [(o_Stacks, .inr (2, [.ref r_S_values, .int S_top, .ref r_S_bases, .ref r_S_floors, .ref r_S_returns, .ref r_S_closures, .int S_frames, .ref r_S_handlerFrames, .ref r_S_handlerPlaces, .ref r_S_handlerHeights, .ref r_S_handlerDepths, .int S_handlers]))] s.heap := hP
  have hl := lv_entry ([.ref o_Stacks]) (n := 1) (Nat.le_of_ble_eq_true rfl)
  rw [lg_entry_eq]
  generalize (lg_sl ([.ref o_Stacks]) ++ List.replicate (1 - (lg_sl ([.ref o_Stacks])).length) Slot.unset).toArray = ls at hl ⊢
  have hl : lv_has ls 1 [(0, .ref o_Stacks)] := hl
  unfold m_Stacks_drop at h
  refine lv_aload_n hx hb d_Stacks_drop_0 rfl (lv_at hl 0 rfl) ?_
  refine lv_dup hx hb d_Stacks_drop_1 rfl ?_
  refine va_get (D := (dC, dI)) (ci := 2) (v := .int S_top) (C := R_Stacks) (T := F_Stacks) (N := 12) hx hb hg i_Stacks hown hK hP 0 rfl rfl 1 (by decide) (hg _ k53) (fun _ h9 => h9) rfl d_Stacks_drop_2 ?_
  refine lv_iconst (v := 1) hx hb d_Stacks_drop_5 (by decide) ?_
  refine lv_isub hx hb d_Stacks_drop_6 ?_
  refine va_put (D := (dC, dI)) (ci := 2) (v := .int (S_top - 1)) (ty := .int) (C := R_Stacks) (T := F_Stacks) (N := 12) hx hb hg i_Stacks t_Stacks t_Stacks_ok n_Stacks hown hK hP hD hS 0 rfl rfl 1 (by decide) (hg _ k53) (fun _ h9 => h9) rfl (by decide +kernel) rfl rfl (Nat.le_of_ble_eq_true rfl) d_Stacks_drop_7 (fun H locs hP hD hS => ?_)
  have hP : va_P (dC, dI) classes [(o_Stacks, .inr (2, [.ref r_S_values, .int (S_top - 1), .ref r_S_bases, .ref r_S_floors, .ref r_S_returns, .ref r_S_closures, .int S_frames, .ref r_S_handlerFrames, .ref r_S_handlerPlaces, .ref r_S_handlerHeights, .ref r_S_handlerDepths, .int S_handlers]))] H := hP
  have hD : va_D A [(o_Stacks, .inr (2, [.ref r_S_values, .int (S_top - 1), .ref r_S_bases, .ref r_S_floors, .ref r_S_returns, .ref r_S_closures, .int S_frames, .ref r_S_handlerFrames, .ref r_S_handlerPlaces, .ref r_S_handlerHeights, .ref r_S_handlerDepths, .int S_handlers]))] := hD
  refine lv_iconst (v := 5) hx hb d_Stacks_drop_10 (by decide) ?_
  obtain rfl := Option.some.inj h
  have hP9 := hP.sub (ws' := [(o_Stacks, .inr (2, [.ref r_S_values, .int (S_top - 1), .ref r_S_bases, .ref r_S_floors, .ref r_S_returns, .ref r_S_closures, .int S_frames, .ref r_S_handlerFrames, .ref r_S_handlerPlaces, .ref r_S_handlerHeights, .ref r_S_handlerDepths, .int S_handlers]))]) [0] rfl
  have hD9 := hD.sub (ws' := [(o_Stacks, .inr (2, [.ref r_S_values, .int (S_top - 1), .ref r_S_bases, .ref r_S_floors, .ref r_S_returns, .ref r_S_closures, .int S_frames, .ref r_S_handlerFrames, .ref r_S_handlerPlaces, .ref r_S_handlerHeights, .ref r_S_handlerDepths, .int S_handlers]))]) [0] (by decide) rfl
  have hK9 := hK.sub (tys' := []) [] rfl
  exact W.iret (v := 5) hx hb hr (fun t ht hW => ⟨⟨5, (), rfl, rfl, by rw [ht]; exact hP9, va_K.moved hW.alike hK9, hD9⟩, hS.F ht⟩) hS.2.2 d_Stacks_drop_11

set_option maxHeartbeats 4000000 in
set_option maxRecDepth 100000 in
theorem c_Stacks_isFull (l : Launch) (dC : Nat → ClassId) (dI : Nat → Nat → Nat) (N : Nat) (o_Stacks : Nat) (r_S_values : Nat) (r_S_bases : Nat) (r_S_floors : Nat) (r_S_returns : Nat) (r_S_closures : Nat) (r_S_handlerFrames : Nat) (r_S_handlerPlaces : Nat) (r_S_handlerHeights : Nat) (r_S_handlerDepths : Nat) (S_top : Int32) (S_frames : Int32) (S_handlers : Int32) (z : Int32) (h : m_Stacks_isFull N S_top S_frames S_handlers = some z) : Met l y_Stacks_isFull (.code y_Stacks_isFull b_Stacks_isFull 1 (some .boolean) :: lw_g) ({ frames := 0, cells := 0, slots := 0, locals := 0 }) (va_Pc [.ref o_Stacks] (fun U => dz_N U ∧ va_P (dC, dI) classes [(o_Stacks, .inr (2, [.ref r_S_values, .int S_top, .ref r_S_bases, .ref r_S_floors, .ref r_S_returns, .ref r_S_closures, .int S_frames, .ref r_S_handlerFrames, .ref r_S_handlerPlaces, .ref r_S_handlerHeights, .ref r_S_handlerDepths, .int S_handlers]))] U.heap ∧ va_K (dC, dI) classes [] U)) (vp_Si (fun r => r = z ∧ narrow .boolean (.int z) = .int z ∧ fits .boolean (.int z) = true)) 0 0 (fun _ => False) := by
  refine Met.ofW (cc := b_Stacks_isFull) (maxL := 1) (ret := (some .boolean)) (by decide +kernel) rfl ?_
  intro p e s m args below meth c s₁ B hml hv
  obtain ⟨rfl, hN, hP, hK⟩ := hv
  have hx := B.exec
  have hb := B.bytes
  have hr := B.returns
  have hg : ∀ w ∈ lw_g, w.before _ s = true := fun w hw => atoms_spec (ws := .code y_Stacks_isFull b_Stacks_isFull 1 (some .boolean) :: lw_g) B.pre w (List.mem_cons_of_mem _ hw)
  have hown : s.vm.findClass R_Stacks = some m.cls := findClass_of_methodNamed B.named
  have hlocks := B.notSynchronized
  clear B
  have hP : va_P (dC, dI) classes [(o_Stacks, .inr (2, [.ref r_S_values, .int S_top, .ref r_S_bases, .ref r_S_floors, .ref r_S_returns, .ref r_S_closures, .int S_frames, .ref r_S_handlerFrames, .ref r_S_handlerPlaces, .ref r_S_handlerHeights, .ref r_S_handlerDepths, .int S_handlers]))] s.heap := hP
  have hl := lv_entry ([.ref o_Stacks]) (n := 1) (Nat.le_of_ble_eq_true rfl)
  rw [lg_entry_eq]
  generalize (lg_sl ([.ref o_Stacks]) ++ List.replicate (1 - (lg_sl ([.ref o_Stacks])).length) Slot.unset).toArray = ls at hl ⊢
  have hl : lv_has ls 1 [(0, .ref o_Stacks)] := hl
  unfold m_Stacks_isFull at h
  refine lv_aload_n hx hb d_Stacks_isFull_0 rfl (lv_at hl 0 rfl) ?_
  refine va_get (D := (dC, dI)) (ci := 2) (v := .int S_top) (C := R_Stacks) (T := F_Stacks) (N := 12) hx hb hg i_Stacks hown hK hP 0 rfl rfl 1 (by decide) (hg _ k53) (fun _ h9 => h9) rfl d_Stacks_isFull_1 ?_
  refine lv_ldc (v := 65536) hx hb hown (hg _ k66) d_Stacks_isFull_4 ?_
  refine lv_icmp_lt (tgt := 13) hx hb d_Stacks_isFull_6 (by decide) (fun c1 => ?_) (fun c1 => ?_)
  · rw [if_pos c1] at h
    refine lv_iconst (v := 0) hx hb d_Stacks_isFull_13 (by decide) ?_
    obtain rfl := Option.some.inj h
    exact W.zret (v := 0) (ty := .boolean) hx hb hr (show narrow .boolean (.int 0) = .int 0 from rfl) (fun t ht hW => ⟨_, rfl, ⟨rfl, (show narrow .boolean (.int 0) = .int 0 from rfl), (show fits .boolean (.int 0) = true from rfl)⟩, ht⟩) (fun _ h => by cases h) d_Stacks_isFull_14
  · rw [if_neg c1] at h
    refine lv_iconst (v := 1) hx hb d_Stacks_isFull_9 (by decide) ?_
    refine lv_goto (tgt := 14) hx hb d_Stacks_isFull_10 (by decide) ?_
    obtain rfl := Option.some.inj h
    exact W.zret (v := 1) (ty := .boolean) hx hb hr (show narrow .boolean (.int 1) = .int 1 from rfl) (fun t ht hW => ⟨_, rfl, ⟨rfl, (show narrow .boolean (.int 1) = .int 1 from rfl), (show fits .boolean (.int 1) = true from rfl)⟩, ht⟩) (fun _ h => by cases h) d_Stacks_isFull_14

set_option maxHeartbeats 4000000 in
set_option maxRecDepth 100000 in
theorem c_Stacks_widen (l : Launch) (dC : Nat → ClassId) (dI : Nat → Nat → Nat) (N : Nat) (cL : ClassId) (o_Stacks : Nat) (r_S_values : Nat) (r_S_bases : Nat) (r_S_floors : Nat) (r_S_returns : Nat) (r_S_closures : Nat) (r_S_handlerFrames : Nat) (r_S_handlerPlaces : Nat) (r_S_handlerHeights : Nat) (r_S_handlerDepths : Nat) (S_top : Int32) (S_frames : Int32) (S_handlers : Int32) (n_S_values : Nat) (f_S_values : Nat → Int64) (p0 : Int32) (sz : Nat) (Z1 : Nat × (Nat → Int64)) (Zc Zs : Nat) (h : m_Stacks_widen N S_top S_frames S_handlers n_S_values f_S_values p0 = some (Z1, Zc, Zs)) : Met l y_Stacks_widen (.code y_Stacks_widen b_Stacks_widen 2 none :: lw_g) ({ frames := 2, cells := Zc, slots := Zs, locals := 82 }) (va_Pc [.ref o_Stacks, .int p0] (fun U => dz_N U ∧ U.heap.size = sz ∧ va_P (dC, dI) classes [(o_Stacks, .inr (2, [.ref r_S_values, .int S_top, .ref r_S_bases, .ref r_S_floors, .ref r_S_returns, .ref r_S_closures, .int S_frames, .ref r_S_handlerFrames, .ref r_S_handlerPlaces, .ref r_S_handlerHeights, .ref r_S_handlerDepths, .int S_handlers])), (r_S_values, .inl (cL, n_S_values, .inr (.inl f_S_values)))] U.heap ∧ va_K (dC, dI) classes [(cL, .long)] U ∧ va_D (fun _ => True) [(o_Stacks, .inr (2, [.ref r_S_values, .int S_top, .ref r_S_bases, .ref r_S_floors, .ref r_S_returns, .ref r_S_closures, .int S_frames, .ref r_S_handlerFrames, .ref r_S_handlerPlaces, .ref r_S_handlerHeights, .ref r_S_handlerDepths, .int S_handlers])), (r_S_values, .inl (cL, n_S_values, .inr (.inl f_S_values)))])) (va_Qv (fun (_ : Nat) => True) (fun (u : Nat) t => va_P (dC, dI) classes [(o_Stacks, .inr (2, [.ref u, .int S_top, .ref r_S_bases, .ref r_S_floors, .ref r_S_returns, .ref r_S_closures, .int S_frames, .ref r_S_handlerFrames, .ref r_S_handlerPlaces, .ref r_S_handlerHeights, .ref r_S_handlerDepths, .int S_handlers])), (u, .inl (cL, Z1.1, .inr (.inl Z1.2)))] t.heap ∧ va_K (dC, dI) classes [(cL, .long)] t ∧ va_D (va_A [(o_Stacks, .inr (2, [.ref r_S_values, .int S_top, .ref r_S_bases, .ref r_S_floors, .ref r_S_returns, .ref r_S_closures, .int S_frames, .ref r_S_handlerFrames, .ref r_S_handlerPlaces, .ref r_S_handlerHeights, .ref r_S_handlerDepths, .int S_handlers])), (r_S_values, .inl (cL, n_S_values, .inr (.inl f_S_values)))] sz) [(o_Stacks, .inr (2, [.ref u, .int S_top, .ref r_S_bases, .ref r_S_floors, .ref r_S_returns, .ref r_S_closures, .int S_frames, .ref r_S_handlerFrames, .ref r_S_handlerPlaces, .ref r_S_handlerHeights, .ref r_S_handlerDepths, .int S_handlers])), (u, .inl (cL, Z1.1, .inr (.inl Z1.2)))]) (va_A [(o_Stacks, .inr (2, [.ref r_S_values, .int S_top, .ref r_S_bases, .ref r_S_floors, .ref r_S_returns, .ref r_S_closures, .int S_frames, .ref r_S_handlerFrames, .ref r_S_handlerPlaces, .ref r_S_handlerHeights, .ref r_S_handlerDepths, .int S_handlers])), (r_S_values, .inl (cL, n_S_values, .inr (.inl f_S_values)))] sz)) Zc Zs (va_A [(o_Stacks, .inr (2, [.ref r_S_values, .int S_top, .ref r_S_bases, .ref r_S_floors, .ref r_S_returns, .ref r_S_closures, .int S_frames, .ref r_S_handlerFrames, .ref r_S_handlerPlaces, .ref r_S_handlerHeights, .ref r_S_handlerDepths, .int S_handlers])), (r_S_values, .inl (cL, n_S_values, .inr (.inl f_S_values)))] sz) := by
  refine Met.ofW (cc := b_Stacks_widen) (maxL := 2) (ret := none) (by decide +kernel) rfl ?_
  intro p e s m args below meth c s₁ B hml hv
  obtain ⟨rfl, hN, hsz, hP, hK, hD0⟩ := hv
  have hx := B.exec
  have hb := B.bytes
  have hr := B.returns
  have hg : ∀ w ∈ lw_g, w.before _ s = true := fun w hw => atoms_spec (ws := .code y_Stacks_widen b_Stacks_widen 2 none :: lw_g) B.pre w (List.mem_cons_of_mem _ hw)
  have hown : s.vm.findClass R_Stacks = some m.cls := findClass_of_methodNamed B.named
  have hlocks := B.notSynchronized
  clear B
  subst hsz
  have hD := hD0.self (sz := s.heap.size)
  generalize hAe : va_A [(o_Stacks, .inr (2, [.ref r_S_values, .int S_top, .ref r_S_bases, .ref r_S_floors, .ref r_S_returns, .ref r_S_closures, .int S_frames, .ref r_S_handlerFrames, .ref r_S_handlerPlaces, .ref r_S_handlerHeights, .ref r_S_handlerDepths, .int S_handlers])), (r_S_values, .inl (cL, n_S_values, .inr (.inl f_S_values)))] s.heap.size = A at hD ⊢
  have hA : ∀ q : Nat, s.heap.size ≤ q → A q := fun q h => by rw [← hAe]; exact Or.inr h
  have hS : va_S A s.heap s.heap [] := va_S.rf
  have hP : va_P (dC, dI) classes [(o_Stacks, .inr (2, [.ref r_S_values, .int S_top, .ref r_S_bases, .ref r_S_floors, .ref r_S_returns, .ref r_S_closures, .int S_frames, .ref r_S_handlerFrames, .ref r_S_handlerPlaces, .ref r_S_handlerHeights, .ref r_S_handlerDepths, .int S_handlers])), (r_S_values, .inl (cL, n_S_values, .inr (.inl f_S_values)))] s.heap := hP
  have hl := lv_entry ([.ref o_Stacks, .int p0]) (n := 2) (Nat.le_of_ble_eq_true rfl)
  rw [lg_entry_eq]
  generalize (lg_sl ([.ref o_Stacks, .int p0]) ++ List.replicate (2 - (lg_sl ([.ref o_Stacks, .int p0])).length) Slot.unset).toArray = ls at hl ⊢
  have hl : lv_has ls 2 [(0, .ref o_Stacks), (1, .int p0)] := hl
  unfold m_Stacks_widen at h
  have hG : dz_G Z1 Zc Zs (Z1, Zc, Zs) 0 0 := ⟨rfl, (Nat.zero_add _).symm, (Nat.zero_add _).symm⟩
  generalize (Z1, Zc, Zs) = z at h hG
  refine lv_aload_n hx hb d_Stacks_widen_0 rfl (lv_at hl 0 rfl) ?_
  refine lv_aload_n hx hb d_Stacks_widen_1 rfl (lv_at hl 0 rfl) ?_
  refine va_get (D := (dC, dI)) (ci := 2) (v := .ref r_S_values) (C := R_Stacks) (T := F_Stacks) (N := 12) hx hb hg i_Stacks hown hK hP 0 rfl rfl 0 (by decide) (hg _ k65) (fun _ h9 => h9) rfl d_Stacks_widen_2 ?_
  refine lv_aload_n hx hb d_Stacks_widen_5 rfl (lv_at hl 0 rfl) ?_
  refine va_get (D := (dC, dI)) (ci := 2) (v := .ref r_S_values) (C := R_Stacks) (T := F_Stacks) (N := 12) hx hb hg i_Stacks hown hK hP 0 rfl rfl 0 (by decide) (hg _ k65) (fun _ h9 => h9) rfl d_Stacks_widen_6 ?_
  refine va_alen (D := (dC, dI)) (v := Int32.ofNat n_S_values) hx hb hK hP 1 0 rfl rfl rfl d_Stacks_widen_9 ?_
  refine lv_iload_n hx hb d_Stacks_widen_10 rfl (lv_at hl 1 rfl) ?_
  refine lv_ldc (v := 65536) hx hb hown (hg _ k66) d_Stacks_widen_11 ?_
  obtain ⟨z1_1, hc1, h⟩ := dz_ob h
  try dsimp only at h
  have hPc := hP.sub (ws' := []) [] rfl
  have hKc := hK.sub (tys' := []) [] rfl
  refine vp_callSi (va_Run.run (va_runSN (As := [.int (Int32.ofNat n_S_values), .int p0, .int 65536]) (rest := [.ref r_S_values, .ref o_Stacks]) ⟨hx, hb, hml, hown, hg⟩ (c_Engine_longer l dC dI N (Int32.ofNat n_S_values) p0 (65536 : Int32) z1_1 hc1) ⟨va_cnB 3 hg (gd_N k26) rfl rfl rfl hN.2.2.2.2 (hg _ k27) (by decide +kernel) ⟨Nat.le_of_ble_eq_true rfl, Nat.le_of_ble_eq_true rfl⟩, hg _ k28, trivial⟩ ⟨dz_blindR, fun U hU hW => ⟨rfl, dz_Nw hW hN, by rw [hU]; exact hPc, va_K.moved hW.alike hKc⟩⟩ rfl rfl hl.1 rfl (lv_room (Nat.le_of_ble_eq_true rfl)) d_Stacks_widen_13 ⟨dz_Gc hG, dz_Gs hG⟩)) (fun r1 hw => ?_)
  have hw : z1_1 = r1 := hw.symm
  subst hw
  obtain ⟨⟨⟨z2_1, z2_2⟩, zc2, zs2⟩, hc2, h⟩ := dz_ob h
  try dsimp only at h
  obtain ⟨z, h, hG⟩ := dz_tkG h hG
  have hPc := hP.sub (ws' := [(r_S_values, .inl (cL, n_S_values, .inr (.inl f_S_values)))]) [1] rfl
  have hKc := hK.sub (tys' := [(cL, .long)]) [0] rfl
  have hDc := hD.sub (ws' := [(r_S_values, .inl (cL, n_S_values, .inr (.inl f_S_values)))]) [1] (by decide) rfl
  have hFc := va_free (wc := [(r_S_values, .inl (cL, n_S_values, .inr (.inl f_S_values)))]) hD hS hA [1] rfl
  refine va_callr (va_runS (As := [.ref r_S_values, .int z1_1]) (rest := [.ref o_Stacks]) ⟨hx, hb, hml, hown, hg⟩ (c_Arrays_copyOfJ l dC dI N cL r_S_values n_S_values f_S_values z1_1 s.heap.size (z2_1, z2_2) zc2 zs2 hc2) (va_cwS 2 hg (gd_S k68 k69 k22 k67) rfl rfl rfl (by decide +kernel) ⟨Nat.le_of_ble_eq_true rfl, Nat.le_of_ble_eq_true rfl⟩) ⟨dz_blind, fun U hU hW => ⟨rfl, dz_Nw hW hN, by rw [hU], by rw [hU]; exact hPc, va_K.moved hW.alike hKc, hDc.weaken (fun _ _ _ _ => trivial)⟩⟩ rfl rfl hl.1 rfl (lv_room (Nat.le_of_ble_eq_true rfl)) d_Stacks_widen_16 ⟨dz_Gc hG, dz_Gs hG⟩) hS (fun q _ h => hFc q h) hFc (fun u2 a2_r t2 H1 locs ht hvm hw hB hz1 hk1 hS => ?_)
  obtain ⟨hP1, hK1, hD1⟩ := hB
  rw [ht] at hP1
  obtain ⟨hP, hD⟩ := va_join (wr := [(o_Stacks, .inr (2, [.ref r_S_values, .int S_top, .ref r_S_bases, .ref r_S_floors, .ref r_S_returns, .ref r_S_closures, .int S_frames, .ref r_S_handlerFrames, .ref r_S_handlerPlaces, .ref r_S_handlerHeights, .ref r_S_handlerDepths, .int S_handlers]))]) (w1 := [(r_S_values, .inl (cL, n_S_values, .inr (.inl f_S_values))), (a2_r, .inl (cL, z2_1, .inr (.inl z2_2)))]) hP hD [1] [0] rfl rfl (by decide) (by decide) hk1 hFc hP1 hD1
  generalize H1 = H at hP hS ⊢
  have hP : va_P (dC, dI) classes [(o_Stacks, .inr (2, [.ref r_S_values, .int S_top, .ref r_S_bases, .ref r_S_floors, .ref r_S_returns, .ref r_S_closures, .int S_frames, .ref r_S_handlerFrames, .ref r_S_handlerPlaces, .ref r_S_handlerHeights, .ref r_S_handlerDepths, .int S_handlers])), (r_S_values, .inl (cL, n_S_values, .inr (.inl f_S_values))), (a2_r, .inl (cL, z2_1, .inr (.inl z2_2)))] H := hP
  have hD : va_D A [(o_Stacks, .inr (2, [.ref r_S_values, .int S_top, .ref r_S_bases, .ref r_S_floors, .ref r_S_returns, .ref r_S_closures, .int S_frames, .ref r_S_handlerFrames, .ref r_S_handlerPlaces, .ref r_S_handlerHeights, .ref r_S_handlerDepths, .int S_handlers])), (r_S_values, .inl (cL, n_S_values, .inr (.inl f_S_values))), (a2_r, .inl (cL, z2_1, .inr (.inl z2_2)))] := hD
  refine va_put (D := (dC, dI)) (ci := 2) (v := .ref a2_r) (ty := .array .long) (C := R_Stacks) (T := F_Stacks) (N := 12) hx hb hg i_Stacks t_Stacks t_Stacks_ok n_Stacks hown hK hP hD hS 0 rfl rfl 0 (by decide) (hg _ k65) (fun _ h9 => h9) rfl (by decide +kernel) rfl rfl (Nat.le_of_ble_eq_true rfl) d_Stacks_widen_19 (fun H locs hP hD hS => ?_)
  have hP : va_P (dC, dI) classes [(o_Stacks, .inr (2, [.ref a2_r, .int S_top, .ref r_S_bases, .ref r_S_floors, .ref r_S_returns, .ref r_S_closures, .int S_frames, .ref r_S_handlerFrames, .ref r_S_handlerPlaces, .ref r_S_handlerHeights, .ref r_S_handlerDepths, .int S_handlers])), (r_S_values, .inl (cL, n_S_values, .inr (.inl f_S_values))), (a2_r, .inl (cL, z2_1, .inr (.inl z2_2)))] H := hP
  have hD : va_D A [(o_Stacks, .inr (2, [.ref a2_r, .int S_top, .ref r_S_bases, .ref r_S_floors, .ref r_S_returns, .ref r_S_closures, .int S_frames, .ref r_S_handlerFrames, .ref r_S_handlerPlaces, .ref r_S_handlerHeights, .ref r_S_handlerDepths, .int S_handlers])), (r_S_values, .inl (cL, n_S_values, .inr (.inl f_S_values))), (a2_r, .inl (cL, z2_1, .inr (.inl z2_2)))] := hD
  obtain rfl := Option.some.inj h
  have hP9 := hP.sub (ws' := [(o_Stacks, .inr (2, [.ref a2_r, .int S_top, .ref r_S_bases, .ref r_S_floors, .ref r_S_returns, .ref r_S_closures, .int S_frames, .ref r_S_handlerFrames, .ref r_S_handlerPlaces, .ref r_S_handlerHeights, .ref r_S_handlerDepths, .int S_handlers])), (a2_r, .inl (cL, z2_1, .inr (.inl z2_2)))]) [0, 2] rfl
  have hD9 := hD.sub (ws' := [(o_Stacks, .inr (2, [.ref a2_r, .int S_top, .ref r_S_bases, .ref r_S_floors, .ref r_S_returns, .ref r_S_closures, .int S_frames, .ref r_S_handlerFrames, .ref r_S_handlerPlaces, .ref r_S_handlerHeights, .ref r_S_handlerDepths, .int S_handlers])), (a2_r, .inl (cL, z2_1, .inr (.inl z2_2)))]) [0, 2] (by decide) rfl
  have hK9 := hK.sub (tys' := [(cL, .long)]) [0] rfl
  refine W.widen (dz_Gc hG) (dz_Gs hG) ?_
  obtain ⟨rfl, -, -⟩ := hG
  exact W.vret hx hb hr (fun t ht hW => ⟨⟨a2_r, rfl, trivial, by rw [ht]; exact hP9, va_K.moved hW.alike hK9, hD9⟩, hS.F ht⟩) hS.2.2 d_Stacks_widen_22

set_option maxHeartbeats 4000000 in
set_option maxRecDepth 100000 in
theorem c_Stacks_push (l : Launch) (dC : Nat → ClassId) (dI : Nat → Nat → Nat) (N : Nat) (cL : ClassId) (o_Stacks : Nat) (r_S_values : Nat) (r_S_bases : Nat) (r_S_floors : Nat) (r_S_returns : Nat) (r_S_closures : Nat) (r_S_handlerFrames : Nat) (r_S_handlerPlaces : Nat) (r_S_handlerHeights : Nat) (r_S_handlerDepths : Nat) (S_top : Int32) (S_frames : Int32) (S_handlers : Int32) (n_S_values : Nat) (f_S_values : Nat → Int64) (p0 : Int64) (sz : Nat) (Z1 : Int32 × Int32 × Nat × (Nat → Int64)) (Zc Zs : Nat) (h : m_Stacks_push N S_top S_frames S_handlers n_S_values f_S_values p0 = some (Z1, Zc, Zs)) : Met l y_Stacks_push (.code y_Stacks_push b_Stacks_push 3 (some .int) :: lw_g) ({ frames := 3, cells := Zc, slots := Zs, locals := 103 }) (va_Pc [.ref o_Stacks, .long p0] (fun U => dz_N U ∧ U.heap.size = sz ∧ va_P (dC, dI) classes [(o_Stacks, .inr (2, [.ref r_S_values, .int S_top, .ref r_S_bases, .ref r_S_floors, .ref r_S_returns, .ref r_S_closures, .int S_frames, .ref r_S_handlerFrames, .ref r_S_handlerPlaces, .ref r_S_handlerHeights, .ref r_S_handlerDepths, .int S_handlers])), (r_S_values, .inl (cL, n_S_values, .inr (.inl f_S_values)))] U.heap ∧ va_K (dC, dI) classes [(cL, .long)] U ∧ va_D (fun _ => True) [(o_Stacks, .inr (2, [.ref r_S_values, .int S_top, .ref r_S_bases, .ref r_S_floors, .ref r_S_returns, .ref r_S_closures, .int S_frames, .ref r_S_handlerFrames, .ref r_S_handlerPlaces, .ref r_S_handlerHeights, .ref r_S_handlerDepths, .int S_handlers])), (r_S_values, .inl (cL, n_S_values, .inr (.inl f_S_values)))])) (va_Qi (fun (r : Int32) (_ : Nat) => r = Z1.1) (fun (u : Nat) t => va_P (dC, dI) classes [(o_Stacks, .inr (2, [.ref u, .int Z1.2.1, .ref r_S_bases, .ref r_S_floors, .ref r_S_returns, .ref r_S_closures, .int S_frames, .ref r_S_handlerFrames, .ref r_S_handlerPlaces, .ref r_S_handlerHeights, .ref r_S_handlerDepths, .int S_handlers])), (u, .inl (cL, Z1.2.2.1, .inr (.inl Z1.2.2.2)))] t.heap ∧ va_K (dC, dI) classes [(cL, .long)] t ∧ va_D (va_A [(o_Stacks, .inr (2, [.ref r_S_values, .int S_top, .ref r_S_bases, .ref r_S_floors, .ref r_S_returns, .ref r_S_closures, .int S_frames, .ref r_S_handlerFrames, .ref r_S_handlerPlaces, .ref r_S_handlerHeights, .ref r_S_handlerDepths, .int S_handlers])), (r_S_values, .inl (cL, n_S_values, .inr (.inl f_S_values)))] sz) [(o_Stacks, .inr (2, [.ref u, .int Z1.2.1, .ref r_S_bases, .ref r_S_floors, .ref r_S_returns, .ref r_S_closures, .int S_frames, .ref r_S_handlerFrames, .ref r_S_handlerPlaces, .ref r_S_handlerHeights, .ref r_S_handlerDepths, .int S_handlers])), (u, .inl (cL, Z1.2.2.1, .inr (.inl Z1.2.2.2)))]) (va_A [(o_Stacks, .inr (2, [.ref r_S_values, .int S_top, .ref r_S_bases, .ref r_S_floors, .ref r_S_returns, .ref r_S_closures, .int S_frames, .ref r_S_handlerFrames, .ref r_S_handlerPlaces, .ref r_S_handlerHeights, .ref r_S_handlerDepths, .int S_handlers])), (r_S_values, .inl (cL, n_S_values, .inr (.inl f_S_values)))] sz)) Zc Zs (va_A [(o_Stacks, .inr (2, [.ref r_S_values, .int S_top, .ref r_S_bases, .ref r_S_floors, .ref r_S_returns, .ref r_S_closures, .int S_frames, .ref r_S_handlerFrames, .ref r_S_handlerPlaces, .ref r_S_handlerHeights, .ref r_S_handlerDepths, .int S_handlers])), (r_S_values, .inl (cL, n_S_values, .inr (.inl f_S_values)))] sz) := by
  refine Met.ofW (cc := b_Stacks_push) (maxL := 3) (ret := (some .int)) (by decide +kernel) rfl ?_
  intro p e s m args below meth c s₁ B hml hv
  obtain ⟨rfl, hN, hsz, hP, hK, hD0⟩ := hv
  have hx := B.exec
  have hb := B.bytes
  have hr := B.returns
  have hg : ∀ w ∈ lw_g, w.before _ s = true := fun w hw => atoms_spec (ws := .code y_Stacks_push b_Stacks_push 3 (some .int) :: lw_g) B.pre w (List.mem_cons_of_mem _ hw)
  have hown : s.vm.findClass R_Stacks = some m.cls := findClass_of_methodNamed B.named
  have hlocks := B.notSynchronized
  clear B
  subst hsz
  have hD := hD0.self (sz := s.heap.size)
  generalize hAe : va_A [(o_Stacks, .inr (2, [.ref r_S_values, .int S_top, .ref r_S_bases, .ref r_S_floors, .ref r_S_returns, .ref r_S_closures, .int S_frames, .ref r_S_handlerFrames, .ref r_S_handlerPlaces, .ref r_S_handlerHeights, .ref r_S_handlerDepths, .int S_handlers])), (r_S_values, .inl (cL, n_S_values, .inr (.inl f_S_values)))] s.heap.size = A at hD ⊢
  have hA : ∀ q : Nat, s.heap.size ≤ q → A q := fun q h => by rw [← hAe]; exact Or.inr h
  have hS : va_S A s.heap s.heap [] := va_S.rf
  have hP : va_P (dC, dI) classes [(o_Stacks, .inr (2, [.ref r_S_values, .int S_top, .ref r_S_bases, .ref r_S_floors, .ref r_S_returns, .ref r_S_closures, .int S_frames, .ref r_S_handlerFrames, .ref r_S_handlerPlaces, .ref r_S_handlerHeights, .ref r_S_handlerDepths, .int S_handlers])), (r_S_values, .inl (cL, n_S_values, .inr (.inl f_S_values)))] s.heap := hP
  have hl := lv_entry ([.ref o_Stacks, .long p0]) (n := 3) (Nat.le_of_ble_eq_true rfl)
  rw [lg_entry_eq]
  generalize (lg_sl ([.ref o_Stacks, .long p0]) ++ List.replicate (3 - (lg_sl ([.ref o_Stacks, .long p0])).length) Slot.unset).toArray = ls at hl ⊢
  have hl : lv_has ls 3 [(0, .ref o_Stacks), (1, .long p0)] := hl
  unfold m_Stacks_push at h
  have hG : dz_G Z1 Zc Zs (Z1, Zc, Zs) 0 0 := ⟨rfl, (Nat.zero_add _).symm, (Nat.zero_add _).symm⟩
  generalize (Z1, Zc, Zs) = z at h hG
  refine lv_aload_n hx hb d_Stacks_push_0 rfl (lv_at hl 0 rfl) ?_
  obtain ⟨z1_1, hc1, h⟩ := dz_ob h
  try dsimp only at h
  have hPc := hP.sub (ws' := [(o_Stacks, .inr (2, [.ref r_S_values, .int S_top, .ref r_S_bases, .ref r_S_floors, .ref r_S_returns, .ref r_S_closures, .int S_frames, .ref r_S_handlerFrames, .ref r_S_handlerPlaces, .ref r_S_handlerHeights, .ref r_S_handlerDepths, .int S_handlers]))]) [0] rfl
  have hKc := hK.sub (tys' := []) [] rfl
  refine vp_callSi (va_Run.run (va_runV (As := []) (rest := []) ⟨hx, hb, hml, hown, hg⟩ (c_Stacks_isFull l dC dI N o_Stacks r_S_values r_S_bases r_S_floors r_S_returns r_S_closures r_S_handlerFrames r_S_handlerPlaces r_S_handlerHeights r_S_handlerDepths S_top S_frames S_handlers z1_1 hc1) (cwV 0 hg (gd_V k71 k72 k73 k64 k70) rfl rfl rfl (by decide +kernel) ⟨Nat.le_of_ble_eq_true rfl, Nat.le_of_ble_eq_true rfl⟩) ⟨dz_blindR, va_recv hKc hPc (ci := 2) (q0 := 0) rfl rfl, fun U hU hW => ⟨rfl, dz_Nw hW hN, by rw [hU]; exact hPc, va_K.moved hW.alike hKc⟩⟩ rfl rfl hl.1 rfl (lv_room (Nat.le_of_ble_eq_true rfl)) d_Stacks_push_1 ⟨dz_Gc hG, dz_Gs hG⟩)) (fun r1 hw => ?_)
  obtain ⟨hw, hbz1⟩ := hw
  have hw : z1_1 = r1 := hw.symm
  subst hw
  refine lv_if_eq (tgt := 9) hx hb d_Stacks_push_4 (by decide) (fun c2 => ?_) (fun c2 => ?_)
  · rw [if_pos c2] at h
    refine lv_aload_n hx hb d_Stacks_push_9 rfl (lv_at hl 0 rfl) ?_
    refine va_get (D := (dC, dI)) (ci := 2) (v := .int S_top) (C := R_Stacks) (T := F_Stacks) (N := 12) hx hb hg i_Stacks hown hK hP 0 rfl rfl 1 (by decide) (hg _ k53) (fun _ h9 => h9) rfl d_Stacks_push_10 ?_
    refine lv_aload_n hx hb d_Stacks_push_13 rfl (lv_at hl 0 rfl) ?_
    refine va_get (D := (dC, dI)) (ci := 2) (v := .ref r_S_values) (C := R_Stacks) (T := F_Stacks) (N := 12) hx hb hg i_Stacks hown hK hP 0 rfl rfl 0 (by decide) (hg _ k65) (fun _ h9 => h9) rfl d_Stacks_push_14 ?_
    refine va_alen (D := (dC, dI)) (v := Int32.ofNat n_S_values) hx hb hK hP 1 0 rfl rfl rfl d_Stacks_push_17 ?_
    refine lv_icmp_lt (tgt := 31) hx hb d_Stacks_push_18 (by decide) (fun c3 => ?_) (fun c3 => ?_)
    · rw [if_pos c3] at h
      refine lv_aload_n hx hb d_Stacks_push_31 rfl (lv_at hl 0 rfl) ?_
      refine va_get (D := (dC, dI)) (ci := 2) (v := .ref r_S_values) (C := R_Stacks) (T := F_Stacks) (N := 12) hx hb hg i_Stacks hown hK hP 0 rfl rfl 0 (by decide) (hg _ k65) (fun _ h9 => h9) rfl d_Stacks_push_32 ?_
      refine lv_aload_n hx hb d_Stacks_push_35 rfl (lv_at hl 0 rfl) ?_
      refine lv_dup hx hb d_Stacks_push_36 rfl ?_
      refine va_get (D := (dC, dI)) (ci := 2) (v := .int S_top) (C := R_Stacks) (T := F_Stacks) (N := 12) hx hb hg i_Stacks hown hK hP 0 rfl rfl 1 (by decide) (hg _ k53) (fun _ h9 => h9) rfl d_Stacks_push_37 ?_
      refine lv_dup_x1 hx hb d_Stacks_push_40 rfl rfl ?_
      refine lv_iconst (v := 1) hx hb d_Stacks_push_41 (by decide) ?_
      refine lv_iadd hx hb d_Stacks_push_42 ?_
      refine va_put (D := (dC, dI)) (ci := 2) (v := .int (S_top + 1)) (ty := .int) (C := R_Stacks) (T := F_Stacks) (N := 12) hx hb hg i_Stacks t_Stacks t_Stacks_ok n_Stacks hown hK hP hD hS 0 rfl rfl 1 (by decide) (hg _ k53) (fun _ h9 => h9) rfl (by decide +kernel) rfl rfl (Nat.le_of_ble_eq_true rfl) d_Stacks_push_43 (fun H locs hP hD hS => ?_)
      have hP : va_P (dC, dI) classes [(o_Stacks, .inr (2, [.ref r_S_values, .int (S_top + 1), .ref r_S_bases, .ref r_S_floors, .ref r_S_returns, .ref r_S_closures, .int S_frames, .ref r_S_handlerFrames, .ref r_S_handlerPlaces, .ref r_S_handlerHeights, .ref r_S_handlerDepths, .int S_handlers])), (r_S_values, .inl (cL, n_S_values, .inr (.inl f_S_values)))] H := hP
      have hD : va_D A [(o_Stacks, .inr (2, [.ref r_S_values, .int (S_top + 1), .ref r_S_bases, .ref r_S_floors, .ref r_S_returns, .ref r_S_closures, .int S_frames, .ref r_S_handlerFrames, .ref r_S_handlerPlaces, .ref r_S_handlerHeights, .ref r_S_handlerDepths, .int S_handlers])), (r_S_values, .inl (cL, n_S_values, .inr (.inl f_S_values)))] := hD
      refine lv_lload_n hx hb d_Stacks_push_46 rfl (lv_at hl 1 rfl) ?_
      obtain ⟨i4, h⟩ := dz_oi h
      refine va_last (D := (dC, dI)) hx hb hK hP hD hS 1 0 rfl rfl i4 d_Stacks_push_47 (fun H locs hP hD hS => ?_)
      have hP : va_P (dC, dI) classes [(o_Stacks, .inr (2, [.ref r_S_values, .int (S_top + 1), .ref r_S_bases, .ref r_S_floors, .ref r_S_returns, .ref r_S_closures, .int S_frames, .ref r_S_handlerFrames, .ref r_S_handlerPlaces, .ref r_S_handlerHeights, .ref r_S_handlerDepths, .int S_handlers])), (r_S_values, .inl (cL, n_S_values, .inr (.inl (vp_updL f_S_values S_top.toNatClampNeg p0))))] H := hP
      have hD : va_D A [(o_Stacks, .inr (2, [.ref r_S_values, .int (S_top + 1), .ref r_S_bases, .ref r_S_floors, .ref r_S_returns, .ref r_S_closures, .int S_frames, .ref r_S_handlerFrames, .ref r_S_handlerPlaces, .ref r_S_handlerHeights, .ref r_S_handlerDepths, .int S_handlers])), (r_S_values, .inl (cL, n_S_values, .inr (.inl (vp_updL f_S_values S_top.toNatClampNeg p0))))] := hD
      refine lv_iconst (v := 5) hx hb d_Stacks_push_48 (by decide) ?_
      obtain rfl := Option.some.inj h
      have hP9 := hP.sub (ws' := [(o_Stacks, .inr (2, [.ref r_S_values, .int (S_top + 1), .ref r_S_bases, .ref r_S_floors, .ref r_S_returns, .ref r_S_closures, .int S_frames, .ref r_S_handlerFrames, .ref r_S_handlerPlaces, .ref r_S_handlerHeights, .ref r_S_handlerDepths, .int S_handlers])), (r_S_values, .inl (cL, n_S_values, .inr (.inl (vp_updL f_S_values S_top.toNatClampNeg p0))))]) [0, 1] rfl
      have hD9 := hD.sub (ws' := [(o_Stacks, .inr (2, [.ref r_S_values, .int (S_top + 1), .ref r_S_bases, .ref r_S_floors, .ref r_S_returns, .ref r_S_closures, .int S_frames, .ref r_S_handlerFrames, .ref r_S_handlerPlaces, .ref r_S_handlerHeights, .ref r_S_handlerDepths, .int S_handlers])), (r_S_values, .inl (cL, n_S_values, .inr (.inl (vp_updL f_S_values S_top.toNatClampNeg p0))))]) [0, 1] (by decide) rfl
      have hK9 := hK.sub (tys' := [(cL, .long)]) [0] rfl
      refine W.widen (dz_Gc hG) (dz_Gs hG) ?_
      obtain ⟨rfl, -, -⟩ := hG
      exact W.iret (v := 5) hx hb hr (fun t ht hW => ⟨⟨5, r_S_values, rfl, rfl, by rw [ht]; exact hP9, va_K.moved hW.alike hK9, hD9⟩, hS.F ht⟩) hS.2.2 d_Stacks_push_49
    · rw [if_neg c3] at h
      refine lv_aload_n hx hb d_Stacks_push_21 rfl (lv_at hl 0 rfl) ?_
      refine lv_aload_n hx hb d_Stacks_push_22 rfl (lv_at hl 0 rfl) ?_
      refine va_get (D := (dC, dI)) (ci := 2) (v := .int S_top) (C := R_Stacks) (T := F_Stacks) (N := 12) hx hb hg i_Stacks hown hK hP 0 rfl rfl 1 (by decide) (hg _ k53) (fun _ h9 => h9) rfl d_Stacks_push_23 ?_
      refine lv_iconst (v := 1) hx hb d_Stacks_push_26 (by decide) ?_
      refine lv_iadd hx hb d_Stacks_push_27 ?_
      obtain ⟨⟨⟨z5_1, z5_2⟩, zc5, zs5⟩, hc5, h⟩ := dz_ob h
      try dsimp only at h
      obtain ⟨z, h, hG⟩ := dz_tkG h hG
      have hPc := hP.sub (ws' := [(o_Stacks, .inr (2, [.ref r_S_values, .int S_top, .ref r_S_bases, .ref r_S_floors, .ref r_S_returns, .ref r_S_closures, .int S_frames, .ref r_S_handlerFrames, .ref r_S_handlerPlaces, .ref r_S_handlerHeights, .ref r_S_handlerDepths, .int S_handlers])), (r_S_values, .inl (cL, n_S_values, .inr (.inl f_S_values)))]) [0, 1] rfl
      have hKc := hK.sub (tys' := [(cL, .long)]) [0] rfl
      have hDc := hD.sub (ws' := [(o_Stacks, .inr (2, [.ref r_S_values, .int S_top, .ref r_S_bases, .ref r_S_floors, .ref r_S_returns, .ref r_S_closures, .int S_frames, .ref r_S_handlerFrames, .ref r_S_handlerPlaces, .ref r_S_handlerHeights, .ref r_S_handlerDepths, .int S_handlers])), (r_S_values, .inl (cL, n_S_values, .inr (.inl f_S_values)))]) [0, 1] (by decide) rfl
      have hFc := va_free (wc := [(o_Stacks, .inr (2, [.ref r_S_values, .int S_top, .ref r_S_bases, .ref r_S_floors, .ref r_S_returns, .ref r_S_closures, .int S_frames, .ref r_S_handlerFrames, .ref r_S_handlerPlaces, .ref r_S_handlerHeights, .ref r_S_handlerDepths, .int S_handlers])), (r_S_values, .inl (cL, n_S_values, .inr (.inl f_S_values)))]) hD hS hA [0, 1] rfl
      refine va_callv (va_runV (As := [.int (S_top + 1)]) (rest := []) ⟨hx, hb, hml, hown, hg⟩ (c_Stacks_widen l dC dI N cL o_Stacks r_S_values r_S_bases r_S_floors r_S_returns r_S_closures r_S_handlerFrames r_S_handlerPlaces r_S_handlerHeights r_S_handlerDepths S_top S_frames S_handlers n_S_values f_S_values (S_top + 1) s.heap.size (z5_1, z5_2) zc5 zs5 hc5) (cwV 1 hg (gd_V k75 k76 k77 k64 k74) rfl rfl rfl (by decide +kernel) ⟨Nat.le_of_ble_eq_true rfl, Nat.le_of_ble_eq_true rfl⟩) ⟨dz_blind, va_recv hKc hPc (ci := 2) (q0 := 0) rfl rfl, fun U hU hW => ⟨rfl, dz_Nw hW hN, by rw [hU], by rw [hU]; exact hPc, va_K.moved hW.alike hKc, hDc.weaken (fun _ _ _ _ => trivial)⟩⟩ rfl rfl hl.1 rfl (lv_room (Nat.le_of_ble_eq_true rfl)) d_Stacks_push_28 ⟨dz_Gc hG, dz_Gs hG⟩) hS (fun q _ h => hFc q h) hFc (fun u5 t5 H1 locs ht hvm hw hB hz1 hk1 hS => ?_)
      obtain ⟨a5_0, rfl⟩ : ∃ z, z = u5 := ⟨_, rfl⟩
      obtain ⟨hP1, hK1, hD1⟩ := hB
      rw [ht] at hP1
      obtain ⟨hP, hD⟩ := va_join (wr := []) (w1 := [(o_Stacks, .inr (2, [.ref a5_0, .int S_top, .ref r_S_bases, .ref r_S_floors, .ref r_S_returns, .ref r_S_closures, .int S_frames, .ref r_S_handlerFrames, .ref r_S_handlerPlaces, .ref r_S_handlerHeights, .ref r_S_handlerDepths, .int S_handlers])), (a5_0, .inl (cL, z5_1, .inr (.inl z5_2)))]) hP hD [0, 1] [] rfl rfl (by decide) (by decide) hk1 hFc hP1 hD1
      generalize H1 = H at hP hS ⊢
      have hP : va_P (dC, dI) classes [(o_Stacks, .inr (2, [.ref a5_0, .int S_top, .ref r_S_bases, .ref r_S_floors, .ref r_S_returns, .ref r_S_closures, .int S_frames, .ref r_S_handlerFrames, .ref r_S_handlerPlaces, .ref r_S_handlerHeights, .ref r_S_handlerDepths, .int S_handlers])), (a5_0, .inl (cL, z5_1, .inr (.inl z5_2)))] H := hP
      have hD : va_D A [(o_Stacks, .inr (2, [.ref a5_0, .int S_top, .ref r_S_bases, .ref r_S_floors, .ref r_S_returns, .ref r_S_closures, .int S_frames, .ref r_S_handlerFrames, .ref r_S_handlerPlaces, .ref r_S_handlerHeights, .ref r_S_handlerDepths, .int S_handlers])), (a5_0, .inl (cL, z5_1, .inr (.inl z5_2)))] := hD
      refine lv_aload_n hx hb d_Stacks_push_31 rfl (lv_at hl 0 rfl) ?_
      refine va_get (D := (dC, dI)) (ci := 2) (v := .ref a5_0) (C := R_Stacks) (T := F_Stacks) (N := 12) hx hb hg i_Stacks hown hK hP 0 rfl rfl 0 (by decide) (hg _ k65) (fun _ h9 => h9) rfl d_Stacks_push_32 ?_
      refine lv_aload_n hx hb d_Stacks_push_35 rfl (lv_at hl 0 rfl) ?_
      refine lv_dup hx hb d_Stacks_push_36 rfl ?_
      refine va_get (D := (dC, dI)) (ci := 2) (v := .int S_top) (C := R_Stacks) (T := F_Stacks) (N := 12) hx hb hg i_Stacks hown hK hP 0 rfl rfl 1 (by decide) (hg _ k53) (fun _ h9 => h9) rfl d_Stacks_push_37 ?_
      refine lv_dup_x1 hx hb d_Stacks_push_40 rfl rfl ?_
      refine lv_iconst (v := 1) hx hb d_Stacks_push_41 (by decide) ?_
      refine lv_iadd hx hb d_Stacks_push_42 ?_
      refine va_put (D := (dC, dI)) (ci := 2) (v := .int (S_top + 1)) (ty := .int) (C := R_Stacks) (T := F_Stacks) (N := 12) hx hb hg i_Stacks t_Stacks t_Stacks_ok n_Stacks hown hK hP hD hS 0 rfl rfl 1 (by decide) (hg _ k53) (fun _ h9 => h9) rfl (by decide +kernel) rfl rfl (Nat.le_of_ble_eq_true rfl) d_Stacks_push_43 (fun H locs hP hD hS => ?_)
      have hP : va_P (dC, dI) classes [(o_Stacks, .inr (2, [.ref a5_0, .int (S_top + 1), .ref r_S_bases, .ref r_S_floors, .ref r_S_returns, .ref r_S_closures, .int S_frames, .ref r_S_handlerFrames, .ref r_S_handlerPlaces, .ref r_S_handlerHeights, .ref r_S_handlerDepths, .int S_handlers])), (a5_0, .inl (cL, z5_1, .inr (.inl z5_2)))] H := hP
      have hD : va_D A [(o_Stacks, .inr (2, [.ref a5_0, .int (S_top + 1), .ref r_S_bases, .ref r_S_floors, .ref r_S_returns, .ref r_S_closures, .int S_frames, .ref r_S_handlerFrames, .ref r_S_handlerPlaces, .ref r_S_handlerHeights, .ref r_S_handlerDepths, .int S_handlers])), (a5_0, .inl (cL, z5_1, .inr (.inl z5_2)))] := hD
      refine lv_lload_n hx hb d_Stacks_push_46 rfl (lv_at hl 1 rfl) ?_
      obtain ⟨i6, h⟩ := dz_oi h
      refine va_last (D := (dC, dI)) hx hb hK hP hD hS 1 0 rfl rfl i6 d_Stacks_push_47 (fun H locs hP hD hS => ?_)
      have hP : va_P (dC, dI) classes [(o_Stacks, .inr (2, [.ref a5_0, .int (S_top + 1), .ref r_S_bases, .ref r_S_floors, .ref r_S_returns, .ref r_S_closures, .int S_frames, .ref r_S_handlerFrames, .ref r_S_handlerPlaces, .ref r_S_handlerHeights, .ref r_S_handlerDepths, .int S_handlers])), (a5_0, .inl (cL, z5_1, .inr (.inl (vp_updL z5_2 S_top.toNatClampNeg p0))))] H := hP
      have hD : va_D A [(o_Stacks, .inr (2, [.ref a5_0, .int (S_top + 1), .ref r_S_bases, .ref r_S_floors, .ref r_S_returns, .ref r_S_closures, .int S_frames, .ref r_S_handlerFrames, .ref r_S_handlerPlaces, .ref r_S_handlerHeights, .ref r_S_handlerDepths, .int S_handlers])), (a5_0, .inl (cL, z5_1, .inr (.inl (vp_updL z5_2 S_top.toNatClampNeg p0))))] := hD
      refine lv_iconst (v := 5) hx hb d_Stacks_push_48 (by decide) ?_
      obtain rfl := Option.some.inj h
      have hP9 := hP.sub (ws' := [(o_Stacks, .inr (2, [.ref a5_0, .int (S_top + 1), .ref r_S_bases, .ref r_S_floors, .ref r_S_returns, .ref r_S_closures, .int S_frames, .ref r_S_handlerFrames, .ref r_S_handlerPlaces, .ref r_S_handlerHeights, .ref r_S_handlerDepths, .int S_handlers])), (a5_0, .inl (cL, z5_1, .inr (.inl (vp_updL z5_2 S_top.toNatClampNeg p0))))]) [0, 1] rfl
      have hD9 := hD.sub (ws' := [(o_Stacks, .inr (2, [.ref a5_0, .int (S_top + 1), .ref r_S_bases, .ref r_S_floors, .ref r_S_returns, .ref r_S_closures, .int S_frames, .ref r_S_handlerFrames, .ref r_S_handlerPlaces, .ref r_S_handlerHeights, .ref r_S_handlerDepths, .int S_handlers])), (a5_0, .inl (cL, z5_1, .inr (.inl (vp_updL z5_2 S_top.toNatClampNeg p0))))]) [0, 1] (by decide) rfl
      have hK9 := hK.sub (tys' := [(cL, .long)]) [0] rfl
      refine W.widen (dz_Gc hG) (dz_Gs hG) ?_
      obtain ⟨rfl, -, -⟩ := hG
      exact W.iret (v := 5) hx hb hr (fun t ht hW => ⟨⟨5, a5_0, rfl, rfl, by rw [ht]; exact hP9, va_K.moved hW.alike hK9, hD9⟩, hS.F ht⟩) hS.2.2 d_Stacks_push_49
  · rw [if_neg c2] at h
    refine lv_iconst (v := 3) hx hb d_Stacks_push_7 (by decide) ?_
    obtain rfl := Option.some.inj h
    have hP9 := hP.sub (ws' := [(o_Stacks, .inr (2, [.ref r_S_values, .int S_top, .ref r_S_bases, .ref r_S_floors, .ref r_S_returns, .ref r_S_closures, .int S_frames, .ref r_S_handlerFrames, .ref r_S_handlerPlaces, .ref r_S_handlerHeights, .ref r_S_handlerDepths, .int S_handlers])), (r_S_values, .inl (cL, n_S_values, .inr (.inl f_S_values)))]) [0, 1] rfl
    have hD9 := hD.sub (ws' := [(o_Stacks, .inr (2, [.ref r_S_values, .int S_top, .ref r_S_bases, .ref r_S_floors, .ref r_S_returns, .ref r_S_closures, .int S_frames, .ref r_S_handlerFrames, .ref r_S_handlerPlaces, .ref r_S_handlerHeights, .ref r_S_handlerDepths, .int S_handlers])), (r_S_values, .inl (cL, n_S_values, .inr (.inl f_S_values)))]) [0, 1] (by decide) rfl
    have hK9 := hK.sub (tys' := [(cL, .long)]) [0] rfl
    refine W.widen (dz_Gc hG) (dz_Gs hG) ?_
    obtain ⟨rfl, -, -⟩ := hG
    exact W.iret (v := 3) hx hb hr (fun t ht hW => ⟨⟨3, r_S_values, rfl, rfl, by rw [ht]; exact hP9, va_K.moved hW.alike hK9, hD9⟩, hS.F ht⟩) hS.2.2 d_Stacks_push_8

set_option maxHeartbeats 4000000 in
set_option maxRecDepth 100000 in
theorem c_Stacks_locals (l : Launch) (dC : Nat → ClassId) (dI : Nat → Nat → Nat) (N : Nat) (cI : ClassId) (o_Stacks : Nat) (r_S_values : Nat) (r_S_bases : Nat) (r_S_floors : Nat) (r_S_returns : Nat) (r_S_closures : Nat) (r_S_handlerFrames : Nat) (r_S_handlerPlaces : Nat) (r_S_handlerHeights : Nat) (r_S_handlerDepths : Nat) (S_top : Int32) (S_frames : Int32) (S_handlers : Int32) (n_S_bases : Nat) (f_S_bases : Nat → Int32) (n_S_floors : Nat) (f_S_floors : Nat → Int32) (z : Int32) (h : m_Stacks_locals N S_top S_frames S_handlers n_S_bases f_S_bases n_S_floors f_S_floors = some z) : Met l y_Stacks_locals (.code y_Stacks_locals b_Stacks_locals 1 (some .int) :: lw_g) ({ frames := 0, cells := 0, slots := 0, locals := 0 }) (va_Pc [.ref o_Stacks] (fun U => dz_N U ∧ va_P (dC, dI) classes [(o_Stacks, .inr (2, [.ref r_S_values, .int S_top, .ref r_S_bases, .ref r_S_floors, .ref r_S_returns, .ref r_S_closures, .int S_frames, .ref r_S_handlerFrames, .ref r_S_handlerPlaces, .ref r_S_handlerHeights, .ref r_S_handlerDepths, .int S_handlers])), (r_S_bases, .inl (cI, n_S_bases, .inl f_S_bases)), (r_S_floors, .inl (cI, n_S_floors, .inl f_S_floors))] U.heap ∧ va_K (dC, dI) classes [(cI, .int)] U)) (vp_Si (fun r => r = z)) 0 0 (fun _ => False) := by
  refine Met.ofW (cc := b_Stacks_locals) (maxL := 1) (ret := (some .int)) (by decide +kernel) rfl ?_
  intro p e s m args below meth c s₁ B hml hv
  obtain ⟨rfl, hN, hP, hK⟩ := hv
  have hx := B.exec
  have hb := B.bytes
  have hr := B.returns
  have hg : ∀ w ∈ lw_g, w.before _ s = true := fun w hw => atoms_spec (ws := .code y_Stacks_locals b_Stacks_locals 1 (some .int) :: lw_g) B.pre w (List.mem_cons_of_mem _ hw)
  have hown : s.vm.findClass R_Stacks = some m.cls := findClass_of_methodNamed B.named
  have hlocks := B.notSynchronized
  clear B
  have hP : va_P (dC, dI) classes [(o_Stacks, .inr (2, [.ref r_S_values, .int S_top, .ref r_S_bases, .ref r_S_floors, .ref r_S_returns, .ref r_S_closures, .int S_frames, .ref r_S_handlerFrames, .ref r_S_handlerPlaces, .ref r_S_handlerHeights, .ref r_S_handlerDepths, .int S_handlers])), (r_S_bases, .inl (cI, n_S_bases, .inl f_S_bases)), (r_S_floors, .inl (cI, n_S_floors, .inl f_S_floors))] s.heap := hP
  have hl := lv_entry ([.ref o_Stacks]) (n := 1) (Nat.le_of_ble_eq_true rfl)
  rw [lg_entry_eq]
  generalize (lg_sl ([.ref o_Stacks]) ++ List.replicate (1 - (lg_sl ([.ref o_Stacks])).length) Slot.unset).toArray = ls at hl ⊢
  have hl : lv_has ls 1 [(0, .ref o_Stacks)] := hl
  unfold m_Stacks_locals at h
  refine lv_aload_n hx hb d_Stacks_locals_0 rfl (lv_at hl 0 rfl) ?_
  refine va_get (D := (dC, dI)) (ci := 2) (v := .ref r_S_floors) (C := R_Stacks) (T := F_Stacks) (N := 12) hx hb hg i_Stacks hown hK hP 0 rfl rfl 3 (by decide) (hg _ k57) (fun _ h9 => h9) rfl d_Stacks_locals_1 ?_
  refine lv_aload_n hx hb d_Stacks_locals_4 rfl (lv_at hl 0 rfl) ?_
  refine va_get (D := (dC, dI)) (ci := 2) (v := .int S_frames) (C := R_Stacks) (T := F_Stacks) (N := 12) hx hb hg i_Stacks hown hK hP 0 rfl rfl 6 (by decide) (hg _ k54) (fun _ h9 => h9) rfl d_Stacks_locals_5 ?_
  refine lv_iconst (v := 1) hx hb d_Stacks_locals_8 (by decide) ?_
  refine lv_isub hx hb d_Stacks_locals_9 ?_
  obtain ⟨i1, h⟩ := dz_oi h
  refine va_iald (D := (dC, dI)) hx hb hK hP 2 0 rfl rfl i1 d_Stacks_locals_10 ?_
  refine lv_aload_n hx hb d_Stacks_locals_11 rfl (lv_at hl 0 rfl) ?_
  refine va_get (D := (dC, dI)) (ci := 2) (v := .ref r_S_bases) (C := R_Stacks) (T := F_Stacks) (N := 12) hx hb hg i_Stacks hown hK hP 0 rfl rfl 2 (by decide) (hg _ k56) (fun _ h9 => h9) rfl d_Stacks_locals_12 ?_
  refine lv_aload_n hx hb d_Stacks_locals_15 rfl (lv_at hl 0 rfl) ?_
  refine va_get (D := (dC, dI)) (ci := 2) (v := .int S_frames) (C := R_Stacks) (T := F_Stacks) (N := 12) hx hb hg i_Stacks hown hK hP 0 rfl rfl 6 (by decide) (hg _ k54) (fun _ h9 => h9) rfl d_Stacks_locals_16 ?_
  refine lv_iconst (v := 1) hx hb d_Stacks_locals_19 (by decide) ?_
  refine lv_isub hx hb d_Stacks_locals_20 ?_
  obtain ⟨i2, h⟩ := dz_oi h
  refine va_iald (D := (dC, dI)) hx hb hK hP 1 0 rfl rfl i2 d_Stacks_locals_21 ?_
  refine lv_isub hx hb d_Stacks_locals_22 ?_
  obtain ⟨x3, ex3, h⟩ := dz_lt h
  refine dz_topi ex3 ?_
  obtain rfl := Option.some.inj h
  exact W.iret (v := x3) hx hb hr (fun t ht hW => ⟨_, rfl, rfl, ht⟩) (fun _ h => by cases h) d_Stacks_locals_23

set_option maxHeartbeats 4000000 in
set_option maxRecDepth 100000 in
theorem c_Stacks_local (l : Launch) (dC : Nat → ClassId) (dI : Nat → Nat → Nat) (N : Nat) (cI : ClassId) (cL : ClassId) (o_Stacks : Nat) (r_S_values : Nat) (r_S_bases : Nat) (r_S_floors : Nat) (r_S_returns : Nat) (r_S_closures : Nat) (r_S_handlerFrames : Nat) (r_S_handlerPlaces : Nat) (r_S_handlerHeights : Nat) (r_S_handlerDepths : Nat) (S_top : Int32) (S_frames : Int32) (S_handlers : Int32) (n_S_values : Nat) (f_S_values : Nat → Int64) (n_S_bases : Nat) (f_S_bases : Nat → Int32) (n_S_floors : Nat) (f_S_floors : Nat → Int32) (p0 : Int32) (sz : Nat) (Z1 : Int32 × Int32 × Nat × (Nat → Int64)) (Zc Zs : Nat) (h : m_Stacks_local N S_top S_frames S_handlers n_S_values f_S_values n_S_bases f_S_bases n_S_floors f_S_floors p0 = some (Z1, Zc, Zs)) : Met l y_Stacks_local (.code y_Stacks_local b_Stacks_local 2 (some .int) :: lw_g) ({ frames := 4, cells := Zc, slots := Zs, locals := 125 }) (va_Pc [.ref o_Stacks, .int p0] (fun U => dz_N U ∧ U.heap.size = sz ∧ va_P (dC, dI) classes [(o_Stacks, .inr (2, [.ref r_S_values, .int S_top, .ref r_S_bases, .ref r_S_floors, .ref r_S_returns, .ref r_S_closures, .int S_frames, .ref r_S_handlerFrames, .ref r_S_handlerPlaces, .ref r_S_handlerHeights, .ref r_S_handlerDepths, .int S_handlers])), (r_S_values, .inl (cL, n_S_values, .inr (.inl f_S_values))), (r_S_bases, .inl (cI, n_S_bases, .inl f_S_bases)), (r_S_floors, .inl (cI, n_S_floors, .inl f_S_floors))] U.heap ∧ va_K (dC, dI) classes [(cI, .int), (cL, .long)] U ∧ va_D (fun _ => True) [(o_Stacks, .inr (2, [.ref r_S_values, .int S_top, .ref r_S_bases, .ref r_S_floors, .ref r_S_returns, .ref r_S_closures, .int S_frames, .ref r_S_handlerFrames, .ref r_S_handlerPlaces, .ref r_S_handlerHeights, .ref r_S_handlerDepths, .int S_handlers])), (r_S_values, .inl (cL, n_S_values, .inr (.inl f_S_values))), (r_S_bases, .inl (cI, n_S_bases, .inl f_S_bases)), (r_S_floors, .inl (cI, n_S_floors, .inl f_S_floors))])) (va_Qi (fun (r : Int32) (_ : Nat) => r = Z1.1) (fun (u : Nat) t => va_P (dC, dI) classes [(o_Stacks, .inr (2, [.ref u, .int Z1.2.1, .ref r_S_bases, .ref r_S_floors, .ref r_S_returns, .ref r_S_closures, .int S_frames, .ref r_S_handlerFrames, .ref r_S_handlerPlaces, .ref r_S_handlerHeights, .ref r_S_handlerDepths, .int S_handlers])), (u, .inl (cL, Z1.2.2.1, .inr (.inl Z1.2.2.2))), (r_S_bases, .inl (cI, n_S_bases, .inl f_S_bases)), (r_S_floors, .inl (cI, n_S_floors, .inl f_S_floors))] t.heap ∧ va_K (dC, dI) classes [(cI, .int), (cL, .long)] t ∧ va_D (va_A [(o_Stacks, .inr (2, [.ref r_S_values, .int S_top, .ref r_S_bases, .ref r_S_floors, .ref r_S_returns, .ref r_S_closures, .int S_frames, .ref r_S_handlerFrames, .ref r_S_handlerPlaces, .ref r_S_handlerHeights, .ref r_S_handlerDepths, .int S_handlers])), (r_S_values, .inl (cL, n_S_values, .inr (.inl f_S_values))), (r_S_bases, .inl (cI, n_S_bases, .inl f_S_bases)), (r_S_floors, .inl (cI, n_S_floors, .inl f_S_floors))] sz) [(o_Stacks, .inr (2, [.ref u, .int Z1.2.1, .ref r_S_bases, .ref r_S_floors, .ref r_S_returns, .ref r_S_closures, .int S_frames, .ref r_S_handlerFrames, .ref r_S_handlerPlaces, .ref r_S_handlerHeights, .ref r_S_handlerDepths, .int S_handlers])), (u, .inl (cL, Z1.2.2.1, .inr (.inl Z1.2.2.2))), (r_S_bases, .inl (cI, n_S_bases, .inl f_S_bases)), (r_S_floors, .inl (cI, n_S_floors, .inl f_S_floors))]) (va_A [(o_Stacks, .inr (2, [.ref r_S_values, .int S_top, .ref r_S_bases, .ref r_S_floors, .ref r_S_returns, .ref r_S_closures, .int S_frames, .ref r_S_handlerFrames, .ref r_S_handlerPlaces, .ref r_S_handlerHeights, .ref r_S_handlerDepths, .int S_handlers])), (r_S_values, .inl (cL, n_S_values, .inr (.inl f_S_values))), (r_S_bases, .inl (cI, n_S_bases, .inl f_S_bases)), (r_S_floors, .inl (cI, n_S_floors, .inl f_S_floors))] sz)) Zc Zs (va_A [(o_Stacks, .inr (2, [.ref r_S_values, .int S_top, .ref r_S_bases, .ref r_S_floors, .ref r_S_returns, .ref r_S_closures, .int S_frames, .ref r_S_handlerFrames, .ref r_S_handlerPlaces, .ref r_S_handlerHeights, .ref r_S_handlerDepths, .int S_handlers])), (r_S_values, .inl (cL, n_S_values, .inr (.inl f_S_values))), (r_S_bases, .inl (cI, n_S_bases, .inl f_S_bases)), (r_S_floors, .inl (cI, n_S_floors, .inl f_S_floors))] sz) := by
  refine Met.ofW (cc := b_Stacks_local) (maxL := 2) (ret := (some .int)) (by decide +kernel) rfl ?_
  intro p e s m args below meth c s₁ B hml hv
  obtain ⟨rfl, hN, hsz, hP, hK, hD0⟩ := hv
  have hx := B.exec
  have hb := B.bytes
  have hr := B.returns
  have hg : ∀ w ∈ lw_g, w.before _ s = true := fun w hw => atoms_spec (ws := .code y_Stacks_local b_Stacks_local 2 (some .int) :: lw_g) B.pre w (List.mem_cons_of_mem _ hw)
  have hown : s.vm.findClass R_Stacks = some m.cls := findClass_of_methodNamed B.named
  have hlocks := B.notSynchronized
  clear B
  subst hsz
  have hD := hD0.self (sz := s.heap.size)
  generalize hAe : va_A [(o_Stacks, .inr (2, [.ref r_S_values, .int S_top, .ref r_S_bases, .ref r_S_floors, .ref r_S_returns, .ref r_S_closures, .int S_frames, .ref r_S_handlerFrames, .ref r_S_handlerPlaces, .ref r_S_handlerHeights, .ref r_S_handlerDepths, .int S_handlers])), (r_S_values, .inl (cL, n_S_values, .inr (.inl f_S_values))), (r_S_bases, .inl (cI, n_S_bases, .inl f_S_bases)), (r_S_floors, .inl (cI, n_S_floors, .inl f_S_floors))] s.heap.size = A at hD ⊢
  have hA : ∀ q : Nat, s.heap.size ≤ q → A q := fun q h => by rw [← hAe]; exact Or.inr h
  have hS : va_S A s.heap s.heap [] := va_S.rf
  have hP : va_P (dC, dI) classes [(o_Stacks, .inr (2, [.ref r_S_values, .int S_top, .ref r_S_bases, .ref r_S_floors, .ref r_S_returns, .ref r_S_closures, .int S_frames, .ref r_S_handlerFrames, .ref r_S_handlerPlaces, .ref r_S_handlerHeights, .ref r_S_handlerDepths, .int S_handlers])), (r_S_values, .inl (cL, n_S_values, .inr (.inl f_S_values))), (r_S_bases, .inl (cI, n_S_bases, .inl f_S_bases)), (r_S_floors, .inl (cI, n_S_floors, .inl f_S_floors))] s.heap := hP
  have hl := lv_entry ([.ref o_Stacks, .int p0]) (n := 2) (Nat.le_of_ble_eq_true rfl)
  rw [lg_entry_eq]
  generalize (lg_sl ([.ref o_Stacks, .int p0]) ++ List.replicate (2 - (lg_sl ([.ref o_Stacks, .int p0])).length) Slot.unset).toArray = ls at hl ⊢
  have hl : lv_has ls 2 [(0, .ref o_Stacks), (1, .int p0)] := hl
  unfold m_Stacks_local at h
  have hG : dz_G Z1 Zc Zs (Z1, Zc, Zs) 0 0 := ⟨rfl, (Nat.zero_add _).symm, (Nat.zero_add _).symm⟩
  generalize (Z1, Zc, Zs) = z at h hG
  refine lv_iload_n hx hb d_Stacks_local_0 rfl (lv_at hl 1 rfl) ?_
  refine lv_if_lt (tgt := 12) hx hb d_Stacks_local_1 (by decide) (fun c1 => ?_) (fun c1 => ?_)
  · rw [if_pos c1] at h
    refine lv_iconst (v := 4) hx hb d_Stacks_local_12 (by decide) ?_
    refine lv_goto (tgt := 38) hx hb d_Stacks_local_13 (by decide) ?_
    obtain rfl := Option.some.inj h
    have hP9 := hP.sub (ws' := [(o_Stacks, .inr (2, [.ref r_S_values, .int S_top, .ref r_S_bases, .ref r_S_floors, .ref r_S_returns, .ref r_S_closures, .int S_frames, .ref r_S_handlerFrames, .ref r_S_handlerPlaces, .ref r_S_handlerHeights, .ref r_S_handlerDepths, .int S_handlers])), (r_S_values, .inl (cL, n_S_values, .inr (.inl f_S_values))), (r_S_bases, .inl (cI, n_S_bases, .inl f_S_bases)), (r_S_floors, .inl (cI, n_S_floors, .inl f_S_floors))]) [0, 1, 2, 3] rfl
    have hD9 := hD.sub (ws' := [(o_Stacks, .inr (2, [.ref r_S_values, .int S_top, .ref r_S_bases, .ref r_S_floors, .ref r_S_returns, .ref r_S_closures, .int S_frames, .ref r_S_handlerFrames, .ref r_S_handlerPlaces, .ref r_S_handlerHeights, .ref r_S_handlerDepths, .int S_handlers])), (r_S_values, .inl (cL, n_S_values, .inr (.inl f_S_values))), (r_S_bases, .inl (cI, n_S_bases, .inl f_S_bases)), (r_S_floors, .inl (cI, n_S_floors, .inl f_S_floors))]) [0, 1, 2, 3] (by decide) rfl
    have hK9 := hK.sub (tys' := [(cI, .int), (cL, .long)]) [0, 1] rfl
    refine W.widen (dz_Gc hG) (dz_Gs hG) ?_
    obtain ⟨rfl, -, -⟩ := hG
    exact W.iret (v := 4) hx hb hr (fun t ht hW => ⟨⟨4, r_S_values, rfl, rfl, by rw [ht]; exact hP9, va_K.moved hW.alike hK9, hD9⟩, hS.F ht⟩) hS.2.2 d_Stacks_local_38
  · rw [if_neg c1] at h
    refine lv_iload_n hx hb d_Stacks_local_4 rfl (lv_at hl 1 rfl) ?_
    refine lv_aload_n hx hb d_Stacks_local_5 rfl (lv_at hl 0 rfl) ?_
    obtain ⟨z2_1, hc2, h⟩ := dz_ob h
    try dsimp only at h
    have hPc := hP.sub (ws' := [(o_Stacks, .inr (2, [.ref r_S_values, .int S_top, .ref r_S_bases, .ref r_S_floors, .ref r_S_returns, .ref r_S_closures, .int S_frames, .ref r_S_handlerFrames, .ref r_S_handlerPlaces, .ref r_S_handlerHeights, .ref r_S_handlerDepths, .int S_handlers])), (r_S_bases, .inl (cI, n_S_bases, .inl f_S_bases)), (r_S_floors, .inl (cI, n_S_floors, .inl f_S_floors))]) [0, 2, 3] rfl
    have hKc := hK.sub (tys' := [(cI, .int)]) [0] rfl
    refine vp_callSi (va_Run.run (va_runV (As := []) (rest := [.int p0]) ⟨hx, hb, hml, hown, hg⟩ (c_Stacks_locals l dC dI N cI o_Stacks r_S_values r_S_bases r_S_floors r_S_returns r_S_closures r_S_handlerFrames r_S_handlerPlaces r_S_handlerHeights r_S_handlerDepths S_top S_frames S_handlers n_S_bases f_S_bases n_S_floors f_S_floors z2_1 hc2) (cwV 0 hg (gd_V k79 k80 k81 k64 k78) rfl rfl rfl (by decide +kernel) ⟨Nat.le_of_ble_eq_true rfl, Nat.le_of_ble_eq_true rfl⟩) ⟨dz_blindR, va_recv hKc hPc (ci := 2) (q0 := 0) rfl rfl, fun U hU hW => ⟨rfl, dz_Nw hW hN, by rw [hU]; exact hPc, va_K.moved hW.alike hKc⟩⟩ rfl rfl hl.1 rfl (lv_room (Nat.le_of_ble_eq_true rfl)) d_Stacks_local_6 ⟨dz_Gc hG, dz_Gs hG⟩)) (fun r2 hw => ?_)
    have hw : z2_1 = r2 := hw.symm
    subst hw
    refine lv_icmp_lt (tgt := 16) hx hb d_Stacks_local_9 (by decide) (fun c3 => ?_) (fun c3 => ?_)
    · rw [if_pos c3] at h
      refine lv_aload_n hx hb d_Stacks_local_16 rfl (lv_at hl 0 rfl) ?_
      refine lv_aload_n hx hb d_Stacks_local_17 rfl (lv_at hl 0 rfl) ?_
      refine va_get (D := (dC, dI)) (ci := 2) (v := .ref r_S_values) (C := R_Stacks) (T := F_Stacks) (N := 12) hx hb hg i_Stacks hown hK hP 0 rfl rfl 0 (by decide) (hg _ k65) (fun _ h9 => h9) rfl d_Stacks_local_18 ?_
      refine lv_aload_n hx hb d_Stacks_local_21 rfl (lv_at hl 0 rfl) ?_
      refine va_get (D := (dC, dI)) (ci := 2) (v := .ref r_S_bases) (C := R_Stacks) (T := F_Stacks) (N := 12) hx hb hg i_Stacks hown hK hP 0 rfl rfl 2 (by decide) (hg _ k56) (fun _ h9 => h9) rfl d_Stacks_local_22 ?_
      refine lv_aload_n hx hb d_Stacks_local_25 rfl (lv_at hl 0 rfl) ?_
      refine va_get (D := (dC, dI)) (ci := 2) (v := .int S_frames) (C := R_Stacks) (T := F_Stacks) (N := 12) hx hb hg i_Stacks hown hK hP 0 rfl rfl 6 (by decide) (hg _ k54) (fun _ h9 => h9) rfl d_Stacks_local_26 ?_
      refine lv_iconst (v := 1) hx hb d_Stacks_local_29 (by decide) ?_
      refine lv_isub hx hb d_Stacks_local_30 ?_
      obtain ⟨i4, h⟩ := dz_oi h
      refine va_iald (D := (dC, dI)) hx hb hK hP 2 0 rfl rfl i4 d_Stacks_local_31 ?_
      refine lv_iload_n hx hb d_Stacks_local_32 rfl (lv_at hl 1 rfl) ?_
      refine lv_iadd hx hb d_Stacks_local_33 ?_
      obtain ⟨i5, h⟩ := dz_oi h
      refine va_lald (D := (dC, dI)) hx hb hK hP 1 1 rfl rfl i5 d_Stacks_local_34 ?_
      obtain ⟨x6, ex6, h⟩ := dz_lt h
      refine dz_topl ex6 ?_
      obtain ⟨⟨⟨z7_1, z7_2, z7_3, z7_4⟩, zc7, zs7⟩, hc7, h⟩ := dz_ob h
      try dsimp only at h
      obtain ⟨z, h, hG⟩ := dz_tkG h hG
      have hPc := hP.sub (ws' := [(o_Stacks, .inr (2, [.ref r_S_values, .int S_top, .ref r_S_bases, .ref r_S_floors, .ref r_S_returns, .ref r_S_closures, .int S_frames, .ref r_S_handlerFrames, .ref r_S_handlerPlaces, .ref r_S_handlerHeights, .ref r_S_handlerDepths, .int S_handlers])), (r_S_values, .inl (cL, n_S_values, .inr (.inl f_S_values)))]) [0, 1] rfl
      have hKc := hK.sub (tys' := [(cL, .long)]) [1] rfl
      have hDc := hD.sub (ws' := [(o_Stacks, .inr (2, [.ref r_S_values, .int S_top, .ref r_S_bases, .ref r_S_floors, .ref r_S_returns, .ref r_S_closures, .int S_frames, .ref r_S_handlerFrames, .ref r_S_handlerPlaces, .ref r_S_handlerHeights, .ref r_S_handlerDepths, .int S_handlers])), (r_S_values, .inl (cL, n_S_values, .inr (.inl f_S_values)))]) [0, 1] (by decide) rfl
      have hFc := va_free (wc := [(o_Stacks, .inr (2, [.ref r_S_values, .int S_top, .ref r_S_bases, .ref r_S_floors, .ref r_S_returns, .ref r_S_closures, .int S_frames, .ref r_S_handlerFrames, .ref r_S_handlerPlaces, .ref r_S_handlerHeights, .ref r_S_handlerDepths, .int S_handlers])), (r_S_values, .inl (cL, n_S_values, .inr (.inl f_S_values)))]) hD hS hA [0, 1] rfl
      refine va_calli (va_runV (As := [.long x6]) (rest := []) ⟨hx, hb, hml, hown, hg⟩ (c_Stacks_push l dC dI N cL o_Stacks r_S_values r_S_bases r_S_floors r_S_returns r_S_closures r_S_handlerFrames r_S_handlerPlaces r_S_handlerHeights r_S_handlerDepths S_top S_frames S_handlers n_S_values f_S_values x6 s.heap.size (z7_1, z7_2, z7_3, z7_4) zc7 zs7 hc7) (cwV 1 hg (gd_V k83 k84 k85 k64 k82) rfl rfl rfl (by decide +kernel) ⟨Nat.le_of_ble_eq_true rfl, Nat.le_of_ble_eq_true rfl⟩) ⟨dz_blind, va_recv hKc hPc (ci := 2) (q0 := 0) rfl rfl, fun U hU hW => ⟨rfl, dz_Nw hW hN, by rw [hU], by rw [hU]; exact hPc, va_K.moved hW.alike hKc, hDc.weaken (fun _ _ _ _ => trivial)⟩⟩ rfl rfl hl.1 rfl (lv_room (Nat.le_of_ble_eq_true rfl)) d_Stacks_local_35 ⟨dz_Gc hG, dz_Gs hG⟩) hS (fun q _ h => hFc q h) hFc (fun r7 u7 t7 H1 locs ht hvm hw hB hz1 hk1 hS => ?_)
      obtain ⟨a7_0, rfl⟩ : ∃ z, z = u7 := ⟨_, rfl⟩
      obtain ⟨hP1, hK1, hD1⟩ := hB
      rw [ht] at hP1
      obtain ⟨hP, hD⟩ := va_join (wr := [(r_S_bases, .inl (cI, n_S_bases, .inl f_S_bases)), (r_S_floors, .inl (cI, n_S_floors, .inl f_S_floors))]) (w1 := [(o_Stacks, .inr (2, [.ref a7_0, .int z7_2, .ref r_S_bases, .ref r_S_floors, .ref r_S_returns, .ref r_S_closures, .int S_frames, .ref r_S_handlerFrames, .ref r_S_handlerPlaces, .ref r_S_handlerHeights, .ref r_S_handlerDepths, .int S_handlers])), (a7_0, .inl (cL, z7_3, .inr (.inl z7_4)))]) hP hD [0, 1] [2, 3] rfl rfl (by decide) (by decide) hk1 hFc hP1 hD1
      have hw : z7_1 = r7 := hw.symm
      subst hw
      generalize H1 = H at hP hS ⊢
      have hP : va_P (dC, dI) classes [(r_S_bases, .inl (cI, n_S_bases, .inl f_S_bases)), (r_S_floors, .inl (cI, n_S_floors, .inl f_S_floors)), (o_Stacks, .inr (2, [.ref a7_0, .int z7_2, .ref r_S_bases, .ref r_S_floors, .ref r_S_returns, .ref r_S_closures, .int S_frames, .ref r_S_handlerFrames, .ref r_S_handlerPlaces, .ref r_S_handlerHeights, .ref r_S_handlerDepths, .int S_handlers])), (a7_0, .inl (cL, z7_3, .inr (.inl z7_4)))] H := hP
      have hD : va_D A [(r_S_bases, .inl (cI, n_S_bases, .inl f_S_bases)), (r_S_floors, .inl (cI, n_S_floors, .inl f_S_floors)), (o_Stacks, .inr (2, [.ref a7_0, .int z7_2, .ref r_S_bases, .ref r_S_floors, .ref r_S_returns, .ref r_S_closures, .int S_frames, .ref r_S_handlerFrames, .ref r_S_handlerPlaces, .ref r_S_handlerHeights, .ref r_S_handlerDepths, .int S_handlers])), (a7_0, .inl (cL, z7_3, .inr (.inl z7_4)))] := hD
      obtain rfl := Option.some.inj h
      have hP9 := hP.sub (ws' := [(o_Stacks, .inr (2, [.ref a7_0, .int z7_2, .ref r_S_bases, .ref r_S_floors, .ref r_S_returns, .ref r_S_closures, .int S_frames, .ref r_S_handlerFrames, .ref r_S_handlerPlaces, .ref r_S_handlerHeights, .ref r_S_handlerDepths, .int S_handlers])), (a7_0, .inl (cL, z7_3, .inr (.inl z7_4))), (r_S_bases, .inl (cI, n_S_bases, .inl f_S_bases)), (r_S_floors, .inl (cI, n_S_floors, .inl f_S_floors))]) [2, 3, 0, 1] rfl
      have hD9 := hD.sub (ws' := [(o_Stacks, .inr (2, [.ref a7_0, .int z7_2, .ref r_S_bases, .ref r_S_floors, .ref r_S_returns, .ref r_S_closures, .int S_frames, .ref r_S_handlerFrames, .ref r_S_handlerPlaces, .ref r_S_handlerHeights, .ref r_S_handlerDepths, .int S_handlers])), (a7_0, .inl (cL, z7_3, .inr (.inl z7_4))), (r_S_bases, .inl (cI, n_S_bases, .inl f_S_bases)), (r_S_floors, .inl (cI, n_S_floors, .inl f_S_floors))]) [2, 3, 0, 1] (by decide) rfl
      have hK9 := hK.sub (tys' := [(cI, .int), (cL, .long)]) [0, 1] rfl
      refine W.widen (dz_Gc hG) (dz_Gs hG) ?_
      obtain ⟨rfl, -, -⟩ := hG
      exact W.iret (v := z7_1) hx hb hr (fun t ht hW => ⟨⟨z7_1, a7_0, rfl, rfl, by rw [ht]; exact hP9, va_K.moved hW.alike hK9, hD9⟩, hS.F ht⟩) hS.2.2 d_Stacks_local_38
    · rw [if_neg c3] at h
      refine lv_iconst (v := 4) hx hb d_Stacks_local_12 (by decide) ?_
      refine lv_goto (tgt := 38) hx hb d_Stacks_local_13 (by decide) ?_
      obtain rfl := Option.some.inj h
      have hP9 := hP.sub (ws' := [(o_Stacks, .inr (2, [.ref r_S_values, .int S_top, .ref r_S_bases, .ref r_S_floors, .ref r_S_returns, .ref r_S_closures, .int S_frames, .ref r_S_handlerFrames, .ref r_S_handlerPlaces, .ref r_S_handlerHeights, .ref r_S_handlerDepths, .int S_handlers])), (r_S_values, .inl (cL, n_S_values, .inr (.inl f_S_values))), (r_S_bases, .inl (cI, n_S_bases, .inl f_S_bases)), (r_S_floors, .inl (cI, n_S_floors, .inl f_S_floors))]) [0, 1, 2, 3] rfl
      have hD9 := hD.sub (ws' := [(o_Stacks, .inr (2, [.ref r_S_values, .int S_top, .ref r_S_bases, .ref r_S_floors, .ref r_S_returns, .ref r_S_closures, .int S_frames, .ref r_S_handlerFrames, .ref r_S_handlerPlaces, .ref r_S_handlerHeights, .ref r_S_handlerDepths, .int S_handlers])), (r_S_values, .inl (cL, n_S_values, .inr (.inl f_S_values))), (r_S_bases, .inl (cI, n_S_bases, .inl f_S_bases)), (r_S_floors, .inl (cI, n_S_floors, .inl f_S_floors))]) [0, 1, 2, 3] (by decide) rfl
      have hK9 := hK.sub (tys' := [(cI, .int), (cL, .long)]) [0, 1] rfl
      refine W.widen (dz_Gc hG) (dz_Gs hG) ?_
      obtain ⟨rfl, -, -⟩ := hG
      exact W.iret (v := 4) hx hb hr (fun t ht hW => ⟨⟨4, r_S_values, rfl, rfl, by rw [ht]; exact hP9, va_K.moved hW.alike hK9, hD9⟩, hS.F ht⟩) hS.2.2 d_Stacks_local_38

set_option maxHeartbeats 4000000 in
set_option maxRecDepth 100000 in
theorem c_Stacks_store (l : Launch) (dC : Nat → ClassId) (dI : Nat → Nat → Nat) (N : Nat) (cI : ClassId) (cL : ClassId) (o_Stacks : Nat) (r_S_values : Nat) (r_S_bases : Nat) (r_S_floors : Nat) (r_S_returns : Nat) (r_S_closures : Nat) (r_S_handlerFrames : Nat) (r_S_handlerPlaces : Nat) (r_S_handlerHeights : Nat) (r_S_handlerDepths : Nat) (S_top : Int32) (S_frames : Int32) (S_handlers : Int32) (n_S_values : Nat) (f_S_values : Nat → Int64) (n_S_bases : Nat) (f_S_bases : Nat → Int32) (n_S_floors : Nat) (f_S_floors : Nat → Int32) (p0 : Int32) (sz : Nat) (z : Int32 × (Nat → Int64) × Int32) (h : m_Stacks_store N S_top S_frames S_handlers n_S_values f_S_values n_S_bases f_S_bases n_S_floors f_S_floors p0 = some z) : Met l y_Stacks_store (.code y_Stacks_store b_Stacks_store 2 (some .int) :: lw_g) ({ frames := 1, cells := 0, slots := 0, locals := 21 }) (va_Pc [.ref o_Stacks, .int p0] (fun U => dz_N U ∧ U.heap.size = sz ∧ va_P (dC, dI) classes [(o_Stacks, .inr (2, [.ref r_S_values, .int S_top, .ref r_S_bases, .ref r_S_floors, .ref r_S_returns, .ref r_S_closures, .int S_frames, .ref r_S_handlerFrames, .ref r_S_handlerPlaces, .ref r_S_handlerHeights, .ref r_S_handlerDepths, .int S_handlers])), (r_S_values, .inl (cL, n_S_values, .inr (.inl f_S_values))), (r_S_bases, .inl (cI, n_S_bases, .inl f_S_bases)), (r_S_floors, .inl (cI, n_S_floors, .inl f_S_floors))] U.heap ∧ va_K (dC, dI) classes [(cI, .int), (cL, .long)] U ∧ va_D (fun _ => True) [(o_Stacks, .inr (2, [.ref r_S_values, .int S_top, .ref r_S_bases, .ref r_S_floors, .ref r_S_returns, .ref r_S_closures, .int S_frames, .ref r_S_handlerFrames, .ref r_S_handlerPlaces, .ref r_S_handlerHeights, .ref r_S_handlerDepths, .int S_handlers])), (r_S_values, .inl (cL, n_S_values, .inr (.inl f_S_values))), (r_S_bases, .inl (cI, n_S_bases, .inl f_S_bases)), (r_S_floors, .inl (cI, n_S_floors, .inl f_S_floors))])) (va_Qi (fun (r : Int32) (_ : Unit) => r = z.1) (fun (u : Unit) t => va_P (dC, dI) classes [(o_Stacks, .inr (2, [.ref r_S_values, .int z.2.2, .ref r_S_bases, .ref r_S_floors, .ref r_S_returns, .ref r_S_closures, .int S_frames, .ref r_S_handlerFrames, .ref r_S_handlerPlaces, .ref r_S_handlerHeights, .ref r_S_handlerDepths, .int S_handlers])), (r_S_values, .inl (cL, n_S_values, .inr (.inl z.2.1))), (r_S_bases, .inl (cI, n_S_bases, .inl f_S_bases)), (r_S_floors, .inl (cI, n_S_floors, .inl f_S_floors))] t.heap ∧ va_K (dC, dI) classes [(cI, .int), (cL, .long)] t ∧ va_D (va_A [(o_Stacks, .inr (2, [.ref r_S_values, .int S_top, .ref r_S_bases, .ref r_S_floors, .ref r_S_returns, .ref r_S_closures, .int S_frames, .ref r_S_handlerFrames, .ref r_S_handlerPlaces, .ref r_S_handlerHeights, .ref r_S_handlerDepths, .int S_handlers])), (r_S_values, .inl (cL, n_S_values, .inr (.inl f_S_values))), (r_S_bases, .inl (cI, n_S_bases, .inl f_S_bases)), (r_S_floors, .inl (cI, n_S_floors, .inl f_S_floors))] sz) [(o_Stacks, .inr (2, [.ref r_S_values, .int z.2.2, .ref r_S_bases, .ref r_S_floors, .ref r_S_returns, .ref r_S_closures, .int S_frames, .ref r_S_handlerFrames, .ref r_S_handlerPlaces, .ref r_S_handlerHeights, .ref r_S_handlerDepths, .int S_handlers])), (r_S_values, .inl (cL, n_S_values, .inr (.inl z.2.1))), (r_S_bases, .inl (cI, n_S_bases, .inl f_S_bases)), (r_S_floors, .inl (cI, n_S_floors, .inl f_S_floors))]) (va_A [(o_Stacks, .inr (2, [.ref r_S_values, .int S_top, .ref r_S_bases, .ref r_S_floors, .ref r_S_returns, .ref r_S_closures, .int S_frames, .ref r_S_handlerFrames, .ref r_S_handlerPlaces, .ref r_S_handlerHeights, .ref r_S_handlerDepths, .int S_handlers])), (r_S_values, .inl (cL, n_S_values, .inr (.inl f_S_values))), (r_S_bases, .inl (cI, n_S_bases, .inl f_S_bases)), (r_S_floors, .inl (cI, n_S_floors, .inl f_S_floors))] sz)) 0 0 (va_A [(o_Stacks, .inr (2, [.ref r_S_values, .int S_top, .ref r_S_bases, .ref r_S_floors, .ref r_S_returns, .ref r_S_closures, .int S_frames, .ref r_S_handlerFrames, .ref r_S_handlerPlaces, .ref r_S_handlerHeights, .ref r_S_handlerDepths, .int S_handlers])), (r_S_values, .inl (cL, n_S_values, .inr (.inl f_S_values))), (r_S_bases, .inl (cI, n_S_bases, .inl f_S_bases)), (r_S_floors, .inl (cI, n_S_floors, .inl f_S_floors))] sz) := by
  refine Met.ofW (cc := b_Stacks_store) (maxL := 2) (ret := (some .int)) (by decide +kernel) rfl ?_
  intro p e s m args below meth c s₁ B hml hv
  obtain ⟨rfl, hN, hsz, hP, hK, hD0⟩ := hv
  have hx := B.exec
  have hb := B.bytes
  have hr := B.returns
  have hg : ∀ w ∈ lw_g, w.before _ s = true := fun w hw => atoms_spec (ws := .code y_Stacks_store b_Stacks_store 2 (some .int) :: lw_g) B.pre w (List.mem_cons_of_mem _ hw)
  have hown : s.vm.findClass R_Stacks = some m.cls := findClass_of_methodNamed B.named
  have hlocks := B.notSynchronized
  clear B
  subst hsz
  have hD := hD0.self (sz := s.heap.size)
  generalize hAe : va_A [(o_Stacks, .inr (2, [.ref r_S_values, .int S_top, .ref r_S_bases, .ref r_S_floors, .ref r_S_returns, .ref r_S_closures, .int S_frames, .ref r_S_handlerFrames, .ref r_S_handlerPlaces, .ref r_S_handlerHeights, .ref r_S_handlerDepths, .int S_handlers])), (r_S_values, .inl (cL, n_S_values, .inr (.inl f_S_values))), (r_S_bases, .inl (cI, n_S_bases, .inl f_S_bases)), (r_S_floors, .inl (cI, n_S_floors, .inl f_S_floors))] s.heap.size = A at hD ⊢
  have hA : ∀ q : Nat, s.heap.size ≤ q → A q := fun q h => by rw [← hAe]; exact Or.inr h
  have hS : va_S A s.heap s.heap [] := va_S.rf
  have hP : va_P (dC, dI) classes [(o_Stacks, .inr (2, [.ref r_S_values, .int S_top, .ref r_S_bases, .ref r_S_floors, .ref r_S_returns, .ref r_S_closures, .int S_frames, .ref r_S_handlerFrames, .ref r_S_handlerPlaces, .ref r_S_handlerHeights, .ref r_S_handlerDepths, .int S_handlers])), (r_S_values, .inl (cL, n_S_values, .inr (.inl f_S_values))), (r_S_bases, .inl (cI, n_S_bases, .inl f_S_bases)), (r_S_floors, .inl (cI, n_S_floors, .inl f_S_floors))] s.heap := hP
  have hl := lv_entry ([.ref o_Stacks, .int p0]) (n := 2) (Nat.le_of_ble_eq_true rfl)
  rw [lg_entry_eq]
  generalize (lg_sl ([.ref o_Stacks, .int p0]) ++ List.replicate (2 - (lg_sl ([.ref o_Stacks, .int p0])).length) Slot.unset).toArray = ls at hl ⊢
  have hl : lv_has ls 2 [(0, .ref o_Stacks), (1, .int p0)] := hl
  unfold m_Stacks_store at h
  refine lv_iload_n hx hb d_Stacks_store_0 rfl (lv_at hl 1 rfl) ?_
  refine lv_if_lt (tgt := 12) hx hb d_Stacks_store_1 (by decide) (fun c1 => ?_) (fun c1 => ?_)
  · rw [if_pos c1] at h
    refine lv_iconst (v := 4) hx hb d_Stacks_store_12 (by decide) ?_
    obtain rfl := Option.some.inj h
    have hP9 := hP.sub (ws' := [(o_Stacks, .inr (2, [.ref r_S_values, .int S_top, .ref r_S_bases, .ref r_S_floors, .ref r_S_returns, .ref r_S_closures, .int S_frames, .ref r_S_handlerFrames, .ref r_S_handlerPlaces, .ref r_S_handlerHeights, .ref r_S_handlerDepths, .int S_handlers])), (r_S_values, .inl (cL, n_S_values, .inr (.inl f_S_values))), (r_S_bases, .inl (cI, n_S_bases, .inl f_S_bases)), (r_S_floors, .inl (cI, n_S_floors, .inl f_S_floors))]) [0, 1, 2, 3] rfl
    have hD9 := hD.sub (ws' := [(o_Stacks, .inr (2, [.ref r_S_values, .int S_top, .ref r_S_bases, .ref r_S_floors, .ref r_S_returns, .ref r_S_closures, .int S_frames, .ref r_S_handlerFrames, .ref r_S_handlerPlaces, .ref r_S_handlerHeights, .ref r_S_handlerDepths, .int S_handlers])), (r_S_values, .inl (cL, n_S_values, .inr (.inl f_S_values))), (r_S_bases, .inl (cI, n_S_bases, .inl f_S_bases)), (r_S_floors, .inl (cI, n_S_floors, .inl f_S_floors))]) [0, 1, 2, 3] (by decide) rfl
    have hK9 := hK.sub (tys' := [(cI, .int), (cL, .long)]) [0, 1] rfl
    exact W.iret (v := 4) hx hb hr (fun t ht hW => ⟨⟨4, (), rfl, rfl, by rw [ht]; exact hP9, va_K.moved hW.alike hK9, hD9⟩, hS.F ht⟩) hS.2.2 d_Stacks_store_13
  · rw [if_neg c1] at h
    refine lv_iload_n hx hb d_Stacks_store_4 rfl (lv_at hl 1 rfl) ?_
    refine lv_aload_n hx hb d_Stacks_store_5 rfl (lv_at hl 0 rfl) ?_
    obtain ⟨z2_1, hc2, h⟩ := dz_ob h
    try dsimp only at h
    have hPc := hP.sub (ws' := [(o_Stacks, .inr (2, [.ref r_S_values, .int S_top, .ref r_S_bases, .ref r_S_floors, .ref r_S_returns, .ref r_S_closures, .int S_frames, .ref r_S_handlerFrames, .ref r_S_handlerPlaces, .ref r_S_handlerHeights, .ref r_S_handlerDepths, .int S_handlers])), (r_S_bases, .inl (cI, n_S_bases, .inl f_S_bases)), (r_S_floors, .inl (cI, n_S_floors, .inl f_S_floors))]) [0, 2, 3] rfl
    have hKc := hK.sub (tys' := [(cI, .int)]) [0] rfl
    refine vp_callSi (va_Run.run (va_runV (As := []) (rest := [.int p0]) ⟨hx, hb, hml, hown, hg⟩ (c_Stacks_locals l dC dI N cI o_Stacks r_S_values r_S_bases r_S_floors r_S_returns r_S_closures r_S_handlerFrames r_S_handlerPlaces r_S_handlerHeights r_S_handlerDepths S_top S_frames S_handlers n_S_bases f_S_bases n_S_floors f_S_floors z2_1 hc2) (cwV 0 hg (gd_V k79 k80 k81 k64 k78) rfl rfl rfl (by decide +kernel) ⟨Nat.le_of_ble_eq_true rfl, Nat.le_of_ble_eq_true rfl⟩) ⟨dz_blindR, va_recv hKc hPc (ci := 2) (q0 := 0) rfl rfl, fun U hU hW => ⟨rfl, dz_Nw hW hN, by rw [hU]; exact hPc, va_K.moved hW.alike hKc⟩⟩ rfl rfl hl.1 rfl (lv_room (Nat.le_of_ble_eq_true rfl)) d_Stacks_store_6 ⟨Nat.le_of_ble_eq_true rfl, Nat.le_of_ble_eq_true rfl⟩)) (fun r2 hw => ?_)
    have hw : z2_1 = r2 := hw.symm
    subst hw
    refine lv_icmp_lt (tgt := 14) hx hb d_Stacks_store_9 (by decide) (fun c3 => ?_) (fun c3 => ?_)
    · rw [if_pos c3] at h
      refine lv_aload_n hx hb d_Stacks_store_14 rfl (lv_at hl 0 rfl) ?_
      refine va_get (D := (dC, dI)) (ci := 2) (v := .ref r_S_values) (C := R_Stacks) (T := F_Stacks) (N := 12) hx hb hg i_Stacks hown hK hP 0 rfl rfl 0 (by decide) (hg _ k65) (fun _ h9 => h9) rfl d_Stacks_store_15 ?_
      refine lv_aload_n hx hb d_Stacks_store_18 rfl (lv_at hl 0 rfl) ?_
      refine va_get (D := (dC, dI)) (ci := 2) (v := .ref r_S_bases) (C := R_Stacks) (T := F_Stacks) (N := 12) hx hb hg i_Stacks hown hK hP 0 rfl rfl 2 (by decide) (hg _ k56) (fun _ h9 => h9) rfl d_Stacks_store_19 ?_
      refine lv_aload_n hx hb d_Stacks_store_22 rfl (lv_at hl 0 rfl) ?_
      refine va_get (D := (dC, dI)) (ci := 2) (v := .int S_frames) (C := R_Stacks) (T := F_Stacks) (N := 12) hx hb hg i_Stacks hown hK hP 0 rfl rfl 6 (by decide) (hg _ k54) (fun _ h9 => h9) rfl d_Stacks_store_23 ?_
      refine lv_iconst (v := 1) hx hb d_Stacks_store_26 (by decide) ?_
      refine lv_isub hx hb d_Stacks_store_27 ?_
      obtain ⟨i4, h⟩ := dz_oi h
      refine va_iald (D := (dC, dI)) hx hb hK hP 2 0 rfl rfl i4 d_Stacks_store_28 ?_
      refine lv_iload_n hx hb d_Stacks_store_29 rfl (lv_at hl 1 rfl) ?_
      refine lv_iadd hx hb d_Stacks_store_30 ?_
      refine lv_aload_n hx hb d_Stacks_store_31 rfl (lv_at hl 0 rfl) ?_
      refine lv_iconst (v := 0) hx hb d_Stacks_store_32 (by decide) ?_
      obtain ⟨z5_1, hc5, h⟩ := dz_ob h
      try dsimp only at h
      have hPc := hP.sub (ws' := [(o_Stacks, .inr (2, [.ref r_S_values, .int S_top, .ref r_S_bases, .ref r_S_floors, .ref r_S_returns, .ref r_S_closures, .int S_frames, .ref r_S_handlerFrames, .ref r_S_handlerPlaces, .ref r_S_handlerHeights, .ref r_S_handlerDepths, .int S_handlers])), (r_S_values, .inl (cL, n_S_values, .inr (.inl f_S_values)))]) [0, 1] rfl
      have hKc := hK.sub (tys' := [(cL, .long)]) [1] rfl
      refine vp_callSl (va_Run.run (va_runV (As := [.int 0]) (rest := [.int ((f_S_bases (S_frames - 1).toNatClampNeg) + p0), .ref r_S_values]) ⟨hx, hb, hml, hown, hg⟩ (c_Stacks_peek l dC dI N cL o_Stacks r_S_values r_S_bases r_S_floors r_S_returns r_S_closures r_S_handlerFrames r_S_handlerPlaces r_S_handlerHeights r_S_handlerDepths S_top S_frames S_handlers n_S_values f_S_values (0 : Int32) z5_1 hc5) (cwV 1 hg (gd_V k87 k88 k89 k64 k86) rfl rfl rfl (by decide +kernel) ⟨Nat.le_of_ble_eq_true rfl, Nat.le_of_ble_eq_true rfl⟩) ⟨dz_blindR, va_recv hKc hPc (ci := 2) (q0 := 0) rfl rfl, fun U hU hW => ⟨rfl, dz_Nw hW hN, by rw [hU]; exact hPc, va_K.moved hW.alike hKc⟩⟩ rfl rfl hl.1 rfl (lv_room (Nat.le_of_ble_eq_true rfl)) d_Stacks_store_33 ⟨Nat.le_of_ble_eq_true rfl, Nat.le_of_ble_eq_true rfl⟩)) (fun r5 hw => ?_)
      have hw : z5_1 = r5 := hw.symm
      subst hw
      obtain ⟨i6, h⟩ := dz_oi h
      refine va_last (D := (dC, dI)) hx hb hK hP hD hS 1 1 rfl rfl i6 d_Stacks_store_36 (fun H locs hP hD hS => ?_)
      have hP : va_P (dC, dI) classes [(o_Stacks, .inr (2, [.ref r_S_values, .int S_top, .ref r_S_bases, .ref r_S_floors, .ref r_S_returns, .ref r_S_closures, .int S_frames, .ref r_S_handlerFrames, .ref r_S_handlerPlaces, .ref r_S_handlerHeights, .ref r_S_handlerDepths, .int S_handlers])), (r_S_values, .inl (cL, n_S_values, .inr (.inl (vp_updL f_S_values ((f_S_bases (S_frames - 1).toNatClampNeg) + p0).toNatClampNeg z5_1)))), (r_S_bases, .inl (cI, n_S_bases, .inl f_S_bases)), (r_S_floors, .inl (cI, n_S_floors, .inl f_S_floors))] H := hP
      have hD : va_D A [(o_Stacks, .inr (2, [.ref r_S_values, .int S_top, .ref r_S_bases, .ref r_S_floors, .ref r_S_returns, .ref r_S_closures, .int S_frames, .ref r_S_handlerFrames, .ref r_S_handlerPlaces, .ref r_S_handlerHeights, .ref r_S_handlerDepths, .int S_handlers])), (r_S_values, .inl (cL, n_S_values, .inr (.inl (vp_updL f_S_values ((f_S_bases (S_frames - 1).toNatClampNeg) + p0).toNatClampNeg z5_1)))), (r_S_bases, .inl (cI, n_S_bases, .inl f_S_bases)), (r_S_floors, .inl (cI, n_S_floors, .inl f_S_floors))] := hD
      refine lv_aload_n hx hb d_Stacks_store_37 rfl (lv_at hl 0 rfl) ?_
      refine lv_dup hx hb d_Stacks_store_38 rfl ?_
      refine va_get (D := (dC, dI)) (ci := 2) (v := .int S_top) (C := R_Stacks) (T := F_Stacks) (N := 12) hx hb hg i_Stacks hown hK hP 0 rfl rfl 1 (by decide) (hg _ k53) (fun _ h9 => h9) rfl d_Stacks_store_39 ?_
      refine lv_iconst (v := 1) hx hb d_Stacks_store_42 (by decide) ?_
      refine lv_isub hx hb d_Stacks_store_43 ?_
      refine va_put (D := (dC, dI)) (ci := 2) (v := .int (S_top - 1)) (ty := .int) (C := R_Stacks) (T := F_Stacks) (N := 12) hx hb hg i_Stacks t_Stacks t_Stacks_ok n_Stacks hown hK hP hD hS 0 rfl rfl 1 (by decide) (hg _ k53) (fun _ h9 => h9) rfl (by decide +kernel) rfl rfl (Nat.le_of_ble_eq_true rfl) d_Stacks_store_44 (fun H locs hP hD hS => ?_)
      have hP : va_P (dC, dI) classes [(o_Stacks, .inr (2, [.ref r_S_values, .int (S_top - 1), .ref r_S_bases, .ref r_S_floors, .ref r_S_returns, .ref r_S_closures, .int S_frames, .ref r_S_handlerFrames, .ref r_S_handlerPlaces, .ref r_S_handlerHeights, .ref r_S_handlerDepths, .int S_handlers])), (r_S_values, .inl (cL, n_S_values, .inr (.inl (vp_updL f_S_values ((f_S_bases (S_frames - 1).toNatClampNeg) + p0).toNatClampNeg z5_1)))), (r_S_bases, .inl (cI, n_S_bases, .inl f_S_bases)), (r_S_floors, .inl (cI, n_S_floors, .inl f_S_floors))] H := hP
      have hD : va_D A [(o_Stacks, .inr (2, [.ref r_S_values, .int (S_top - 1), .ref r_S_bases, .ref r_S_floors, .ref r_S_returns, .ref r_S_closures, .int S_frames, .ref r_S_handlerFrames, .ref r_S_handlerPlaces, .ref r_S_handlerHeights, .ref r_S_handlerDepths, .int S_handlers])), (r_S_values, .inl (cL, n_S_values, .inr (.inl (vp_updL f_S_values ((f_S_bases (S_frames - 1).toNatClampNeg) + p0).toNatClampNeg z5_1)))), (r_S_bases, .inl (cI, n_S_bases, .inl f_S_bases)), (r_S_floors, .inl (cI, n_S_floors, .inl f_S_floors))] := hD
      refine lv_iconst (v := 5) hx hb d_Stacks_store_47 (by decide) ?_
      obtain rfl := Option.some.inj h
      have hP9 := hP.sub (ws' := [(o_Stacks, .inr (2, [.ref r_S_values, .int (S_top - 1), .ref r_S_bases, .ref r_S_floors, .ref r_S_returns, .ref r_S_closures, .int S_frames, .ref r_S_handlerFrames, .ref r_S_handlerPlaces, .ref r_S_handlerHeights, .ref r_S_handlerDepths, .int S_handlers])), (r_S_values, .inl (cL, n_S_values, .inr (.inl (vp_updL f_S_values ((f_S_bases (S_frames - 1).toNatClampNeg) + p0).toNatClampNeg z5_1)))), (r_S_bases, .inl (cI, n_S_bases, .inl f_S_bases)), (r_S_floors, .inl (cI, n_S_floors, .inl f_S_floors))]) [0, 1, 2, 3] rfl
      have hD9 := hD.sub (ws' := [(o_Stacks, .inr (2, [.ref r_S_values, .int (S_top - 1), .ref r_S_bases, .ref r_S_floors, .ref r_S_returns, .ref r_S_closures, .int S_frames, .ref r_S_handlerFrames, .ref r_S_handlerPlaces, .ref r_S_handlerHeights, .ref r_S_handlerDepths, .int S_handlers])), (r_S_values, .inl (cL, n_S_values, .inr (.inl (vp_updL f_S_values ((f_S_bases (S_frames - 1).toNatClampNeg) + p0).toNatClampNeg z5_1)))), (r_S_bases, .inl (cI, n_S_bases, .inl f_S_bases)), (r_S_floors, .inl (cI, n_S_floors, .inl f_S_floors))]) [0, 1, 2, 3] (by decide) rfl
      have hK9 := hK.sub (tys' := [(cI, .int), (cL, .long)]) [0, 1] rfl
      exact W.iret (v := 5) hx hb hr (fun t ht hW => ⟨⟨5, (), rfl, rfl, by rw [ht]; exact hP9, va_K.moved hW.alike hK9, hD9⟩, hS.F ht⟩) hS.2.2 d_Stacks_store_48
    · rw [if_neg c3] at h
      refine lv_iconst (v := 4) hx hb d_Stacks_store_12 (by decide) ?_
      obtain rfl := Option.some.inj h
      have hP9 := hP.sub (ws' := [(o_Stacks, .inr (2, [.ref r_S_values, .int S_top, .ref r_S_bases, .ref r_S_floors, .ref r_S_returns, .ref r_S_closures, .int S_frames, .ref r_S_handlerFrames, .ref r_S_handlerPlaces, .ref r_S_handlerHeights, .ref r_S_handlerDepths, .int S_handlers])), (r_S_values, .inl (cL, n_S_values, .inr (.inl f_S_values))), (r_S_bases, .inl (cI, n_S_bases, .inl f_S_bases)), (r_S_floors, .inl (cI, n_S_floors, .inl f_S_floors))]) [0, 1, 2, 3] rfl
      have hD9 := hD.sub (ws' := [(o_Stacks, .inr (2, [.ref r_S_values, .int S_top, .ref r_S_bases, .ref r_S_floors, .ref r_S_returns, .ref r_S_closures, .int S_frames, .ref r_S_handlerFrames, .ref r_S_handlerPlaces, .ref r_S_handlerHeights, .ref r_S_handlerDepths, .int S_handlers])), (r_S_values, .inl (cL, n_S_values, .inr (.inl f_S_values))), (r_S_bases, .inl (cI, n_S_bases, .inl f_S_bases)), (r_S_floors, .inl (cI, n_S_floors, .inl f_S_floors))]) [0, 1, 2, 3] (by decide) rfl
      have hK9 := hK.sub (tys' := [(cI, .int), (cL, .long)]) [0, 1] rfl
      exact W.iret (v := 4) hx hb hr (fun t ht hW => ⟨⟨4, (), rfl, rfl, by rw [ht]; exact hP9, va_K.moved hW.alike hK9, hD9⟩, hS.F ht⟩) hS.2.2 d_Stacks_store_13

set_option maxHeartbeats 4000000 in
set_option maxRecDepth 100000 in
theorem c_Stacks_closure (l : Launch) (dC : Nat → ClassId) (dI : Nat → Nat → Nat) (N : Nat) (cL : ClassId) (o_Stacks : Nat) (r_S_values : Nat) (r_S_bases : Nat) (r_S_floors : Nat) (r_S_returns : Nat) (r_S_closures : Nat) (r_S_handlerFrames : Nat) (r_S_handlerPlaces : Nat) (r_S_handlerHeights : Nat) (r_S_handlerDepths : Nat) (S_top : Int32) (S_frames : Int32) (S_handlers : Int32) (n_S_closures : Nat) (f_S_closures : Nat → Int64) (z : Int64) (h : m_Stacks_closure N S_top S_frames S_handlers n_S_closures f_S_closures = some z) : Met l y_Stacks_closure (.code y_Stacks_closure b_Stacks_closure 1 (some .long) :: lw_g) ({ frames := 0, cells := 0, slots := 0, locals := 0 }) (va_Pc [.ref o_Stacks] (fun U => dz_N U ∧ va_P (dC, dI) classes [(o_Stacks, .inr (2, [.ref r_S_values, .int S_top, .ref r_S_bases, .ref r_S_floors, .ref r_S_returns, .ref r_S_closures, .int S_frames, .ref r_S_handlerFrames, .ref r_S_handlerPlaces, .ref r_S_handlerHeights, .ref r_S_handlerDepths, .int S_handlers])), (r_S_closures, .inl (cL, n_S_closures, .inr (.inl f_S_closures)))] U.heap ∧ va_K (dC, dI) classes [(cL, .long)] U)) (vp_Sl (fun r => r = z)) 0 0 (fun _ => False) := by
  refine Met.ofW (cc := b_Stacks_closure) (maxL := 1) (ret := (some .long)) (by decide +kernel) rfl ?_
  intro p e s m args below meth c s₁ B hml hv
  obtain ⟨rfl, hN, hP, hK⟩ := hv
  have hx := B.exec
  have hb := B.bytes
  have hr := B.returns
  have hg : ∀ w ∈ lw_g, w.before _ s = true := fun w hw => atoms_spec (ws := .code y_Stacks_closure b_Stacks_closure 1 (some .long) :: lw_g) B.pre w (List.mem_cons_of_mem _ hw)
  have hown : s.vm.findClass R_Stacks = some m.cls := findClass_of_methodNamed B.named
  have hlocks := B.notSynchronized
  clear B
  have hP : va_P (dC, dI) classes [(o_Stacks, .inr (2, [.ref r_S_values, .int S_top, .ref r_S_bases, .ref r_S_floors, .ref r_S_returns, .ref r_S_closures, .int S_frames, .ref r_S_handlerFrames, .ref r_S_handlerPlaces, .ref r_S_handlerHeights, .ref r_S_handlerDepths, .int S_handlers])), (r_S_closures, .inl (cL, n_S_closures, .inr (.inl f_S_closures)))] s.heap := hP
  have hl := lv_entry ([.ref o_Stacks]) (n := 1) (Nat.le_of_ble_eq_true rfl)
  rw [lg_entry_eq]
  generalize (lg_sl ([.ref o_Stacks]) ++ List.replicate (1 - (lg_sl ([.ref o_Stacks])).length) Slot.unset).toArray = ls at hl ⊢
  have hl : lv_has ls 1 [(0, .ref o_Stacks)] := hl
  unfold m_Stacks_closure at h
  refine lv_aload_n hx hb d_Stacks_closure_0 rfl (lv_at hl 0 rfl) ?_
  refine va_get (D := (dC, dI)) (ci := 2) (v := .ref r_S_closures) (C := R_Stacks) (T := F_Stacks) (N := 12) hx hb hg i_Stacks hown hK hP 0 rfl rfl 5 (by decide) (hg _ k59) (fun _ h9 => h9) rfl d_Stacks_closure_1 ?_
  refine lv_aload_n hx hb d_Stacks_closure_4 rfl (lv_at hl 0 rfl) ?_
  refine va_get (D := (dC, dI)) (ci := 2) (v := .int S_frames) (C := R_Stacks) (T := F_Stacks) (N := 12) hx hb hg i_Stacks hown hK hP 0 rfl rfl 6 (by decide) (hg _ k54) (fun _ h9 => h9) rfl d_Stacks_closure_5 ?_
  refine lv_iconst (v := 1) hx hb d_Stacks_closure_8 (by decide) ?_
  refine lv_isub hx hb d_Stacks_closure_9 ?_
  obtain ⟨i1, h⟩ := dz_oi h
  refine va_lald (D := (dC, dI)) hx hb hK hP 1 0 rfl rfl i1 d_Stacks_closure_10 ?_
  obtain rfl := Option.some.inj h
  exact W.lret (v := f_S_closures (S_frames - 1).toNatClampNeg) hx hb hr (fun t ht hW => ⟨_, rfl, rfl, ht⟩) (fun _ h => by cases h) d_Stacks_closure_11

set_option maxHeartbeats 4000000 in
set_option maxRecDepth 100000 in
theorem c_Stacks_replace (l : Launch) (dC : Nat → ClassId) (dI : Nat → Nat → Nat) (N : Nat) (cL : ClassId) (o_Stacks : Nat) (r_S_values : Nat) (r_S_bases : Nat) (r_S_floors : Nat) (r_S_returns : Nat) (r_S_closures : Nat) (r_S_handlerFrames : Nat) (r_S_handlerPlaces : Nat) (r_S_handlerHeights : Nat) (r_S_handlerDepths : Nat) (S_top : Int32) (S_frames : Int32) (S_handlers : Int32) (n_S_values : Nat) (f_S_values : Nat → Int64) (p0 : Int32) (p1 : Int64) (sz : Nat) (z : Int32 × (Nat → Int64) × Int32) (h : m_Stacks_replace N S_top S_frames S_handlers n_S_values f_S_values p0 p1 = some z) : Met l y_Stacks_replace (.code y_Stacks_replace b_Stacks_replace 4 (some .int) :: lw_g) ({ frames := 0, cells := 0, slots := 0, locals := 0 }) (va_Pc [.ref o_Stacks, .int p0, .long p1] (fun U => dz_N U ∧ U.heap.size = sz ∧ va_P (dC, dI) classes [(o_Stacks, .inr (2, [.ref r_S_values, .int S_top, .ref r_S_bases, .ref r_S_floors, .ref r_S_returns, .ref r_S_closures, .int S_frames, .ref r_S_handlerFrames, .ref r_S_handlerPlaces, .ref r_S_handlerHeights, .ref r_S_handlerDepths, .int S_handlers])), (r_S_values, .inl (cL, n_S_values, .inr (.inl f_S_values)))] U.heap ∧ va_K (dC, dI) classes [(cL, .long)] U ∧ va_D (fun _ => True) [(o_Stacks, .inr (2, [.ref r_S_values, .int S_top, .ref r_S_bases, .ref r_S_floors, .ref r_S_returns, .ref r_S_closures, .int S_frames, .ref r_S_handlerFrames, .ref r_S_handlerPlaces, .ref r_S_handlerHeights, .ref r_S_handlerDepths, .int S_handlers])), (r_S_values, .inl (cL, n_S_values, .inr (.inl f_S_values)))])) (va_Qi (fun (r : Int32) (_ : Unit) => r = z.1) (fun (u : Unit) t => va_P (dC, dI) classes [(o_Stacks, .inr (2, [.ref r_S_values, .int z.2.2, .ref r_S_bases, .ref r_S_floors, .ref r_S_returns, .ref r_S_closures, .int S_frames, .ref r_S_handlerFrames, .ref r_S_handlerPlaces, .ref r_S_handlerHeights, .ref r_S_handlerDepths, .int S_handlers])), (r_S_values, .inl (cL, n_S_values, .inr (.inl z.2.1)))] t.heap ∧ va_K (dC, dI) classes [(cL, .long)] t ∧ va_D (va_A [(o_Stacks, .inr (2, [.ref r_S_values, .int S_top, .ref r_S_bases, .ref r_S_floors, .ref r_S_returns, .ref r_S_closures, .int S_frames, .ref r_S_handlerFrames, .ref r_S_handlerPlaces, .ref r_S_handlerHeights, .ref r_S_handlerDepths, .int S_handlers])), (r_S_values, .inl (cL, n_S_values, .inr (.inl f_S_values)))] sz) [(o_Stacks, .inr (2, [.ref r_S_values, .int z.2.2, .ref r_S_bases, .ref r_S_floors, .ref r_S_returns, .ref r_S_closures, .int S_frames, .ref r_S_handlerFrames, .ref r_S_handlerPlaces, .ref r_S_handlerHeights, .ref r_S_handlerDepths, .int S_handlers])), (r_S_values, .inl (cL, n_S_values, .inr (.inl z.2.1)))]) (va_A [(o_Stacks, .inr (2, [.ref r_S_values, .int S_top, .ref r_S_bases, .ref r_S_floors, .ref r_S_returns, .ref r_S_closures, .int S_frames, .ref r_S_handlerFrames, .ref r_S_handlerPlaces, .ref r_S_handlerHeights, .ref r_S_handlerDepths, .int S_handlers])), (r_S_values, .inl (cL, n_S_values, .inr (.inl f_S_values)))] sz)) 0 0 (va_A [(o_Stacks, .inr (2, [.ref r_S_values, .int S_top, .ref r_S_bases, .ref r_S_floors, .ref r_S_returns, .ref r_S_closures, .int S_frames, .ref r_S_handlerFrames, .ref r_S_handlerPlaces, .ref r_S_handlerHeights, .ref r_S_handlerDepths, .int S_handlers])), (r_S_values, .inl (cL, n_S_values, .inr (.inl f_S_values)))] sz) := by
  refine Met.ofW (cc := b_Stacks_replace) (maxL := 4) (ret := (some .int)) (by decide +kernel) rfl ?_
  intro p e s m args below meth c s₁ B hml hv
  obtain ⟨rfl, hN, hsz, hP, hK, hD0⟩ := hv
  have hx := B.exec
  have hb := B.bytes
  have hr := B.returns
  have hg : ∀ w ∈ lw_g, w.before _ s = true := fun w hw => atoms_spec (ws := .code y_Stacks_replace b_Stacks_replace 4 (some .int) :: lw_g) B.pre w (List.mem_cons_of_mem _ hw)
  have hown : s.vm.findClass R_Stacks = some m.cls := findClass_of_methodNamed B.named
  have hlocks := B.notSynchronized
  clear B
  subst hsz
  have hD := hD0.self (sz := s.heap.size)
  generalize hAe : va_A [(o_Stacks, .inr (2, [.ref r_S_values, .int S_top, .ref r_S_bases, .ref r_S_floors, .ref r_S_returns, .ref r_S_closures, .int S_frames, .ref r_S_handlerFrames, .ref r_S_handlerPlaces, .ref r_S_handlerHeights, .ref r_S_handlerDepths, .int S_handlers])), (r_S_values, .inl (cL, n_S_values, .inr (.inl f_S_values)))] s.heap.size = A at hD ⊢
  have hA : ∀ q : Nat, s.heap.size ≤ q → A q := fun q h => by rw [← hAe]; exact Or.inr h
  have hS : va_S A s.heap s.heap [] := va_S.rf
  have hP : va_P (dC, dI) classes [(o_Stacks, .inr (2, [.ref r_S_values, .int S_top, .ref r_S_bases, .ref r_S_floors, .ref r_S_returns, .ref r_S_closures, .int S_frames, .ref r_S_handlerFrames, .ref r_S_handlerPlaces, .ref r_S_handlerHeights, .ref r_S_handlerDepths, .int S_handlers])), (r_S_values, .inl (cL, n_S_values, .inr (.inl f_S_values)))] s.heap := hP
  have hl := lv_entry ([.ref o_Stacks, .int p0, .long p1]) (n := 4) (Nat.le_of_ble_eq_true rfl)
  rw [lg_entry_eq]
  generalize (lg_sl ([.ref o_Stacks, .int p0, .long p1]) ++ List.replicate (4 - (lg_sl ([.ref o_Stacks, .int p0, .long p1])).length) Slot.unset).toArray = ls at hl ⊢
  have hl : lv_has ls 4 [(0, .ref o_Stacks), (1, .int p0), (2, .long p1)] := hl
  unfold m_Stacks_replace at h
  refine lv_aload_n hx hb d_Stacks_replace_0 rfl (lv_at hl 0 rfl) ?_
  refine lv_dup hx hb d_Stacks_replace_1 rfl ?_
  refine va_get (D := (dC, dI)) (ci := 2) (v := .int S_top) (C := R_Stacks) (T := F_Stacks) (N := 12) hx hb hg i_Stacks hown hK hP 0 rfl rfl 1 (by decide) (hg _ k53) (fun _ h9 => h9) rfl d_Stacks_replace_2 ?_
  refine lv_iload_n hx hb d_Stacks_replace_5 rfl (lv_at hl 1 rfl) ?_
  refine lv_isub hx hb d_Stacks_replace_6 ?_
  refine va_put (D := (dC, dI)) (ci := 2) (v := .int (S_top - p0)) (ty := .int) (C := R_Stacks) (T := F_Stacks) (N := 12) hx hb hg i_Stacks t_Stacks t_Stacks_ok n_Stacks hown hK hP hD hS 0 rfl rfl 1 (by decide) (hg _ k53) (fun _ h9 => h9) rfl (by decide +kernel) rfl rfl (Nat.le_of_ble_eq_true rfl) d_Stacks_replace_7 (fun H locs hP hD hS => ?_)
  have hP : va_P (dC, dI) classes [(o_Stacks, .inr (2, [.ref r_S_values, .int (S_top - p0), .ref r_S_bases, .ref r_S_floors, .ref r_S_returns, .ref r_S_closures, .int S_frames, .ref r_S_handlerFrames, .ref r_S_handlerPlaces, .ref r_S_handlerHeights, .ref r_S_handlerDepths, .int S_handlers])), (r_S_values, .inl (cL, n_S_values, .inr (.inl f_S_values)))] H := hP
  have hD : va_D A [(o_Stacks, .inr (2, [.ref r_S_values, .int (S_top - p0), .ref r_S_bases, .ref r_S_floors, .ref r_S_returns, .ref r_S_closures, .int S_frames, .ref r_S_handlerFrames, .ref r_S_handlerPlaces, .ref r_S_handlerHeights, .ref r_S_handlerDepths, .int S_handlers])), (r_S_values, .inl (cL, n_S_values, .inr (.inl f_S_values)))] := hD
  refine lv_aload_n hx hb d_Stacks_replace_10 rfl (lv_at hl 0 rfl) ?_
  refine va_get (D := (dC, dI)) (ci := 2) (v := .ref r_S_values) (C := R_Stacks) (T := F_Stacks) (N := 12) hx hb hg i_Stacks hown hK hP 0 rfl rfl 0 (by decide) (hg _ k65) (fun _ h9 => h9) rfl d_Stacks_replace_11 ?_
  refine lv_aload_n hx hb d_Stacks_replace_14 rfl (lv_at hl 0 rfl) ?_
  refine lv_dup hx hb d_Stacks_replace_15 rfl ?_
  refine va_get (D := (dC, dI)) (ci := 2) (v := .int (S_top - p0)) (C := R_Stacks) (T := F_Stacks) (N := 12) hx hb hg i_Stacks hown hK hP 0 rfl rfl 1 (by decide) (hg _ k53) (fun _ h9 => h9) rfl d_Stacks_replace_16 ?_
  refine lv_dup_x1 hx hb d_Stacks_replace_19 rfl rfl ?_
  refine lv_iconst (v := 1) hx hb d_Stacks_replace_20 (by decide) ?_
  refine lv_iadd hx hb d_Stacks_replace_21 ?_
  refine va_put (D := (dC, dI)) (ci := 2) (v := .int ((S_top - p0) + 1)) (ty := .int) (C := R_Stacks) (T := F_Stacks) (N := 12) hx hb hg i_Stacks t_Stacks t_Stacks_ok n_Stacks hown hK hP hD hS 0 rfl rfl 1 (by decide) (hg _ k53) (fun _ h9 => h9) rfl (by decide +kernel) rfl rfl (Nat.le_of_ble_eq_true rfl) d_Stacks_replace_22 (fun H locs hP hD hS => ?_)
  have hP : va_P (dC, dI) classes [(o_Stacks, .inr (2, [.ref r_S_values, .int ((S_top - p0) + 1), .ref r_S_bases, .ref r_S_floors, .ref r_S_returns, .ref r_S_closures, .int S_frames, .ref r_S_handlerFrames, .ref r_S_handlerPlaces, .ref r_S_handlerHeights, .ref r_S_handlerDepths, .int S_handlers])), (r_S_values, .inl (cL, n_S_values, .inr (.inl f_S_values)))] H := hP
  have hD : va_D A [(o_Stacks, .inr (2, [.ref r_S_values, .int ((S_top - p0) + 1), .ref r_S_bases, .ref r_S_floors, .ref r_S_returns, .ref r_S_closures, .int S_frames, .ref r_S_handlerFrames, .ref r_S_handlerPlaces, .ref r_S_handlerHeights, .ref r_S_handlerDepths, .int S_handlers])), (r_S_values, .inl (cL, n_S_values, .inr (.inl f_S_values)))] := hD
  refine lv_lload_n hx hb d_Stacks_replace_25 rfl (lv_at hl 2 rfl) ?_
  obtain ⟨i1, h⟩ := dz_oi h
  refine va_last (D := (dC, dI)) hx hb hK hP hD hS 1 0 rfl rfl i1 d_Stacks_replace_26 (fun H locs hP hD hS => ?_)
  have hP : va_P (dC, dI) classes [(o_Stacks, .inr (2, [.ref r_S_values, .int ((S_top - p0) + 1), .ref r_S_bases, .ref r_S_floors, .ref r_S_returns, .ref r_S_closures, .int S_frames, .ref r_S_handlerFrames, .ref r_S_handlerPlaces, .ref r_S_handlerHeights, .ref r_S_handlerDepths, .int S_handlers])), (r_S_values, .inl (cL, n_S_values, .inr (.inl (vp_updL f_S_values (S_top - p0).toNatClampNeg p1))))] H := hP
  have hD : va_D A [(o_Stacks, .inr (2, [.ref r_S_values, .int ((S_top - p0) + 1), .ref r_S_bases, .ref r_S_floors, .ref r_S_returns, .ref r_S_closures, .int S_frames, .ref r_S_handlerFrames, .ref r_S_handlerPlaces, .ref r_S_handlerHeights, .ref r_S_handlerDepths, .int S_handlers])), (r_S_values, .inl (cL, n_S_values, .inr (.inl (vp_updL f_S_values (S_top - p0).toNatClampNeg p1))))] := hD
  refine lv_iconst (v := 5) hx hb d_Stacks_replace_27 (by decide) ?_
  obtain rfl := Option.some.inj h
  have hP9 := hP.sub (ws' := [(o_Stacks, .inr (2, [.ref r_S_values, .int ((S_top - p0) + 1), .ref r_S_bases, .ref r_S_floors, .ref r_S_returns, .ref r_S_closures, .int S_frames, .ref r_S_handlerFrames, .ref r_S_handlerPlaces, .ref r_S_handlerHeights, .ref r_S_handlerDepths, .int S_handlers])), (r_S_values, .inl (cL, n_S_values, .inr (.inl (vp_updL f_S_values (S_top - p0).toNatClampNeg p1))))]) [0, 1] rfl
  have hD9 := hD.sub (ws' := [(o_Stacks, .inr (2, [.ref r_S_values, .int ((S_top - p0) + 1), .ref r_S_bases, .ref r_S_floors, .ref r_S_returns, .ref r_S_closures, .int S_frames, .ref r_S_handlerFrames, .ref r_S_handlerPlaces, .ref r_S_handlerHeights, .ref r_S_handlerDepths, .int S_handlers])), (r_S_values, .inl (cL, n_S_values, .inr (.inl (vp_updL f_S_values (S_top - p0).toNatClampNeg p1))))]) [0, 1] (by decide) rfl
  have hK9 := hK.sub (tys' := [(cL, .long)]) [0] rfl
  exact W.iret (v := 5) hx hb hr (fun t ht hW => ⟨⟨5, (), rfl, rfl, by rw [ht]; exact hP9, va_K.moved hW.alike hK9, hD9⟩, hS.F ht⟩) hS.2.2 d_Stacks_replace_28

set_option maxHeartbeats 4000000 in
set_option maxRecDepth 100000 in
theorem c_Stacks_widenFrames (l : Launch) (dC : Nat → ClassId) (dI : Nat → Nat → Nat) (N : Nat) (cI : ClassId) (cL : ClassId) (o_Stacks : Nat) (r_S_values : Nat) (r_S_bases : Nat) (r_S_floors : Nat) (r_S_returns : Nat) (r_S_closures : Nat) (r_S_handlerFrames : Nat) (r_S_handlerPlaces : Nat) (r_S_handlerHeights : Nat) (r_S_handlerDepths : Nat) (S_top : Int32) (S_frames : Int32) (S_handlers : Int32) (n_S_bases : Nat) (f_S_bases : Nat → Int32) (n_S_floors : Nat) (f_S_floors : Nat → Int32) (n_S_returns : Nat) (f_S_returns : Nat → Int32) (n_S_closures : Nat) (f_S_closures : Nat → Int64) (sz : Nat) (Z1 : Nat × (Nat → Int32) × Nat × (Nat → Int64) × Nat × (Nat → Int32) × Nat × (Nat → Int32)) (Zc Zs : Nat) (h : m_Stacks_widenFrames N S_top S_frames S_handlers n_S_bases f_S_bases n_S_floors f_S_floors n_S_returns f_S_returns n_S_closures f_S_closures = some (Z1, Zc, Zs)) : Met l y_Stacks_widenFrames (.code y_Stacks_widenFrames b_Stacks_widenFrames 2 none :: lw_g) ({ frames := 2, cells := Zc, slots := Zs, locals := 82 }) (va_Pc [.ref o_Stacks] (fun U => dz_N U ∧ U.heap.size = sz ∧ va_P (dC, dI) classes [(o_Stacks, .inr (2, [.ref r_S_values, .int S_top, .ref r_S_bases, .ref r_S_floors, .ref r_S_returns, .ref r_S_closures, .int S_frames, .ref r_S_handlerFrames, .ref r_S_handlerPlaces, .ref r_S_handlerHeights, .ref r_S_handlerDepths, .int S_handlers])), (r_S_bases, .inl (cI, n_S_bases, .inl f_S_bases)), (r_S_floors, .inl (cI, n_S_floors, .inl f_S_floors)), (r_S_returns, .inl (cI, n_S_returns, .inl f_S_returns)), (r_S_closures, .inl (cL, n_S_closures, .inr (.inl f_S_closures)))] U.heap ∧ va_K (dC, dI) classes [(cI, .int), (cL, .long)] U ∧ va_D (fun _ => True) [(o_Stacks, .inr (2, [.ref r_S_values, .int S_top, .ref r_S_bases, .ref r_S_floors, .ref r_S_returns, .ref r_S_closures, .int S_frames, .ref r_S_handlerFrames, .ref r_S_handlerPlaces, .ref r_S_handlerHeights, .ref r_S_handlerDepths, .int S_handlers])), (r_S_bases, .inl (cI, n_S_bases, .inl f_S_bases)), (r_S_floors, .inl (cI, n_S_floors, .inl f_S_floors)), (r_S_returns, .inl (cI, n_S_returns, .inl f_S_returns)), (r_S_closures, .inl (cL, n_S_closures, .inr (.inl f_S_closures)))])) (va_Qv (fun (_ : Nat × Nat × Nat × Nat) => True) (fun (u : Nat × Nat × Nat × Nat) t => va_P (dC, dI) classes [(o_Stacks, .inr (2, [.ref r_S_values, .int S_top, .ref u.1, .ref u.2.2.1, .ref u.2.2.2, .ref u.2.1, .int S_frames, .ref r_S_handlerFrames, .ref r_S_handlerPlaces, .ref r_S_handlerHeights, .ref r_S_handlerDepths, .int S_handlers])), (u.1, .inl (cI, Z1.1, .inl Z1.2.1)), (u.2.2.1, .inl (cI, Z1.2.2.2.2.1, .inl Z1.2.2.2.2.2.1)), (u.2.2.2, .inl (cI, Z1.2.2.2.2.2.2.1, .inl Z1.2.2.2.2.2.2.2)), (u.2.1, .inl (cL, Z1.2.2.1, .inr (.inl Z1.2.2.2.1)))] t.heap ∧ va_K (dC, dI) classes [(cI, .int), (cL, .long)] t ∧ va_D (va_A [(o_Stacks, .inr (2, [.ref r_S_values, .int S_top, .ref r_S_bases, .ref r_S_floors, .ref r_S_returns, .ref r_S_closures, .int S_frames, .ref r_S_handlerFrames, .ref r_S_handlerPlaces, .ref r_S_handlerHeights, .ref r_S_handlerDepths, .int S_handlers])), (r_S_bases, .inl (cI, n_S_bases, .inl f_S_bases)), (r_S_floors, .inl (cI, n_S_floors, .inl f_S_floors)), (r_S_returns, .inl (cI, n_S_returns, .inl f_S_returns)), (r_S_closures, .inl (cL, n_S_closures, .inr (.inl f_S_closures)))] sz) [(o_Stacks, .inr (2, [.ref r_S_values, .int S_top, .ref u.1, .ref u.2.2.1, .ref u.2.2.2, .ref u.2.1, .int S_frames, .ref r_S_handlerFrames, .ref r_S_handlerPlaces, .ref r_S_handlerHeights, .ref r_S_handlerDepths, .int S_handlers])), (u.1, .inl (cI, Z1.1, .inl Z1.2.1)), (u.2.2.1, .inl (cI, Z1.2.2.2.2.1, .inl Z1.2.2.2.2.2.1)), (u.2.2.2, .inl (cI, Z1.2.2.2.2.2.2.1, .inl Z1.2.2.2.2.2.2.2)), (u.2.1, .inl (cL, Z1.2.2.1, .inr (.inl Z1.2.2.2.1)))]) (va_A [(o_Stacks, .inr (2, [.ref r_S_values, .int S_top, .ref r_S_bases, .ref r_S_floors, .ref r_S_returns, .ref r_S_closures, .int S_frames, .ref r_S_handlerFrames, .ref r_S_handlerPlaces, .ref r_S_handlerHeights, .ref r_S_handlerDepths, .int S_handlers])), (r_S_bases, .inl (cI, n_S_bases, .inl f_S_bases)), (r_S_floors, .inl (cI, n_S_floors, .inl f_S_floors)), (r_S_returns, .inl (cI, n_S_returns, .inl f_S_returns)), (r_S_closures, .inl (cL, n_S_closures, .inr (.inl f_S_closures)))] sz)) Zc Zs (va_A [(o_Stacks, .inr (2, [.ref r_S_values, .int S_top, .ref r_S_bases, .ref r_S_floors, .ref r_S_returns, .ref r_S_closures, .int S_frames, .ref r_S_handlerFrames, .ref r_S_handlerPlaces, .ref r_S_handlerHeights, .ref r_S_handlerDepths, .int S_handlers])), (r_S_bases, .inl (cI, n_S_bases, .inl f_S_bases)), (r_S_floors, .inl (cI, n_S_floors, .inl f_S_floors)), (r_S_returns, .inl (cI, n_S_returns, .inl f_S_returns)), (r_S_closures, .inl (cL, n_S_closures, .inr (.inl f_S_closures)))] sz) := by
  refine Met.ofW (cc := b_Stacks_widenFrames) (maxL := 2) (ret := none) (by decide +kernel) rfl ?_
  intro p e s m args below meth c s₁ B hml hv
  obtain ⟨rfl, hN, hsz, hP, hK, hD0⟩ := hv
  have hx := B.exec
  have hb := B.bytes
  have hr := B.returns
  have hg : ∀ w ∈ lw_g, w.before _ s = true := fun w hw => atoms_spec (ws := .code y_Stacks_widenFrames b_Stacks_widenFrames 2 none :: lw_g) B.pre w (List.mem_cons_of_mem _ hw)
  have hown : s.vm.findClass R_Stacks = some m.cls := findClass_of_methodNamed B.named
  have hlocks := B.notSynchronized
  clear B
  subst hsz
  have hD := hD0.self (sz := s.heap.size)
  generalize hAe : va_A [(o_Stacks, .inr (2, [.ref r_S_values, .int S_top, .ref r_S_bases, .ref r_S_floors, .ref r_S_returns, .ref r_S_closures, .int S_frames, .ref r_S_handlerFrames, .ref r_S_handlerPlaces, .ref r_S_handlerHeights, .ref r_S_handlerDepths, .int S_handlers])), (r_S_bases, .inl (cI, n_S_bases, .inl f_S_bases)), (r_S_floors, .inl (cI, n_S_floors, .inl f_S_floors)), (r_S_returns, .inl (cI, n_S_returns, .inl f_S_returns)), (r_S_closures, .inl (cL, n_S_closures, .inr (.inl f_S_closures)))] s.heap.size = A at hD ⊢
  have hA : ∀ q : Nat, s.heap.size ≤ q → A q := fun q h => by rw [← hAe]; exact Or.inr h
  have hS : va_S A s.heap s.heap [] := va_S.rf
  have hP : va_P (dC, dI) classes [(o_Stacks, .inr (2, [.ref r_S_values, .int S_top, .ref r_S_bases, .ref r_S_floors, .ref r_S_returns, .ref r_S_closures, .int S_frames, .ref r_S_handlerFrames, .ref r_S_handlerPlaces, .ref r_S_handlerHeights, .ref r_S_handlerDepths, .int S_handlers])), (r_S_bases, .inl (cI, n_S_bases, .inl f_S_bases)), (r_S_floors, .inl (cI, n_S_floors, .inl f_S_floors)), (r_S_returns, .inl (cI, n_S_returns, .inl f_S_returns)), (r_S_closures, .inl (cL, n_S_closures, .inr (.inl f_S_closures)))] s.heap := hP
  have hl := lv_entry ([.ref o_Stacks]) (n := 2) (Nat.le_of_ble_eq_true rfl)
  rw [lg_entry_eq]
  generalize (lg_sl ([.ref o_Stacks]) ++ List.replicate (2 - (lg_sl ([.ref o_Stacks])).length) Slot.unset).toArray = ls at hl ⊢
  have hl : lv_has ls 2 [(0, .ref o_Stacks)] := hl
  unfold m_Stacks_widenFrames at h
  have hG : dz_G Z1 Zc Zs (Z1, Zc, Zs) 0 0 := ⟨rfl, (Nat.zero_add _).symm, (Nat.zero_add _).symm⟩
  generalize (Z1, Zc, Zs) = z at h hG
  refine lv_aload_n hx hb d_Stacks_widenFrames_0 rfl (lv_at hl 0 rfl) ?_
  refine va_get (D := (dC, dI)) (ci := 2) (v := .ref r_S_bases) (C := R_Stacks) (T := F_Stacks) (N := 12) hx hb hg i_Stacks hown hK hP 0 rfl rfl 2 (by decide) (hg _ k56) (fun _ h9 => h9) rfl d_Stacks_widenFrames_1 ?_
  refine va_alen (D := (dC, dI)) (v := Int32.ofNat n_S_bases) hx hb hK hP 1 0 rfl rfl rfl d_Stacks_widenFrames_4 ?_
  refine lv_aload_n hx hb d_Stacks_widenFrames_5 rfl (lv_at hl 0 rfl) ?_
  refine va_get (D := (dC, dI)) (ci := 2) (v := .int S_frames) (C := R_Stacks) (T := F_Stacks) (N := 12) hx hb hg i_Stacks hown hK hP 0 rfl rfl 6 (by decide) (hg _ k54) (fun _ h9 => h9) rfl d_Stacks_widenFrames_6 ?_
  refine lv_iconst (v := 1) hx hb d_Stacks_widenFrames_9 (by decide) ?_
  refine lv_iadd hx hb d_Stacks_widenFrames_10 ?_
  refine lv_sipush (v := 8192) hx hb d_Stacks_widenFrames_11 (by decide) ?_
  obtain ⟨z1_1, hc1, h⟩ := dz_ob h
  try dsimp only at h
  have hPc := hP.sub (ws' := []) [] rfl
  have hKc := hK.sub (tys' := []) [] rfl
  refine vp_callSi (va_Run.run (va_runSN (As := [.int (Int32.ofNat n_S_bases), .int (S_frames + 1), .int 8192]) (rest := []) ⟨hx, hb, hml, hown, hg⟩ (c_Engine_longer l dC dI N (Int32.ofNat n_S_bases) (S_frames + 1) (8192 : Int32) z1_1 hc1) ⟨va_cnB 3 hg (gd_N k26) rfl rfl rfl hN.2.2.2.2 (hg _ k27) (by decide +kernel) ⟨Nat.le_of_ble_eq_true rfl, Nat.le_of_ble_eq_true rfl⟩, hg _ k28, trivial⟩ ⟨dz_blindR, fun U hU hW => ⟨rfl, dz_Nw hW hN, by rw [hU]; exact hPc, va_K.moved hW.alike hKc⟩⟩ rfl rfl hl.1 rfl (lv_room (Nat.le_of_ble_eq_true rfl)) d_Stacks_widenFrames_14 ⟨dz_Gc hG, dz_Gs hG⟩)) (fun r1 hw => ?_)
  have hw : z1_1 = r1 := hw.symm
  subst hw
  refine lv_istore_n (lv' := [(1, .int z1_1), (0, .ref o_Stacks)]) hx hb d_Stacks_widenFrames_17 rfl hl (by decide) rfl (fun ls hl => ?_)
  refine lv_aload_n hx hb d_Stacks_widenFrames_18 rfl (lv_at hl 1 rfl) ?_
  refine lv_aload_n hx hb d_Stacks_widenFrames_19 rfl (lv_at hl 1 rfl) ?_
  refine va_get (D := (dC, dI)) (ci := 2) (v := .ref r_S_bases) (C := R_Stacks) (T := F_Stacks) (N := 12) hx hb hg i_Stacks hown hK hP 0 rfl rfl 2 (by decide) (hg _ k56) (fun _ h9 => h9) rfl d_Stacks_widenFrames_20 ?_
  refine lv_iload_n hx hb d_Stacks_widenFrames_23 rfl (lv_at hl 0 rfl) ?_
  obtain ⟨⟨⟨z2_1, z2_2⟩, zc2, zs2⟩, hc2, h⟩ := dz_ob h
  try dsimp only at h
  obtain ⟨z, h, hG⟩ := dz_tkG h hG
  have hPc := hP.sub (ws' := [(r_S_bases, .inl (cI, n_S_bases, .inl f_S_bases))]) [1] rfl
  have hKc := hK.sub (tys' := [(cI, .int)]) [0] rfl
  have hDc := hD.sub (ws' := [(r_S_bases, .inl (cI, n_S_bases, .inl f_S_bases))]) [1] (by decide) rfl
  have hFc := va_free (wc := [(r_S_bases, .inl (cI, n_S_bases, .inl f_S_bases))]) hD hS hA [1] rfl
  refine va_callr (va_runS (As := [.ref r_S_bases, .int z1_1]) (rest := [.ref o_Stacks]) ⟨hx, hb, hml, hown, hg⟩ (c_Arrays_copyOfI l dC dI N cI r_S_bases n_S_bases f_S_bases z1_1 s.heap.size (z2_1, z2_2) zc2 zs2 hc2) (va_cwS 2 hg (gd_S k90 k31 k22 k29) rfl rfl rfl (by decide +kernel) ⟨Nat.le_of_ble_eq_true rfl, Nat.le_of_ble_eq_true rfl⟩) ⟨dz_blind, fun U hU hW => ⟨rfl, dz_Nw hW hN, by rw [hU], by rw [hU]; exact hPc, va_K.moved hW.alike hKc, hDc.weaken (fun _ _ _ _ => trivial)⟩⟩ rfl rfl hl.1 rfl (lv_room (Nat.le_of_ble_eq_true rfl)) d_Stacks_widenFrames_24 ⟨dz_Gc hG, dz_Gs hG⟩) hS (fun q _ h => hFc q h) hFc (fun u2 a2_r t2 H1 locs ht hvm hw hB hz1 hk1 hS => ?_)
  obtain ⟨hP1, hK1, hD1⟩ := hB
  rw [ht] at hP1
  obtain ⟨hP, hD⟩ := va_join (wr := [(o_Stacks, .inr (2, [.ref r_S_values, .int S_top, .ref r_S_bases, .ref r_S_floors, .ref r_S_returns, .ref r_S_closures, .int S_frames, .ref r_S_handlerFrames, .ref r_S_handlerPlaces, .ref r_S_handlerHeights, .ref r_S_handlerDepths, .int S_handlers])), (r_S_floors, .inl (cI, n_S_floors, .inl f_S_floors)), (r_S_returns, .inl (cI, n_S_returns, .inl f_S_returns)), (r_S_closures, .inl (cL, n_S_closures, .inr (.inl f_S_closures)))]) (w1 := [(r_S_bases, .inl (cI, n_S_bases, .inl f_S_bases)), (a2_r, .inl (cI, z2_1, .inl z2_2))]) hP hD [1] [0, 2, 3, 4] rfl rfl (by decide) (by decide) hk1 hFc hP1 hD1
  generalize H1 = H at hP hS ⊢
  have hP : va_P (dC, dI) classes [(o_Stacks, .inr (2, [.ref r_S_values, .int S_top, .ref r_S_bases, .ref r_S_floors, .ref r_S_returns, .ref r_S_closures, .int S_frames, .ref r_S_handlerFrames, .ref r_S_handlerPlaces, .ref r_S_handlerHeights, .ref r_S_handlerDepths, .int S_handlers])), (r_S_floors, .inl (cI, n_S_floors, .inl f_S_floors)), (r_S_returns, .inl (cI, n_S_returns, .inl f_S_returns)), (r_S_closures, .inl (cL, n_S_closures, .inr (.inl f_S_closures))), (r_S_bases, .inl (cI, n_S_bases, .inl f_S_bases)), (a2_r, .inl (cI, z2_1, .inl z2_2))] H := hP
  have hD : va_D A [(o_Stacks, .inr (2, [.ref r_S_values, .int S_top, .ref r_S_bases, .ref r_S_floors, .ref r_S_returns, .ref r_S_closures, .int S_frames, .ref r_S_handlerFrames, .ref r_S_handlerPlaces, .ref r_S_handlerHeights, .ref r_S_handlerDepths, .int S_handlers])), (r_S_floors, .inl (cI, n_S_floors, .inl f_S_floors)), (r_S_returns, .inl (cI, n_S_returns, .inl f_S_returns)), (r_S_closures, .inl (cL, n_S_closures, .inr (.inl f_S_closures))), (r_S_bases, .inl (cI, n_S_bases, .inl f_S_bases)), (a2_r, .inl (cI, z2_1, .inl z2_2))] := hD
  refine va_put (D := (dC, dI)) (ci := 2) (v := .ref a2_r) (ty := .array .int) (C := R_Stacks) (T := F_Stacks) (N := 12) hx hb hg i_Stacks t_Stacks t_Stacks_ok n_Stacks hown hK hP hD hS 0 rfl rfl 2 (by decide) (hg _ k56) (fun _ h9 => h9) rfl (by decide +kernel) rfl rfl (Nat.le_of_ble_eq_true rfl) d_Stacks_widenFrames_27 (fun H locs hP hD hS => ?_)
  have hP : va_P (dC, dI) classes [(o_Stacks, .inr (2, [.ref r_S_values, .int S_top, .ref a2_r, .ref r_S_floors, .ref r_S_returns, .ref r_S_closures, .int S_frames, .ref r_S_handlerFrames, .ref r_S_handlerPlaces, .ref r_S_handlerHeights, .ref r_S_handlerDepths, .int S_handlers])), (r_S_floors, .inl (cI, n_S_floors, .inl f_S_floors)), (r_S_returns, .inl (cI, n_S_returns, .inl f_S_returns)), (r_S_closures, .inl (cL, n_S_closures, .inr (.inl f_S_closures))), (r_S_bases, .inl (cI, n_S_bases, .inl f_S_bases)), (a2_r, .inl (cI, z2_1, .inl z2_2))] H := hP
  have hD : va_D A [(o_Stacks, .inr (2, [.ref r_S_values, .int S_top, .ref a2_r, .ref r_S_floors, .ref r_S_returns, .ref r_S_closures, .int S_frames, .ref r_S_handlerFrames, .ref r_S_handlerPlaces, .ref r_S_handlerHeights, .ref r_S_handlerDepths, .int S_handlers])), (r_S_floors, .inl (cI, n_S_floors, .inl f_S_floors)), (r_S_returns, .inl (cI, n_S_returns, .inl f_S_returns)), (r_S_closures, .inl (cL, n_S_closures, .inr (.inl f_S_closures))), (r_S_bases, .inl (cI, n_S_bases, .inl f_S_bases)), (a2_r, .inl (cI, z2_1, .inl z2_2))] := hD
  refine lv_aload_n hx hb d_Stacks_widenFrames_30 rfl (lv_at hl 1 rfl) ?_
  refine lv_aload_n hx hb d_Stacks_widenFrames_31 rfl (lv_at hl 1 rfl) ?_
  refine va_get (D := (dC, dI)) (ci := 2) (v := .ref r_S_floors) (C := R_Stacks) (T := F_Stacks) (N := 12) hx hb hg i_Stacks hown hK hP 0 rfl rfl 3 (by decide) (hg _ k57) (fun _ h9 => h9) rfl d_Stacks_widenFrames_32 ?_
  refine lv_iload_n hx hb d_Stacks_widenFrames_35 rfl (lv_at hl 0 rfl) ?_
  obtain ⟨⟨⟨z3_1, z3_2⟩, zc3, zs3⟩, hc3, h⟩ := dz_ob h
  try dsimp only at h
  obtain ⟨z, h, hG⟩ := dz_tkG h hG
  have hPc := hP.sub (ws' := [(r_S_floors, .inl (cI, n_S_floors, .inl f_S_floors))]) [1] rfl
  have hKc := hK.sub (tys' := [(cI, .int)]) [0] rfl
  have hDc := hD.sub (ws' := [(r_S_floors, .inl (cI, n_S_floors, .inl f_S_floors))]) [1] (by decide) rfl
  have hFc := va_free (wc := [(r_S_floors, .inl (cI, n_S_floors, .inl f_S_floors))]) hD hS hA [1] rfl
  refine va_callr (va_runS (As := [.ref r_S_floors, .int z1_1]) (rest := [.ref o_Stacks]) ⟨hx, hb, hml, hown, hg⟩ (c_Arrays_copyOfI l dC dI N cI r_S_floors n_S_floors f_S_floors z1_1 H.size (z3_1, z3_2) zc3 zs3 hc3) (va_cwS 2 hg (gd_S k90 k31 k22 k29) rfl rfl rfl (by decide +kernel) ⟨Nat.le_of_ble_eq_true rfl, Nat.le_of_ble_eq_true rfl⟩) ⟨dz_blind, fun U hU hW => ⟨rfl, dz_Nw hW hN, by rw [hU], by rw [hU]; exact hPc, va_K.moved hW.alike hKc, hDc.weaken (fun _ _ _ _ => trivial)⟩⟩ rfl rfl hl.1 rfl (lv_room (Nat.le_of_ble_eq_true rfl)) d_Stacks_widenFrames_36 ⟨dz_Gc hG, dz_Gs hG⟩) hS (fun q _ h => hFc q h) hFc (fun u3 a3_r t3 H1 locs ht hvm hw hB hz1 hk1 hS => ?_)
  obtain ⟨hP1, hK1, hD1⟩ := hB
  rw [ht] at hP1
  obtain ⟨hP, hD⟩ := va_join (wr := [(o_Stacks, .inr (2, [.ref r_S_values, .int S_top, .ref a2_r, .ref r_S_floors, .ref r_S_returns, .ref r_S_closures, .int S_frames, .ref r_S_handlerFrames, .ref r_S_handlerPlaces, .ref r_S_handlerHeights, .ref r_S_handlerDepths, .int S_handlers])), (r_S_returns, .inl (cI, n_S_returns, .inl f_S_returns)), (r_S_closures, .inl (cL, n_S_closures, .inr (.inl f_S_closures))), (r_S_bases, .inl (cI, n_S_bases, .inl f_S_bases)), (a2_r, .inl (cI, z2_1, .inl z2_2))]) (w1 := [(r_S_floors, .inl (cI, n_S_floors, .inl f_S_floors)), (a3_r, .inl (cI, z3_1, .inl z3_2))]) hP hD [1] [0, 2, 3, 4, 5] rfl rfl (by decide) (by decide) hk1 hFc hP1 hD1
  generalize H1 = H at hP hS ⊢
  have hP : va_P (dC, dI) classes [(o_Stacks, .inr (2, [.ref r_S_values, .int S_top, .ref a2_r, .ref r_S_floors, .ref r_S_returns, .ref r_S_closures, .int S_frames, .ref r_S_handlerFrames, .ref r_S_handlerPlaces, .ref r_S_handlerHeights, .ref r_S_handlerDepths, .int S_handlers])), (r_S_returns, .inl (cI, n_S_returns, .inl f_S_returns)), (r_S_closures, .inl (cL, n_S_closures, .inr (.inl f_S_closures))), (r_S_bases, .inl (cI, n_S_bases, .inl f_S_bases)), (a2_r, .inl (cI, z2_1, .inl z2_2)), (r_S_floors, .inl (cI, n_S_floors, .inl f_S_floors)), (a3_r, .inl (cI, z3_1, .inl z3_2))] H := hP
  have hD : va_D A [(o_Stacks, .inr (2, [.ref r_S_values, .int S_top, .ref a2_r, .ref r_S_floors, .ref r_S_returns, .ref r_S_closures, .int S_frames, .ref r_S_handlerFrames, .ref r_S_handlerPlaces, .ref r_S_handlerHeights, .ref r_S_handlerDepths, .int S_handlers])), (r_S_returns, .inl (cI, n_S_returns, .inl f_S_returns)), (r_S_closures, .inl (cL, n_S_closures, .inr (.inl f_S_closures))), (r_S_bases, .inl (cI, n_S_bases, .inl f_S_bases)), (a2_r, .inl (cI, z2_1, .inl z2_2)), (r_S_floors, .inl (cI, n_S_floors, .inl f_S_floors)), (a3_r, .inl (cI, z3_1, .inl z3_2))] := hD
  refine va_put (D := (dC, dI)) (ci := 2) (v := .ref a3_r) (ty := .array .int) (C := R_Stacks) (T := F_Stacks) (N := 12) hx hb hg i_Stacks t_Stacks t_Stacks_ok n_Stacks hown hK hP hD hS 0 rfl rfl 3 (by decide) (hg _ k57) (fun _ h9 => h9) rfl (by decide +kernel) rfl rfl (Nat.le_of_ble_eq_true rfl) d_Stacks_widenFrames_39 (fun H locs hP hD hS => ?_)
  have hP : va_P (dC, dI) classes [(o_Stacks, .inr (2, [.ref r_S_values, .int S_top, .ref a2_r, .ref a3_r, .ref r_S_returns, .ref r_S_closures, .int S_frames, .ref r_S_handlerFrames, .ref r_S_handlerPlaces, .ref r_S_handlerHeights, .ref r_S_handlerDepths, .int S_handlers])), (r_S_returns, .inl (cI, n_S_returns, .inl f_S_returns)), (r_S_closures, .inl (cL, n_S_closures, .inr (.inl f_S_closures))), (r_S_bases, .inl (cI, n_S_bases, .inl f_S_bases)), (a2_r, .inl (cI, z2_1, .inl z2_2)), (r_S_floors, .inl (cI, n_S_floors, .inl f_S_floors)), (a3_r, .inl (cI, z3_1, .inl z3_2))] H := hP
  have hD : va_D A [(o_Stacks, .inr (2, [.ref r_S_values, .int S_top, .ref a2_r, .ref a3_r, .ref r_S_returns, .ref r_S_closures, .int S_frames, .ref r_S_handlerFrames, .ref r_S_handlerPlaces, .ref r_S_handlerHeights, .ref r_S_handlerDepths, .int S_handlers])), (r_S_returns, .inl (cI, n_S_returns, .inl f_S_returns)), (r_S_closures, .inl (cL, n_S_closures, .inr (.inl f_S_closures))), (r_S_bases, .inl (cI, n_S_bases, .inl f_S_bases)), (a2_r, .inl (cI, z2_1, .inl z2_2)), (r_S_floors, .inl (cI, n_S_floors, .inl f_S_floors)), (a3_r, .inl (cI, z3_1, .inl z3_2))] := hD
  refine lv_aload_n hx hb d_Stacks_widenFrames_42 rfl (lv_at hl 1 rfl) ?_
  refine lv_aload_n hx hb d_Stacks_widenFrames_43 rfl (lv_at hl 1 rfl) ?_
  refine va_get (D := (dC, dI)) (ci := 2) (v := .ref r_S_returns) (C := R_Stacks) (T := F_Stacks) (N := 12) hx hb hg i_Stacks hown hK hP 0 rfl rfl 4 (by decide) (hg _ k58) (fun _ h9 => h9) rfl d_Stacks_widenFrames_44 ?_
  refine lv_iload_n hx hb d_Stacks_widenFrames_47 rfl (lv_at hl 0 rfl) ?_
  obtain ⟨⟨⟨z4_1, z4_2⟩, zc4, zs4⟩, hc4, h⟩ := dz_ob h
  try dsimp only at h
  obtain ⟨z, h, hG⟩ := dz_tkG h hG
  have hPc := hP.sub (ws' := [(r_S_returns, .inl (cI, n_S_returns, .inl f_S_returns))]) [1] rfl
  have hKc := hK.sub (tys' := [(cI, .int)]) [0] rfl
  have hDc := hD.sub (ws' := [(r_S_returns, .inl (cI, n_S_returns, .inl f_S_returns))]) [1] (by decide) rfl
  have hFc := va_free (wc := [(r_S_returns, .inl (cI, n_S_returns, .inl f_S_returns))]) hD hS hA [1] rfl
  refine va_callr (va_runS (As := [.ref r_S_returns, .int z1_1]) (rest := [.ref o_Stacks]) ⟨hx, hb, hml, hown, hg⟩ (c_Arrays_copyOfI l dC dI N cI r_S_returns n_S_returns f_S_returns z1_1 H.size (z4_1, z4_2) zc4 zs4 hc4) (va_cwS 2 hg (gd_S k90 k31 k22 k29) rfl rfl rfl (by decide +kernel) ⟨Nat.le_of_ble_eq_true rfl, Nat.le_of_ble_eq_true rfl⟩) ⟨dz_blind, fun U hU hW => ⟨rfl, dz_Nw hW hN, by rw [hU], by rw [hU]; exact hPc, va_K.moved hW.alike hKc, hDc.weaken (fun _ _ _ _ => trivial)⟩⟩ rfl rfl hl.1 rfl (lv_room (Nat.le_of_ble_eq_true rfl)) d_Stacks_widenFrames_48 ⟨dz_Gc hG, dz_Gs hG⟩) hS (fun q _ h => hFc q h) hFc (fun u4 a4_r t4 H1 locs ht hvm hw hB hz1 hk1 hS => ?_)
  obtain ⟨hP1, hK1, hD1⟩ := hB
  rw [ht] at hP1
  obtain ⟨hP, hD⟩ := va_join (wr := [(o_Stacks, .inr (2, [.ref r_S_values, .int S_top, .ref a2_r, .ref a3_r, .ref r_S_returns, .ref r_S_closures, .int S_frames, .ref r_S_handlerFrames, .ref r_S_handlerPlaces, .ref r_S_handlerHeights, .ref r_S_handlerDepths, .int S_handlers])), (r_S_closures, .inl (cL, n_S_closures, .inr (.inl f_S_closures))), (r_S_bases, .inl (cI, n_S_bases, .inl f_S_bases)), (a2_r, .inl (cI, z2_1, .inl z2_2)), (r_S_floors, .inl (cI, n_S_floors, .inl f_S_floors)), (a3_r, .inl (cI, z3_1, .inl z3_2))]) (w1 := [(r_S_returns, .inl (cI, n_S_returns, .inl f_S_returns)), (a4_r, .inl (cI, z4_1, .inl z4_2))]) hP hD [1] [0, 2, 3, 4, 5, 6] rfl rfl (by decide) (by decide) hk1 hFc hP1 hD1
  generalize H1 = H at hP hS ⊢
  have hP : va_P (dC, dI) classes [(o_Stacks, .inr (2, [.ref r_S_values, .int S_top, .ref a2_r, .ref a3_r, .ref r_S_returns, .ref r_S_closures, .int S_frames, .ref r_S_handlerFrames, .ref r_S_handlerPlaces, .ref r_S_handlerHeights, .ref r_S_handlerDepths, .int S_handlers])), (r_S_closures, .inl (cL, n_S_closures, .inr (.inl f_S_closures))), (r_S_bases, .inl (cI, n_S_bases, .inl f_S_bases)), (a2_r, .inl (cI, z2_1, .inl z2_2)), (r_S_floors, .inl (cI, n_S_floors, .inl f_S_floors)), (a3_r, .inl (cI, z3_1, .inl z3_2)), (r_S_returns, .inl (cI, n_S_returns, .inl f_S_returns)), (a4_r, .inl (cI, z4_1, .inl z4_2))] H := hP
  have hD : va_D A [(o_Stacks, .inr (2, [.ref r_S_values, .int S_top, .ref a2_r, .ref a3_r, .ref r_S_returns, .ref r_S_closures, .int S_frames, .ref r_S_handlerFrames, .ref r_S_handlerPlaces, .ref r_S_handlerHeights, .ref r_S_handlerDepths, .int S_handlers])), (r_S_closures, .inl (cL, n_S_closures, .inr (.inl f_S_closures))), (r_S_bases, .inl (cI, n_S_bases, .inl f_S_bases)), (a2_r, .inl (cI, z2_1, .inl z2_2)), (r_S_floors, .inl (cI, n_S_floors, .inl f_S_floors)), (a3_r, .inl (cI, z3_1, .inl z3_2)), (r_S_returns, .inl (cI, n_S_returns, .inl f_S_returns)), (a4_r, .inl (cI, z4_1, .inl z4_2))] := hD
  refine va_put (D := (dC, dI)) (ci := 2) (v := .ref a4_r) (ty := .array .int) (C := R_Stacks) (T := F_Stacks) (N := 12) hx hb hg i_Stacks t_Stacks t_Stacks_ok n_Stacks hown hK hP hD hS 0 rfl rfl 4 (by decide) (hg _ k58) (fun _ h9 => h9) rfl (by decide +kernel) rfl rfl (Nat.le_of_ble_eq_true rfl) d_Stacks_widenFrames_51 (fun H locs hP hD hS => ?_)
  have hP : va_P (dC, dI) classes [(o_Stacks, .inr (2, [.ref r_S_values, .int S_top, .ref a2_r, .ref a3_r, .ref a4_r, .ref r_S_closures, .int S_frames, .ref r_S_handlerFrames, .ref r_S_handlerPlaces, .ref r_S_handlerHeights, .ref r_S_handlerDepths, .int S_handlers])), (r_S_closures, .inl (cL, n_S_closures, .inr (.inl f_S_closures))), (r_S_bases, .inl (cI, n_S_bases, .inl f_S_bases)), (a2_r, .inl (cI, z2_1, .inl z2_2)), (r_S_floors, .inl (cI, n_S_floors, .inl f_S_floors)), (a3_r, .inl (cI, z3_1, .inl z3_2)), (r_S_returns, .inl (cI, n_S_returns, .inl f_S_returns)), (a4_r, .inl (cI, z4_1, .inl z4_2))] H := hP
  have hD : va_D A [(o_Stacks, .inr (2, [.ref r_S_values, .int S_top, .ref a2_r, .ref a3_r, .ref a4_r, .ref r_S_closures, .int S_frames, .ref r_S_handlerFrames, .ref r_S_handlerPlaces, .ref r_S_handlerHeights, .ref r_S_handlerDepths, .int S_handlers])), (r_S_closures, .inl (cL, n_S_closures, .inr (.inl f_S_closures))), (r_S_bases, .inl (cI, n_S_bases, .inl f_S_bases)), (a2_r, .inl (cI, z2_1, .inl z2_2)), (r_S_floors, .inl (cI, n_S_floors, .inl f_S_floors)), (a3_r, .inl (cI, z3_1, .inl z3_2)), (r_S_returns, .inl (cI, n_S_returns, .inl f_S_returns)), (a4_r, .inl (cI, z4_1, .inl z4_2))] := hD
  refine lv_aload_n hx hb d_Stacks_widenFrames_54 rfl (lv_at hl 1 rfl) ?_
  refine lv_aload_n hx hb d_Stacks_widenFrames_55 rfl (lv_at hl 1 rfl) ?_
  refine va_get (D := (dC, dI)) (ci := 2) (v := .ref r_S_closures) (C := R_Stacks) (T := F_Stacks) (N := 12) hx hb hg i_Stacks hown hK hP 0 rfl rfl 5 (by decide) (hg _ k59) (fun _ h9 => h9) rfl d_Stacks_widenFrames_56 ?_
  refine lv_iload_n hx hb d_Stacks_widenFrames_59 rfl (lv_at hl 0 rfl) ?_
  obtain ⟨⟨⟨z5_1, z5_2⟩, zc5, zs5⟩, hc5, h⟩ := dz_ob h
  try dsimp only at h
  obtain ⟨z, h, hG⟩ := dz_tkG h hG
  have hPc := hP.sub (ws' := [(r_S_closures, .inl (cL, n_S_closures, .inr (.inl f_S_closures)))]) [1] rfl
  have hKc := hK.sub (tys' := [(cL, .long)]) [1] rfl
  have hDc := hD.sub (ws' := [(r_S_closures, .inl (cL, n_S_closures, .inr (.inl f_S_closures)))]) [1] (by decide) rfl
  have hFc := va_free (wc := [(r_S_closures, .inl (cL, n_S_closures, .inr (.inl f_S_closures)))]) hD hS hA [1] rfl
  refine va_callr (va_runS (As := [.ref r_S_closures, .int z1_1]) (rest := [.ref o_Stacks]) ⟨hx, hb, hml, hown, hg⟩ (c_Arrays_copyOfJ l dC dI N cL r_S_closures n_S_closures f_S_closures z1_1 H.size (z5_1, z5_2) zc5 zs5 hc5) (va_cwS 2 hg (gd_S k68 k69 k22 k67) rfl rfl rfl (by decide +kernel) ⟨Nat.le_of_ble_eq_true rfl, Nat.le_of_ble_eq_true rfl⟩) ⟨dz_blind, fun U hU hW => ⟨rfl, dz_Nw hW hN, by rw [hU], by rw [hU]; exact hPc, va_K.moved hW.alike hKc, hDc.weaken (fun _ _ _ _ => trivial)⟩⟩ rfl rfl hl.1 rfl (lv_room (Nat.le_of_ble_eq_true rfl)) d_Stacks_widenFrames_60 ⟨dz_Gc hG, dz_Gs hG⟩) hS (fun q _ h => hFc q h) hFc (fun u5 a5_r t5 H1 locs ht hvm hw hB hz1 hk1 hS => ?_)
  obtain ⟨hP1, hK1, hD1⟩ := hB
  rw [ht] at hP1
  obtain ⟨hP, hD⟩ := va_join (wr := [(o_Stacks, .inr (2, [.ref r_S_values, .int S_top, .ref a2_r, .ref a3_r, .ref a4_r, .ref r_S_closures, .int S_frames, .ref r_S_handlerFrames, .ref r_S_handlerPlaces, .ref r_S_handlerHeights, .ref r_S_handlerDepths, .int S_handlers])), (r_S_bases, .inl (cI, n_S_bases, .inl f_S_bases)), (a2_r, .inl (cI, z2_1, .inl z2_2)), (r_S_floors, .inl (cI, n_S_floors, .inl f_S_floors)), (a3_r, .inl (cI, z3_1, .inl z3_2)), (r_S_returns, .inl (cI, n_S_returns, .inl f_S_returns)), (a4_r, .inl (cI, z4_1, .inl z4_2))]) (w1 := [(r_S_closures, .inl (cL, n_S_closures, .inr (.inl f_S_closures))), (a5_r, .inl (cL, z5_1, .inr (.inl z5_2)))]) hP hD [1] [0, 2, 3, 4, 5, 6, 7] rfl rfl (by decide) (by decide) hk1 hFc hP1 hD1
  generalize H1 = H at hP hS ⊢
  have hP : va_P (dC, dI) classes [(o_Stacks, .inr (2, [.ref r_S_values, .int S_top, .ref a2_r, .ref a3_r, .ref a4_r, .ref r_S_closures, .int S_frames, .ref r_S_handlerFrames, .ref r_S_handlerPlaces, .ref r_S_handlerHeights, .ref r_S_handlerDepths, .int S_handlers])), (r_S_bases, .inl (cI, n_S_bases, .inl f_S_bases)), (a2_r, .inl (cI, z2_1, .inl z2_2)), (r_S_floors, .inl (cI, n_S_floors, .inl f_S_floors)), (a3_r, .inl (cI, z3_1, .inl z3_2)), (r_S_returns, .inl (cI, n_S_returns, .inl f_S_returns)), (a4_r, .inl (cI, z4_1, .inl z4_2)), (r_S_closures, .inl (cL, n_S_closures, .inr (.inl f_S_closures))), (a5_r, .inl (cL, z5_1, .inr (.inl z5_2)))] H := hP
  have hD : va_D A [(o_Stacks, .inr (2, [.ref r_S_values, .int S_top, .ref a2_r, .ref a3_r, .ref a4_r, .ref r_S_closures, .int S_frames, .ref r_S_handlerFrames, .ref r_S_handlerPlaces, .ref r_S_handlerHeights, .ref r_S_handlerDepths, .int S_handlers])), (r_S_bases, .inl (cI, n_S_bases, .inl f_S_bases)), (a2_r, .inl (cI, z2_1, .inl z2_2)), (r_S_floors, .inl (cI, n_S_floors, .inl f_S_floors)), (a3_r, .inl (cI, z3_1, .inl z3_2)), (r_S_returns, .inl (cI, n_S_returns, .inl f_S_returns)), (a4_r, .inl (cI, z4_1, .inl z4_2)), (r_S_closures, .inl (cL, n_S_closures, .inr (.inl f_S_closures))), (a5_r, .inl (cL, z5_1, .inr (.inl z5_2)))] := hD
  refine va_put (D := (dC, dI)) (ci := 2) (v := .ref a5_r) (ty := .array .long) (C := R_Stacks) (T := F_Stacks) (N := 12) hx hb hg i_Stacks t_Stacks t_Stacks_ok n_Stacks hown hK hP hD hS 0 rfl rfl 5 (by decide) (hg _ k59) (fun _ h9 => h9) rfl (by decide +kernel) rfl rfl (Nat.le_of_ble_eq_true rfl) d_Stacks_widenFrames_63 (fun H locs hP hD hS => ?_)
  have hP : va_P (dC, dI) classes [(o_Stacks, .inr (2, [.ref r_S_values, .int S_top, .ref a2_r, .ref a3_r, .ref a4_r, .ref a5_r, .int S_frames, .ref r_S_handlerFrames, .ref r_S_handlerPlaces, .ref r_S_handlerHeights, .ref r_S_handlerDepths, .int S_handlers])), (r_S_bases, .inl (cI, n_S_bases, .inl f_S_bases)), (a2_r, .inl (cI, z2_1, .inl z2_2)), (r_S_floors, .inl (cI, n_S_floors, .inl f_S_floors)), (a3_r, .inl (cI, z3_1, .inl z3_2)), (r_S_returns, .inl (cI, n_S_returns, .inl f_S_returns)), (a4_r, .inl (cI, z4_1, .inl z4_2)), (r_S_closures, .inl (cL, n_S_closures, .inr (.inl f_S_closures))), (a5_r, .inl (cL, z5_1, .inr (.inl z5_2)))] H := hP
  have hD : va_D A [(o_Stacks, .inr (2, [.ref r_S_values, .int S_top, .ref a2_r, .ref a3_r, .ref a4_r, .ref a5_r, .int S_frames, .ref r_S_handlerFrames, .ref r_S_handlerPlaces, .ref r_S_handlerHeights, .ref r_S_handlerDepths, .int S_handlers])), (r_S_bases, .inl (cI, n_S_bases, .inl f_S_bases)), (a2_r, .inl (cI, z2_1, .inl z2_2)), (r_S_floors, .inl (cI, n_S_floors, .inl f_S_floors)), (a3_r, .inl (cI, z3_1, .inl z3_2)), (r_S_returns, .inl (cI, n_S_returns, .inl f_S_returns)), (a4_r, .inl (cI, z4_1, .inl z4_2)), (r_S_closures, .inl (cL, n_S_closures, .inr (.inl f_S_closures))), (a5_r, .inl (cL, z5_1, .inr (.inl z5_2)))] := hD
  obtain rfl := Option.some.inj h
  have hP9 := hP.sub (ws' := [(o_Stacks, .inr (2, [.ref r_S_values, .int S_top, .ref a2_r, .ref a3_r, .ref a4_r, .ref a5_r, .int S_frames, .ref r_S_handlerFrames, .ref r_S_handlerPlaces, .ref r_S_handlerHeights, .ref r_S_handlerDepths, .int S_handlers])), (a2_r, .inl (cI, z2_1, .inl z2_2)), (a3_r, .inl (cI, z3_1, .inl z3_2)), (a4_r, .inl (cI, z4_1, .inl z4_2)), (a5_r, .inl (cL, z5_1, .inr (.inl z5_2)))]) [0, 2, 4, 6, 8] rfl
  have hD9 := hD.sub (ws' := [(o_Stacks, .inr (2, [.ref r_S_values, .int S_top, .ref a2_r, .ref a3_r, .ref a4_r, .ref a5_r, .int S_frames, .ref r_S_handlerFrames, .ref r_S_handlerPlaces, .ref r_S_handlerHeights, .ref r_S_handlerDepths, .int S_handlers])), (a2_r, .inl (cI, z2_1, .inl z2_2)), (a3_r, .inl (cI, z3_1, .inl z3_2)), (a4_r, .inl (cI, z4_1, .inl z4_2)), (a5_r, .inl (cL, z5_1, .inr (.inl z5_2)))]) [0, 2, 4, 6, 8] (by decide) rfl
  have hK9 := hK.sub (tys' := [(cI, .int), (cL, .long)]) [0, 1] rfl
  refine W.widen (dz_Gc hG) (dz_Gs hG) ?_
  obtain ⟨rfl, -, -⟩ := hG
  exact W.vret hx hb hr (fun t ht hW => ⟨⟨(a2_r, a5_r, a3_r, a4_r), rfl, trivial, by rw [ht]; exact hP9, va_K.moved hW.alike hK9, hD9⟩, hS.F ht⟩) hS.2.2 d_Stacks_widenFrames_66

set_option maxHeartbeats 4000000 in
set_option maxRecDepth 100000 in
theorem c_Stacks_enter (l : Launch) (dC : Nat → ClassId) (dI : Nat → Nat → Nat) (N : Nat) (cI : ClassId) (cL : ClassId) (o_Stacks : Nat) (r_S_values : Nat) (r_S_bases : Nat) (r_S_floors : Nat) (r_S_returns : Nat) (r_S_closures : Nat) (r_S_handlerFrames : Nat) (r_S_handlerPlaces : Nat) (r_S_handlerHeights : Nat) (r_S_handlerDepths : Nat) (S_top : Int32) (S_frames : Int32) (S_handlers : Int32) (n_S_values : Nat) (f_S_values : Nat → Int64) (n_S_bases : Nat) (f_S_bases : Nat → Int32) (n_S_floors : Nat) (f_S_floors : Nat → Int32) (n_S_returns : Nat) (f_S_returns : Nat → Int32) (n_S_closures : Nat) (f_S_closures : Nat → Int64) (p0 : Int32) (sz : Nat) (Z1 : Int32 × (Nat → Int64) × Int32 × Int32 × Nat × (Nat → Int32) × Nat × (Nat → Int64) × Nat × (Nat → Int32) × Nat × (Nat → Int32)) (Zc Zs : Nat) (h : m_Stacks_enter N S_top S_frames S_handlers n_S_values f_S_values n_S_bases f_S_bases n_S_floors f_S_floors n_S_returns f_S_returns n_S_closures f_S_closures p0 = some (Z1, Zc, Zs)) : Met l y_Stacks_enter (.code y_Stacks_enter b_Stacks_enter 4 (some .int) :: lw_g) ({ frames := 3, cells := Zc, slots := Zs, locals := 103 }) (va_Pc [.ref o_Stacks, .int p0] (fun U => dz_N U ∧ U.heap.size = sz ∧ va_P (dC, dI) classes [(o_Stacks, .inr (2, [.ref r_S_values, .int S_top, .ref r_S_bases, .ref r_S_floors, .ref r_S_returns, .ref r_S_closures, .int S_frames, .ref r_S_handlerFrames, .ref r_S_handlerPlaces, .ref r_S_handlerHeights, .ref r_S_handlerDepths, .int S_handlers])), (r_S_values, .inl (cL, n_S_values, .inr (.inl f_S_values))), (r_S_bases, .inl (cI, n_S_bases, .inl f_S_bases)), (r_S_floors, .inl (cI, n_S_floors, .inl f_S_floors)), (r_S_returns, .inl (cI, n_S_returns, .inl f_S_returns)), (r_S_closures, .inl (cL, n_S_closures, .inr (.inl f_S_closures)))] U.heap ∧ va_K (dC, dI) classes [(cI, .int), (cL, .long)] U ∧ va_D (fun _ => True) [(o_Stacks, .inr (2, [.ref r_S_values, .int S_top, .ref r_S_bases, .ref r_S_floors, .ref r_S_returns, .ref r_S_closures, .int S_frames, .ref r_S_handlerFrames, .ref r_S_handlerPlaces, .ref r_S_handlerHeights, .ref r_S_handlerDepths, .int S_handlers])), (r_S_values, .inl (cL, n_S_values, .inr (.inl f_S_values))), (r_S_bases, .inl (cI, n_S_bases, .inl f_S_bases)), (r_S_floors, .inl (cI, n_S_floors, .inl f_S_floors)), (r_S_returns, .inl (cI, n_S_returns, .inl f_S_returns)), (r_S_closures, .inl (cL, n_S_closures, .inr (.inl f_S_closures)))])) (va_Qi (fun (r : Int32) (_ : Nat × Nat × Nat × Nat) => r = Z1.1) (fun (u : Nat × Nat × Nat × Nat) t => va_P (dC, dI) classes [(o_Stacks, .inr (2, [.ref r_S_values, .int Z1.2.2.2.1, .ref u.1, .ref u.2.2.1, .ref u.2.2.2, .ref u.2.1, .int Z1.2.2.1, .ref r_S_handlerFrames, .ref r_S_handlerPlaces, .ref r_S_handlerHeights, .ref r_S_handlerDepths, .int S_handlers])), (r_S_values, .inl (cL, n_S_values, .inr (.inl Z1.2.1))), (u.1, .inl (cI, Z1.2.2.2.2.1, .inl Z1.2.2.2.2.2.1)), (u.2.2.1, .inl (cI, Z1.2.2.2.2.2.2.2.2.1, .inl Z1.2.2.2.2.2.2.2.2.2.1)), (u.2.2.2, .inl (cI, Z1.2.2.2.2.2.2.2.2.2.2.1, .inl Z1.2.2.2.2.2.2.2.2.2.2.2)), (u.2.1, .inl (cL, Z1.2.2.2.2.2.2.1, .inr (.inl Z1.2.2.2.2.2.2.2.1)))] t.heap ∧ va_K (dC, dI) classes [(cI, .int), (cL, .long)] t ∧ va_D (va_A [(o_Stacks, .inr (2, [.ref r_S_values, .int S_top, .ref r_S_bases, .ref r_S_floors, .ref r_S_returns, .ref r_S_closures, .int S_frames, .ref r_S_handlerFrames, .ref r_S_handlerPlaces, .ref r_S_handlerHeights, .ref r_S_handlerDepths, .int S_handlers])), (r_S_values, .inl (cL, n_S_values, .inr (.inl f_S_values))), (r_S_bases, .inl (cI, n_S_bases, .inl f_S_bases)), (r_S_floors, .inl (cI, n_S_floors, .inl f_S_floors)), (r_S_returns, .inl (cI, n_S_returns, .inl f_S_returns)), (r_S_closures, .inl (cL, n_S_closures, .inr (.inl f_S_closures)))] sz) [(o_Stacks, .inr (2, [.ref r_S_values, .int Z1.2.2.2.1, .ref u.1, .ref u.2.2.1, .ref u.2.2.2, .ref u.2.1, .int Z1.2.2.1, .ref r_S_handlerFrames, .ref r_S_handlerPlaces, .ref r_S_handlerHeights, .ref r_S_handlerDepths, .int S_handlers])), (r_S_values, .inl (cL, n_S_values, .inr (.inl Z1.2.1))), (u.1, .inl (cI, Z1.2.2.2.2.1, .inl Z1.2.2.2.2.2.1)), (u.2.2.1, .inl (cI, Z1.2.2.2.2.2.2.2.2.1, .inl Z1.2.2.2.2.2.2.2.2.2.1)), (u.2.2.2, .inl (cI, Z1.2.2.2.2.2.2.2.2.2.2.1, .inl Z1.2.2.2.2.2.2.2.2.2.2.2)), (u.2.1, .inl (cL, Z1.2.2.2.2.2.2.1, .inr (.inl Z1.2.2.2.2.2.2.2.1)))]) (va_A [(o_Stacks, .inr (2, [.ref r_S_values, .int S_top, .ref r_S_bases, .ref r_S_floors, .ref r_S_returns, .ref r_S_closures, .int S_frames, .ref r_S_handlerFrames, .ref r_S_handlerPlaces, .ref r_S_handlerHeights, .ref r_S_handlerDepths, .int S_handlers])), (r_S_values, .inl (cL, n_S_values, .inr (.inl f_S_values))), (r_S_bases, .inl (cI, n_S_bases, .inl f_S_bases)), (r_S_floors, .inl (cI, n_S_floors, .inl f_S_floors)), (r_S_returns, .inl (cI, n_S_returns, .inl f_S_returns)), (r_S_closures, .inl (cL, n_S_closures, .inr (.inl f_S_closures)))] sz)) Zc Zs (va_A [(o_Stacks, .inr (2, [.ref r_S_values, .int S_top, .ref r_S_bases, .ref r_S_floors, .ref r_S_returns, .ref r_S_closures, .int S_frames, .ref r_S_handlerFrames, .ref r_S_handlerPlaces, .ref r_S_handlerHeights, .ref r_S_handlerDepths, .int S_handlers])), (r_S_values, .inl (cL, n_S_values, .inr (.inl f_S_values))), (r_S_bases, .inl (cI, n_S_bases, .inl f_S_bases)), (r_S_floors, .inl (cI, n_S_floors, .inl f_S_floors)), (r_S_returns, .inl (cI, n_S_returns, .inl f_S_returns)), (r_S_closures, .inl (cL, n_S_closures, .inr (.inl f_S_closures)))] sz) := by
  refine Met.ofW (cc := b_Stacks_enter) (maxL := 4) (ret := (some .int)) (by decide +kernel) rfl ?_
  intro p e s m args below meth c s₁ B hml hv
  obtain ⟨rfl, hN, hsz, hP, hK, hD0⟩ := hv
  have hx := B.exec
  have hb := B.bytes
  have hr := B.returns
  have hg : ∀ w ∈ lw_g, w.before _ s = true := fun w hw => atoms_spec (ws := .code y_Stacks_enter b_Stacks_enter 4 (some .int) :: lw_g) B.pre w (List.mem_cons_of_mem _ hw)
  have hown : s.vm.findClass R_Stacks = some m.cls := findClass_of_methodNamed B.named
  have hlocks := B.notSynchronized
  clear B
  subst hsz
  have hD := hD0.self (sz := s.heap.size)
  generalize hAe : va_A [(o_Stacks, .inr (2, [.ref r_S_values, .int S_top, .ref r_S_bases, .ref r_S_floors, .ref r_S_returns, .ref r_S_closures, .int S_frames, .ref r_S_handlerFrames, .ref r_S_handlerPlaces, .ref r_S_handlerHeights, .ref r_S_handlerDepths, .int S_handlers])), (r_S_values, .inl (cL, n_S_values, .inr (.inl f_S_values))), (r_S_bases, .inl (cI, n_S_bases, .inl f_S_bases)), (r_S_floors, .inl (cI, n_S_floors, .inl f_S_floors)), (r_S_returns, .inl (cI, n_S_returns, .inl f_S_returns)), (r_S_closures, .inl (cL, n_S_closures, .inr (.inl f_S_closures)))] s.heap.size = A at hD ⊢
  have hA : ∀ q : Nat, s.heap.size ≤ q → A q := fun q h => by rw [← hAe]; exact Or.inr h
  have hS : va_S A s.heap s.heap [] := va_S.rf
  have hP : va_P (dC, dI) classes [(o_Stacks, .inr (2, [.ref r_S_values, .int S_top, .ref r_S_bases, .ref r_S_floors, .ref r_S_returns, .ref r_S_closures, .int S_frames, .ref r_S_handlerFrames, .ref r_S_handlerPlaces, .ref r_S_handlerHeights, .ref r_S_handlerDepths, .int S_handlers])), (r_S_values, .inl (cL, n_S_values, .inr (.inl f_S_values))), (r_S_bases, .inl (cI, n_S_bases, .inl f_S_bases)), (r_S_floors, .inl (cI, n_S_floors, .inl f_S_floors)), (r_S_returns, .inl (cI, n_S_returns, .inl f_S_returns)), (r_S_closures, .inl (cL, n_S_closures, .inr (.inl f_S_closures)))] s.heap := hP
  have hl := lv_entry ([.ref o_Stacks, .int p0]) (n := 4) (Nat.le_of_ble_eq_true rfl)
  rw [lg_entry_eq]
  generalize (lg_sl ([.ref o_Stacks, .int p0]) ++ List.replicate (4 - (lg_sl ([.ref o_Stacks, .int p0])).length) Slot.unset).toArray = ls at hl ⊢
  have hl : lv_has ls 4 [(0, .ref o_Stacks), (1, .int p0)] := hl
  unfold m_Stacks_enter at h
  have hG : dz_G Z1 Zc Zs (Z1, Zc, Zs) 0 0 := ⟨rfl, (Nat.zero_add _).symm, (Nat.zero_add _).symm⟩
  generalize (Z1, Zc, Zs) = z at h hG
  refine lv_aload_n hx hb d_Stacks_enter_0 rfl (lv_at hl 0 rfl) ?_
  refine va_get (D := (dC, dI)) (ci := 2) (v := .int S_frames) (C := R_Stacks) (T := F_Stacks) (N := 12) hx hb hg i_Stacks hown hK hP 0 rfl rfl 6 (by decide) (hg _ k54) (fun _ h9 => h9) rfl d_Stacks_enter_1 ?_
  refine lv_sipush (v := 8192) hx hb d_Stacks_enter_4 (by decide) ?_
  refine lv_icmp_lt (tgt := 12) hx hb d_Stacks_enter_7 (by decide) (fun c1 => ?_) (fun c1 => ?_)
  · rw [if_pos c1] at h
    refine lv_aload_n hx hb d_Stacks_enter_12 rfl (lv_at hl 0 rfl) ?_
    refine va_get (D := (dC, dI)) (ci := 2) (v := .int S_frames) (C := R_Stacks) (T := F_Stacks) (N := 12) hx hb hg i_Stacks hown hK hP 0 rfl rfl 6 (by decide) (hg _ k54) (fun _ h9 => h9) rfl d_Stacks_enter_13 ?_
    refine lv_aload_n hx hb d_Stacks_enter_16 rfl (lv_at hl 0 rfl) ?_
    refine va_get (D := (dC, dI)) (ci := 2) (v := .ref r_S_bases) (C := R_Stacks) (T := F_Stacks) (N := 12) hx hb hg i_Stacks hown hK hP 0 rfl rfl 2 (by decide) (hg _ k56) (fun _ h9 => h9) rfl d_Stacks_enter_17 ?_
    refine va_alen (D := (dC, dI)) (v := Int32.ofNat n_S_bases) hx hb hK hP 2 0 rfl rfl rfl d_Stacks_enter_20 ?_
    refine lv_icmp_lt (tgt := 28) hx hb d_Stacks_enter_21 (by decide) (fun c2 => ?_) (fun c2 => ?_)
    · rw [if_pos c2] at h
      refine lv_aload_n hx hb d_Stacks_enter_28 rfl (lv_at hl 0 rfl) ?_
      refine lv_iconst (v := 0) hx hb d_Stacks_enter_29 (by decide) ?_
      obtain ⟨z3_1, hc3, h⟩ := dz_ob h
      try dsimp only at h
      have hPc := hP.sub (ws' := [(o_Stacks, .inr (2, [.ref r_S_values, .int S_top, .ref r_S_bases, .ref r_S_floors, .ref r_S_returns, .ref r_S_closures, .int S_frames, .ref r_S_handlerFrames, .ref r_S_handlerPlaces, .ref r_S_handlerHeights, .ref r_S_handlerDepths, .int S_handlers])), (r_S_values, .inl (cL, n_S_values, .inr (.inl f_S_values)))]) [0, 1] rfl
      have hKc := hK.sub (tys' := [(cL, .long)]) [1] rfl
      refine vp_callSl (va_Run.run (va_runV (As := [.int 0]) (rest := []) ⟨hx, hb, hml, hown, hg⟩ (c_Stacks_peek l dC dI N cL o_Stacks r_S_values r_S_bases r_S_floors r_S_returns r_S_closures r_S_handlerFrames r_S_handlerPlaces r_S_handlerHeights r_S_handlerDepths S_top S_frames S_handlers n_S_values f_S_values (0 : Int32) z3_1 hc3) (cwV 1 hg (gd_V k87 k88 k89 k64 k86) rfl rfl rfl (by decide +kernel) ⟨Nat.le_of_ble_eq_true rfl, Nat.le_of_ble_eq_true rfl⟩) ⟨dz_blindR, va_recv hKc hPc (ci := 2) (q0 := 0) rfl rfl, fun U hU hW => ⟨rfl, dz_Nw hW hN, by rw [hU]; exact hPc, va_K.moved hW.alike hKc⟩⟩ rfl rfl hl.1 rfl (lv_room (Nat.le_of_ble_eq_true rfl)) d_Stacks_enter_30 ⟨dz_Gc hG, dz_Gs hG⟩)) (fun r3 hw => ?_)
      have hw : z3_1 = r3 := hw.symm
      subst hw
      refine lv_lstore_n (lv' := [(2, .long z3_1), (0, .ref o_Stacks), (1, .int p0)]) hx hb d_Stacks_enter_33 rfl hl (by decide) rfl (fun ls hl => ?_)
      refine lv_aload_n hx hb d_Stacks_enter_34 rfl (lv_at hl 1 rfl) ?_
      refine va_get (D := (dC, dI)) (ci := 2) (v := .ref r_S_closures) (C := R_Stacks) (T := F_Stacks) (N := 12) hx hb hg i_Stacks hown hK hP 0 rfl rfl 5 (by decide) (hg _ k59) (fun _ h9 => h9) rfl d_Stacks_enter_35 ?_
      refine lv_aload_n hx hb d_Stacks_enter_38 rfl (lv_at hl 1 rfl) ?_
      refine va_get (D := (dC, dI)) (ci := 2) (v := .int S_frames) (C := R_Stacks) (T := F_Stacks) (N := 12) hx hb hg i_Stacks hown hK hP 0 rfl rfl 6 (by decide) (hg _ k54) (fun _ h9 => h9) rfl d_Stacks_enter_39 ?_
      refine lv_aload_n hx hb d_Stacks_enter_42 rfl (lv_at hl 1 rfl) ?_
      refine lv_iconst (v := 1) hx hb d_Stacks_enter_43 (by decide) ?_
      obtain ⟨z4_1, hc4, h⟩ := dz_ob h
      try dsimp only at h
      have hPc := hP.sub (ws' := [(o_Stacks, .inr (2, [.ref r_S_values, .int S_top, .ref r_S_bases, .ref r_S_floors, .ref r_S_returns, .ref r_S_closures, .int S_frames, .ref r_S_handlerFrames, .ref r_S_handlerPlaces, .ref r_S_handlerHeights, .ref r_S_handlerDepths, .int S_handlers])), (r_S_values, .inl (cL, n_S_values, .inr (.inl f_S_values)))]) [0, 1] rfl
      have hKc := hK.sub (tys' := [(cL, .long)]) [1] rfl
      refine vp_callSl (va_Run.run (va_runV (As := [.int 1]) (rest := [.int S_frames, .ref r_S_closures]) ⟨hx, hb, hml, hown, hg⟩ (c_Stacks_peek l dC dI N cL o_Stacks r_S_values r_S_bases r_S_floors r_S_returns r_S_closures r_S_handlerFrames r_S_handlerPlaces r_S_handlerHeights r_S_handlerDepths S_top S_frames S_handlers n_S_values f_S_values (1 : Int32) z4_1 hc4) (cwV 1 hg (gd_V k87 k88 k89 k64 k86) rfl rfl rfl (by decide +kernel) ⟨Nat.le_of_ble_eq_true rfl, Nat.le_of_ble_eq_true rfl⟩) ⟨dz_blindR, va_recv hKc hPc (ci := 2) (q0 := 0) rfl rfl, fun U hU hW => ⟨rfl, dz_Nw hW hN, by rw [hU]; exact hPc, va_K.moved hW.alike hKc⟩⟩ rfl rfl hl.1 rfl (lv_room (Nat.le_of_ble_eq_true rfl)) d_Stacks_enter_44 ⟨dz_Gc hG, dz_Gs hG⟩)) (fun r4 hw => ?_)
      have hw : z4_1 = r4 := hw.symm
      subst hw
      obtain ⟨i5, h⟩ := dz_oi h
      refine va_last (D := (dC, dI)) hx hb hK hP hD hS 5 1 rfl rfl i5 d_Stacks_enter_47 (fun H locs hP hD hS => ?_)
      have hP : va_P (dC, dI) classes [(o_Stacks, .inr (2, [.ref r_S_values, .int S_top, .ref r_S_bases, .ref r_S_floors, .ref r_S_returns, .ref r_S_closures, .int S_frames, .ref r_S_handlerFrames, .ref r_S_handlerPlaces, .ref r_S_handlerHeights, .ref r_S_handlerDepths, .int S_handlers])), (r_S_values, .inl (cL, n_S_values, .inr (.inl f_S_values))), (r_S_bases, .inl (cI, n_S_bases, .inl f_S_bases)), (r_S_floors, .inl (cI, n_S_floors, .inl f_S_floors)), (r_S_returns, .inl (cI, n_S_returns, .inl f_S_returns)), (r_S_closures, .inl (cL, n_S_closures, .inr (.inl (vp_updL f_S_closures S_frames.toNatClampNeg z4_1))))] H := hP
      have hD : va_D A [(o_Stacks, .inr (2, [.ref r_S_values, .int S_top, .ref r_S_bases, .ref r_S_floors, .ref r_S_returns, .ref r_S_closures, .int S_frames, .ref r_S_handlerFrames, .ref r_S_handlerPlaces, .ref r_S_handlerHeights, .ref r_S_handlerDepths, .int S_handlers])), (r_S_values, .inl (cL, n_S_values, .inr (.inl f_S_values))), (r_S_bases, .inl (cI, n_S_bases, .inl f_S_bases)), (r_S_floors, .inl (cI, n_S_floors, .inl f_S_floors)), (r_S_returns, .inl (cI, n_S_returns, .inl f_S_returns)), (r_S_closures, .inl (cL, n_S_closures, .inr (.inl (vp_updL f_S_closures S_frames.toNatClampNeg z4_1))))] := hD
      refine lv_aload_n hx hb d_Stacks_enter_48 rfl (lv_at hl 1 rfl) ?_
      refine lv_iconst (v := 2) hx hb d_Stacks_enter_49 (by decide) ?_
      refine lv_lload_n hx hb d_Stacks_enter_50 rfl (lv_at hl 0 rfl) ?_
      obtain ⟨⟨z6_1, z6_2, z6_3⟩, hc6, h⟩ := dz_ob h
      try dsimp only at h
      have hPc := hP.sub (ws' := [(o_Stacks, .inr (2, [.ref r_S_values, .int S_top, .ref r_S_bases, .ref r_S_floors, .ref r_S_returns, .ref r_S_closures, .int S_frames, .ref r_S_handlerFrames, .ref r_S_handlerPlaces, .ref r_S_handlerHeights, .ref r_S_handlerDepths, .int S_handlers])), (r_S_values, .inl (cL, n_S_values, .inr (.inl f_S_values)))]) [0, 1] rfl
      have hKc := hK.sub (tys' := [(cL, .long)]) [1] rfl
      have hDc := hD.sub (ws' := [(o_Stacks, .inr (2, [.ref r_S_values, .int S_top, .ref r_S_bases, .ref r_S_floors, .ref r_S_returns, .ref r_S_closures, .int S_frames, .ref r_S_handlerFrames, .ref r_S_handlerPlaces, .ref r_S_handlerHeights, .ref r_S_handlerDepths, .int S_handlers])), (r_S_values, .inl (cL, n_S_values, .inr (.inl f_S_values)))]) [0, 1] (by decide) rfl
      have hFc := va_free (wc := [(o_Stacks, .inr (2, [.ref r_S_values, .int S_top, .ref r_S_bases, .ref r_S_floors, .ref r_S_returns, .ref r_S_closures, .int S_frames, .ref r_S_handlerFrames, .ref r_S_handlerPlaces, .ref r_S_handlerHeights, .ref r_S_handlerDepths, .int S_handlers])), (r_S_values, .inl (cL, n_S_values, .inr (.inl f_S_values)))]) hD hS hA [0, 1] rfl
      refine va_calli (va_runV (As := [.int 2, .long z3_1]) (rest := []) ⟨hx, hb, hml, hown, hg⟩ (c_Stacks_replace l dC dI N cL o_Stacks r_S_values r_S_bases r_S_floors r_S_returns r_S_closures r_S_handlerFrames r_S_handlerPlaces r_S_handlerHeights r_S_handlerDepths S_top S_frames S_handlers n_S_values f_S_values (2 : Int32) z3_1 H.size (z6_1, z6_2, z6_3) hc6) (cwV 2 hg (gd_V k92 k93 k94 k64 k91) rfl rfl rfl (by decide +kernel) ⟨Nat.le_of_ble_eq_true rfl, Nat.le_of_ble_eq_true rfl⟩) ⟨dz_blind, va_recv hKc hPc (ci := 2) (q0 := 0) rfl rfl, fun U hU hW => ⟨rfl, dz_Nw hW hN, by rw [hU], by rw [hU]; exact hPc, va_K.moved hW.alike hKc, hDc.weaken (fun _ _ _ _ => trivial)⟩⟩ rfl rfl hl.1 rfl (lv_room (Nat.le_of_ble_eq_true rfl)) d_Stacks_enter_51 ⟨dz_Gc hG, dz_Gs hG⟩) hS (fun q _ h => hFc q h) hFc (fun r6 u6 t6 H1 locs ht hvm hw hB hz1 hk1 hS => ?_)
      obtain ⟨hP1, hK1, hD1⟩ := hB
      rw [ht] at hP1
      obtain ⟨hP, hD⟩ := va_join (wr := [(r_S_bases, .inl (cI, n_S_bases, .inl f_S_bases)), (r_S_floors, .inl (cI, n_S_floors, .inl f_S_floors)), (r_S_returns, .inl (cI, n_S_returns, .inl f_S_returns)), (r_S_closures, .inl (cL, n_S_closures, .inr (.inl (vp_updL f_S_closures S_frames.toNatClampNeg z4_1))))]) (w1 := [(o_Stacks, .inr (2, [.ref r_S_values, .int z6_3, .ref r_S_bases, .ref r_S_floors, .ref r_S_returns, .ref r_S_closures, .int S_frames, .ref r_S_handlerFrames, .ref r_S_handlerPlaces, .ref r_S_handlerHeights, .ref r_S_handlerDepths, .int S_handlers])), (r_S_values, .inl (cL, n_S_values, .inr (.inl z6_2)))]) hP hD [0, 1] [2, 3, 4, 5] rfl rfl (by decide) (by decide) hk1 hFc hP1 hD1
      have hw : z6_1 = r6 := hw.symm
      subst hw
      generalize H1 = H at hP hS ⊢
      have hP : va_P (dC, dI) classes [(r_S_bases, .inl (cI, n_S_bases, .inl f_S_bases)), (r_S_floors, .inl (cI, n_S_floors, .inl f_S_floors)), (r_S_returns, .inl (cI, n_S_returns, .inl f_S_returns)), (r_S_closures, .inl (cL, n_S_closures, .inr (.inl (vp_updL f_S_closures S_frames.toNatClampNeg z4_1)))), (o_Stacks, .inr (2, [.ref r_S_values, .int z6_3, .ref r_S_bases, .ref r_S_floors, .ref r_S_returns, .ref r_S_closures, .int S_frames, .ref r_S_handlerFrames, .ref r_S_handlerPlaces, .ref r_S_handlerHeights, .ref r_S_handlerDepths, .int S_handlers])), (r_S_values, .inl (cL, n_S_values, .inr (.inl z6_2)))] H := hP
      have hD : va_D A [(r_S_bases, .inl (cI, n_S_bases, .inl f_S_bases)), (r_S_floors, .inl (cI, n_S_floors, .inl f_S_floors)), (r_S_returns, .inl (cI, n_S_returns, .inl f_S_returns)), (r_S_closures, .inl (cL, n_S_closures, .inr (.inl (vp_updL f_S_closures S_frames.toNatClampNeg z4_1)))), (o_Stacks, .inr (2, [.ref r_S_values, .int z6_3, .ref r_S_bases, .ref r_S_floors, .ref r_S_returns, .ref r_S_closures, .int S_frames, .ref r_S_handlerFrames, .ref r_S_handlerPlaces, .ref r_S_handlerHeights, .ref r_S_handlerDepths, .int S_handlers])), (r_S_values, .inl (cL, n_S_values, .inr (.inl z6_2)))] := hD
      refine lv_pop hx hb d_Stacks_enter_54 rfl ?_
      refine lv_aload_n hx hb d_Stacks_enter_55 rfl (lv_at hl 1 rfl) ?_
      refine va_get (D := (dC, dI)) (ci := 2) (v := .ref r_S_bases) (C := R_Stacks) (T := F_Stacks) (N := 12) hx hb hg i_Stacks hown hK hP 4 rfl rfl 2 (by decide) (hg _ k56) (fun _ h9 => h9) rfl d_Stacks_enter_56 ?_
      refine lv_aload_n hx hb d_Stacks_enter_59 rfl (lv_at hl 1 rfl) ?_
      refine va_get (D := (dC, dI)) (ci := 2) (v := .int S_frames) (C := R_Stacks) (T := F_Stacks) (N := 12) hx hb hg i_Stacks hown hK hP 4 rfl rfl 6 (by decide) (hg _ k54) (fun _ h9 => h9) rfl d_Stacks_enter_60 ?_
      refine lv_aload_n hx hb d_Stacks_enter_63 rfl (lv_at hl 1 rfl) ?_
      refine va_get (D := (dC, dI)) (ci := 2) (v := .int z6_3) (C := R_Stacks) (T := F_Stacks) (N := 12) hx hb hg i_Stacks hown hK hP 4 rfl rfl 1 (by decide) (hg _ k53) (fun _ h9 => h9) rfl d_Stacks_enter_64 ?_
      refine lv_iconst (v := 1) hx hb d_Stacks_enter_67 (by decide) ?_
      refine lv_isub hx hb d_Stacks_enter_68 ?_
      obtain ⟨i7, h⟩ := dz_oi h
      refine va_iast (D := (dC, dI)) hx hb hK hP hD hS 0 0 rfl rfl i7 d_Stacks_enter_69 (fun H locs hP hD hS => ?_)
      have hP : va_P (dC, dI) classes [(r_S_bases, .inl (cI, n_S_bases, .inl (upd f_S_bases S_frames.toNatClampNeg (z6_3 - 1)))), (r_S_floors, .inl (cI, n_S_floors, .inl f_S_floors)), (r_S_returns, .inl (cI, n_S_returns, .inl f_S_returns)), (r_S_closures, .inl (cL, n_S_closures, .inr (.inl (vp_updL f_S_closures S_frames.toNatClampNeg z4_1)))), (o_Stacks, .inr (2, [.ref r_S_values, .int z6_3, .ref r_S_bases, .ref r_S_floors, .ref r_S_returns, .ref r_S_closures, .int S_frames, .ref r_S_handlerFrames, .ref r_S_handlerPlaces, .ref r_S_handlerHeights, .ref r_S_handlerDepths, .int S_handlers])), (r_S_values, .inl (cL, n_S_values, .inr (.inl z6_2)))] H := hP
      have hD : va_D A [(r_S_bases, .inl (cI, n_S_bases, .inl (upd f_S_bases S_frames.toNatClampNeg (z6_3 - 1)))), (r_S_floors, .inl (cI, n_S_floors, .inl f_S_floors)), (r_S_returns, .inl (cI, n_S_returns, .inl f_S_returns)), (r_S_closures, .inl (cL, n_S_closures, .inr (.inl (vp_updL f_S_closures S_frames.toNatClampNeg z4_1)))), (o_Stacks, .inr (2, [.ref r_S_values, .int z6_3, .ref r_S_bases, .ref r_S_floors, .ref r_S_returns, .ref r_S_closures, .int S_frames, .ref r_S_handlerFrames, .ref r_S_handlerPlaces, .ref r_S_handlerHeights, .ref r_S_handlerDepths, .int S_handlers])), (r_S_values, .inl (cL, n_S_values, .inr (.inl z6_2)))] := hD
      refine lv_aload_n hx hb d_Stacks_enter_70 rfl (lv_at hl 1 rfl) ?_
      refine va_get (D := (dC, dI)) (ci := 2) (v := .ref r_S_floors) (C := R_Stacks) (T := F_Stacks) (N := 12) hx hb hg i_Stacks hown hK hP 4 rfl rfl 3 (by decide) (hg _ k57) (fun _ h9 => h9) rfl d_Stacks_enter_71 ?_
      refine lv_aload_n hx hb d_Stacks_enter_74 rfl (lv_at hl 1 rfl) ?_
      refine va_get (D := (dC, dI)) (ci := 2) (v := .int S_frames) (C := R_Stacks) (T := F_Stacks) (N := 12) hx hb hg i_Stacks hown hK hP 4 rfl rfl 6 (by decide) (hg _ k54) (fun _ h9 => h9) rfl d_Stacks_enter_75 ?_
      refine lv_aload_n hx hb d_Stacks_enter_78 rfl (lv_at hl 1 rfl) ?_
      refine va_get (D := (dC, dI)) (ci := 2) (v := .int z6_3) (C := R_Stacks) (T := F_Stacks) (N := 12) hx hb hg i_Stacks hown hK hP 4 rfl rfl 1 (by decide) (hg _ k53) (fun _ h9 => h9) rfl d_Stacks_enter_79 ?_
      obtain ⟨i8, h⟩ := dz_oi h
      refine va_iast (D := (dC, dI)) hx hb hK hP hD hS 1 0 rfl rfl i8 d_Stacks_enter_82 (fun H locs hP hD hS => ?_)
      have hP : va_P (dC, dI) classes [(r_S_bases, .inl (cI, n_S_bases, .inl (upd f_S_bases S_frames.toNatClampNeg (z6_3 - 1)))), (r_S_floors, .inl (cI, n_S_floors, .inl (upd f_S_floors S_frames.toNatClampNeg z6_3))), (r_S_returns, .inl (cI, n_S_returns, .inl f_S_returns)), (r_S_closures, .inl (cL, n_S_closures, .inr (.inl (vp_updL f_S_closures S_frames.toNatClampNeg z4_1)))), (o_Stacks, .inr (2, [.ref r_S_values, .int z6_3, .ref r_S_bases, .ref r_S_floors, .ref r_S_returns, .ref r_S_closures, .int S_frames, .ref r_S_handlerFrames, .ref r_S_handlerPlaces, .ref r_S_handlerHeights, .ref r_S_handlerDepths, .int S_handlers])), (r_S_values, .inl (cL, n_S_values, .inr (.inl z6_2)))] H := hP
      have hD : va_D A [(r_S_bases, .inl (cI, n_S_bases, .inl (upd f_S_bases S_frames.toNatClampNeg (z6_3 - 1)))), (r_S_floors, .inl (cI, n_S_floors, .inl (upd f_S_floors S_frames.toNatClampNeg z6_3))), (r_S_returns, .inl (cI, n_S_returns, .inl f_S_returns)), (r_S_closures, .inl (cL, n_S_closures, .inr (.inl (vp_updL f_S_closures S_frames.toNatClampNeg z4_1)))), (o_Stacks, .inr (2, [.ref r_S_values, .int z6_3, .ref r_S_bases, .ref r_S_floors, .ref r_S_returns, .ref r_S_closures, .int S_frames, .ref r_S_handlerFrames, .ref r_S_handlerPlaces, .ref r_S_handlerHeights, .ref r_S_handlerDepths, .int S_handlers])), (r_S_values, .inl (cL, n_S_values, .inr (.inl z6_2)))] := hD
      refine lv_aload_n hx hb d_Stacks_enter_83 rfl (lv_at hl 1 rfl) ?_
      refine va_get (D := (dC, dI)) (ci := 2) (v := .ref r_S_returns) (C := R_Stacks) (T := F_Stacks) (N := 12) hx hb hg i_Stacks hown hK hP 4 rfl rfl 4 (by decide) (hg _ k58) (fun _ h9 => h9) rfl d_Stacks_enter_84 ?_
      refine lv_aload_n hx hb d_Stacks_enter_87 rfl (lv_at hl 1 rfl) ?_
      refine va_get (D := (dC, dI)) (ci := 2) (v := .int S_frames) (C := R_Stacks) (T := F_Stacks) (N := 12) hx hb hg i_Stacks hown hK hP 4 rfl rfl 6 (by decide) (hg _ k54) (fun _ h9 => h9) rfl d_Stacks_enter_88 ?_
      refine lv_iload_n hx hb d_Stacks_enter_91 rfl (lv_at hl 2 rfl) ?_
      obtain ⟨i9, h⟩ := dz_oi h
      refine va_iast (D := (dC, dI)) hx hb hK hP hD hS 2 0 rfl rfl i9 d_Stacks_enter_92 (fun H locs hP hD hS => ?_)
      have hP : va_P (dC, dI) classes [(r_S_bases, .inl (cI, n_S_bases, .inl (upd f_S_bases S_frames.toNatClampNeg (z6_3 - 1)))), (r_S_floors, .inl (cI, n_S_floors, .inl (upd f_S_floors S_frames.toNatClampNeg z6_3))), (r_S_returns, .inl (cI, n_S_returns, .inl (upd f_S_returns S_frames.toNatClampNeg p0))), (r_S_closures, .inl (cL, n_S_closures, .inr (.inl (vp_updL f_S_closures S_frames.toNatClampNeg z4_1)))), (o_Stacks, .inr (2, [.ref r_S_values, .int z6_3, .ref r_S_bases, .ref r_S_floors, .ref r_S_returns, .ref r_S_closures, .int S_frames, .ref r_S_handlerFrames, .ref r_S_handlerPlaces, .ref r_S_handlerHeights, .ref r_S_handlerDepths, .int S_handlers])), (r_S_values, .inl (cL, n_S_values, .inr (.inl z6_2)))] H := hP
      have hD : va_D A [(r_S_bases, .inl (cI, n_S_bases, .inl (upd f_S_bases S_frames.toNatClampNeg (z6_3 - 1)))), (r_S_floors, .inl (cI, n_S_floors, .inl (upd f_S_floors S_frames.toNatClampNeg z6_3))), (r_S_returns, .inl (cI, n_S_returns, .inl (upd f_S_returns S_frames.toNatClampNeg p0))), (r_S_closures, .inl (cL, n_S_closures, .inr (.inl (vp_updL f_S_closures S_frames.toNatClampNeg z4_1)))), (o_Stacks, .inr (2, [.ref r_S_values, .int z6_3, .ref r_S_bases, .ref r_S_floors, .ref r_S_returns, .ref r_S_closures, .int S_frames, .ref r_S_handlerFrames, .ref r_S_handlerPlaces, .ref r_S_handlerHeights, .ref r_S_handlerDepths, .int S_handlers])), (r_S_values, .inl (cL, n_S_values, .inr (.inl z6_2)))] := hD
      refine lv_aload_n hx hb d_Stacks_enter_93 rfl (lv_at hl 1 rfl) ?_
      refine lv_dup hx hb d_Stacks_enter_94 rfl ?_
      refine va_get (D := (dC, dI)) (ci := 2) (v := .int S_frames) (C := R_Stacks) (T := F_Stacks) (N := 12) hx hb hg i_Stacks hown hK hP 4 rfl rfl 6 (by decide) (hg _ k54) (fun _ h9 => h9) rfl d_Stacks_enter_95 ?_
      refine lv_iconst (v := 1) hx hb d_Stacks_enter_98 (by decide) ?_
      refine lv_iadd hx hb d_Stacks_enter_99 ?_
      refine va_put (D := (dC, dI)) (ci := 2) (v := .int (S_frames + 1)) (ty := .int) (C := R_Stacks) (T := F_Stacks) (N := 12) hx hb hg i_Stacks t_Stacks t_Stacks_ok n_Stacks hown hK hP hD hS 4 rfl rfl 6 (by decide) (hg _ k54) (fun _ h9 => h9) rfl (by decide +kernel) rfl rfl (Nat.le_of_ble_eq_true rfl) d_Stacks_enter_100 (fun H locs hP hD hS => ?_)
      have hP : va_P (dC, dI) classes [(r_S_bases, .inl (cI, n_S_bases, .inl (upd f_S_bases S_frames.toNatClampNeg (z6_3 - 1)))), (r_S_floors, .inl (cI, n_S_floors, .inl (upd f_S_floors S_frames.toNatClampNeg z6_3))), (r_S_returns, .inl (cI, n_S_returns, .inl (upd f_S_returns S_frames.toNatClampNeg p0))), (r_S_closures, .inl (cL, n_S_closures, .inr (.inl (vp_updL f_S_closures S_frames.toNatClampNeg z4_1)))), (o_Stacks, .inr (2, [.ref r_S_values, .int z6_3, .ref r_S_bases, .ref r_S_floors, .ref r_S_returns, .ref r_S_closures, .int (S_frames + 1), .ref r_S_handlerFrames, .ref r_S_handlerPlaces, .ref r_S_handlerHeights, .ref r_S_handlerDepths, .int S_handlers])), (r_S_values, .inl (cL, n_S_values, .inr (.inl z6_2)))] H := hP
      have hD : va_D A [(r_S_bases, .inl (cI, n_S_bases, .inl (upd f_S_bases S_frames.toNatClampNeg (z6_3 - 1)))), (r_S_floors, .inl (cI, n_S_floors, .inl (upd f_S_floors S_frames.toNatClampNeg z6_3))), (r_S_returns, .inl (cI, n_S_returns, .inl (upd f_S_returns S_frames.toNatClampNeg p0))), (r_S_closures, .inl (cL, n_S_closures, .inr (.inl (vp_updL f_S_closures S_frames.toNatClampNeg z4_1)))), (o_Stacks, .inr (2, [.ref r_S_values, .int z6_3, .ref r_S_bases, .ref r_S_floors, .ref r_S_returns, .ref r_S_closures, .int (S_frames + 1), .ref r_S_handlerFrames, .ref r_S_handlerPlaces, .ref r_S_handlerHeights, .ref r_S_handlerDepths, .int S_handlers])), (r_S_values, .inl (cL, n_S_values, .inr (.inl z6_2)))] := hD
      refine lv_iconst (v := 5) hx hb d_Stacks_enter_103 (by decide) ?_
      obtain rfl := Option.some.inj h
      have hP9 := hP.sub (ws' := [(o_Stacks, .inr (2, [.ref r_S_values, .int z6_3, .ref r_S_bases, .ref r_S_floors, .ref r_S_returns, .ref r_S_closures, .int (S_frames + 1), .ref r_S_handlerFrames, .ref r_S_handlerPlaces, .ref r_S_handlerHeights, .ref r_S_handlerDepths, .int S_handlers])), (r_S_values, .inl (cL, n_S_values, .inr (.inl z6_2))), (r_S_bases, .inl (cI, n_S_bases, .inl (upd f_S_bases S_frames.toNatClampNeg (z6_3 - 1)))), (r_S_floors, .inl (cI, n_S_floors, .inl (upd f_S_floors S_frames.toNatClampNeg z6_3))), (r_S_returns, .inl (cI, n_S_returns, .inl (upd f_S_returns S_frames.toNatClampNeg p0))), (r_S_closures, .inl (cL, n_S_closures, .inr (.inl (vp_updL f_S_closures S_frames.toNatClampNeg z4_1))))]) [4, 5, 0, 1, 2, 3] rfl
      have hD9 := hD.sub (ws' := [(o_Stacks, .inr (2, [.ref r_S_values, .int z6_3, .ref r_S_bases, .ref r_S_floors, .ref r_S_returns, .ref r_S_closures, .int (S_frames + 1), .ref r_S_handlerFrames, .ref r_S_handlerPlaces, .ref r_S_handlerHeights, .ref r_S_handlerDepths, .int S_handlers])), (r_S_values, .inl (cL, n_S_values, .inr (.inl z6_2))), (r_S_bases, .inl (cI, n_S_bases, .inl (upd f_S_bases S_frames.toNatClampNeg (z6_3 - 1)))), (r_S_floors, .inl (cI, n_S_floors, .inl (upd f_S_floors S_frames.toNatClampNeg z6_3))), (r_S_returns, .inl (cI, n_S_returns, .inl (upd f_S_returns S_frames.toNatClampNeg p0))), (r_S_closures, .inl (cL, n_S_closures, .inr (.inl (vp_updL f_S_closures S_frames.toNatClampNeg z4_1))))]) [4, 5, 0, 1, 2, 3] (by decide) rfl
      have hK9 := hK.sub (tys' := [(cI, .int), (cL, .long)]) [0, 1] rfl
      refine W.widen (dz_Gc hG) (dz_Gs hG) ?_
      obtain ⟨rfl, -, -⟩ := hG
      exact W.iret (v := 5) hx hb hr (fun t ht hW => ⟨⟨5, (r_S_bases, r_S_closures, r_S_floors, r_S_returns), rfl, rfl, by rw [ht]; exact hP9, va_K.moved hW.alike hK9, hD9⟩, hS.F ht⟩) hS.2.2 d_Stacks_enter_104
    · rw [if_neg c2] at h
      refine lv_aload_n hx hb d_Stacks_enter_24 rfl (lv_at hl 0 rfl) ?_
      obtain ⟨⟨⟨z10_1, z10_2, z10_3, z10_4, z10_5, z10_6, z10_7, z10_8⟩, zc10, zs10⟩, hc10, h⟩ := dz_ob h
      try dsimp only at h
      obtain ⟨z, h, hG⟩ := dz_tkG h hG
      have hPc := hP.sub (ws' := [(o_Stacks, .inr (2, [.ref r_S_values, .int S_top, .ref r_S_bases, .ref r_S_floors, .ref r_S_returns, .ref r_S_closures, .int S_frames, .ref r_S_handlerFrames, .ref r_S_handlerPlaces, .ref r_S_handlerHeights, .ref r_S_handlerDepths, .int S_handlers])), (r_S_bases, .inl (cI, n_S_bases, .inl f_S_bases)), (r_S_floors, .inl (cI, n_S_floors, .inl f_S_floors)), (r_S_returns, .inl (cI, n_S_returns, .inl f_S_returns)), (r_S_closures, .inl (cL, n_S_closures, .inr (.inl f_S_closures)))]) [0, 2, 3, 4, 5] rfl
      have hKc := hK.sub (tys' := [(cI, .int), (cL, .long)]) [0, 1] rfl
      have hDc := hD.sub (ws' := [(o_Stacks, .inr (2, [.ref r_S_values, .int S_top, .ref r_S_bases, .ref r_S_floors, .ref r_S_returns, .ref r_S_closures, .int S_frames, .ref r_S_handlerFrames, .ref r_S_handlerPlaces, .ref r_S_handlerHeights, .ref r_S_handlerDepths, .int S_handlers])), (r_S_bases, .inl (cI, n_S_bases, .inl f_S_bases)), (r_S_floors, .inl (cI, n_S_floors, .inl f_S_floors)), (r_S_returns, .inl (cI, n_S_returns, .inl f_S_returns)), (r_S_closures, .inl (cL, n_S_closures, .inr (.inl f_S_closures)))]) [0, 2, 3, 4, 5] (by decide) rfl
      have hFc := va_free (wc := [(o_Stacks, .inr (2, [.ref r_S_values, .int S_top, .ref r_S_bases, .ref r_S_floors, .ref r_S_returns, .ref r_S_closures, .int S_frames, .ref r_S_handlerFrames, .ref r_S_handlerPlaces, .ref r_S_handlerHeights, .ref r_S_handlerDepths, .int S_handlers])), (r_S_bases, .inl (cI, n_S_bases, .inl f_S_bases)), (r_S_floors, .inl (cI, n_S_floors, .inl f_S_floors)), (r_S_returns, .inl (cI, n_S_returns, .inl f_S_returns)), (r_S_closures, .inl (cL, n_S_closures, .inr (.inl f_S_closures)))]) hD hS hA [0, 2, 3, 4, 5] rfl
      refine va_callv (va_runV (As := []) (rest := []) ⟨hx, hb, hml, hown, hg⟩ (c_Stacks_widenFrames l dC dI N cI cL o_Stacks r_S_values r_S_bases r_S_floors r_S_returns r_S_closures r_S_handlerFrames r_S_handlerPlaces r_S_handlerHeights r_S_handlerDepths S_top S_frames S_handlers n_S_bases f_S_bases n_S_floors f_S_floors n_S_returns f_S_returns n_S_closures f_S_closures s.heap.size (z10_1, z10_2, z10_3, z10_4, z10_5, z10_6, z10_7, z10_8) zc10 zs10 hc10) (cwV 0 hg (gd_V k96 k97 k98 k64 k95) rfl rfl rfl (by decide +kernel) ⟨Nat.le_of_ble_eq_true rfl, Nat.le_of_ble_eq_true rfl⟩) ⟨dz_blind, va_recv hKc hPc (ci := 2) (q0 := 0) rfl rfl, fun U hU hW => ⟨rfl, dz_Nw hW hN, by rw [hU], by rw [hU]; exact hPc, va_K.moved hW.alike hKc, hDc.weaken (fun _ _ _ _ => trivial)⟩⟩ rfl rfl hl.1 rfl (lv_room (Nat.le_of_ble_eq_true rfl)) d_Stacks_enter_25 ⟨dz_Gc hG, dz_Gs hG⟩) hS (fun q _ h => hFc q h) hFc (fun u10 t10 H1 locs ht hvm hw hB hz1 hk1 hS => ?_)
      obtain ⟨a10_0, a10_1, a10_2, a10_3⟩ := u10
      obtain ⟨hP1, hK1, hD1⟩ := hB
      rw [ht] at hP1
      obtain ⟨hP, hD⟩ := va_join (wr := [(r_S_values, .inl (cL, n_S_values, .inr (.inl f_S_values)))]) (w1 := [(o_Stacks, .inr (2, [.ref r_S_values, .int S_top, .ref a10_0, .ref a10_2, .ref a10_3, .ref a10_1, .int S_frames, .ref r_S_handlerFrames, .ref r_S_handlerPlaces, .ref r_S_handlerHeights, .ref r_S_handlerDepths, .int S_handlers])), (a10_0, .inl (cI, z10_1, .inl z10_2)), (a10_2, .inl (cI, z10_5, .inl z10_6)), (a10_3, .inl (cI, z10_7, .inl z10_8)), (a10_1, .inl (cL, z10_3, .inr (.inl z10_4)))]) hP hD [0, 2, 3, 4, 5] [1] rfl rfl (by decide) (by decide) hk1 hFc hP1 hD1
      generalize H1 = H at hP hS ⊢
      have hP : va_P (dC, dI) classes [(r_S_values, .inl (cL, n_S_values, .inr (.inl f_S_values))), (o_Stacks, .inr (2, [.ref r_S_values, .int S_top, .ref a10_0, .ref a10_2, .ref a10_3, .ref a10_1, .int S_frames, .ref r_S_handlerFrames, .ref r_S_handlerPlaces, .ref r_S_handlerHeights, .ref r_S_handlerDepths, .int S_handlers])), (a10_0, .inl (cI, z10_1, .inl z10_2)), (a10_2, .inl (cI, z10_5, .inl z10_6)), (a10_3, .inl (cI, z10_7, .inl z10_8)), (a10_1, .inl (cL, z10_3, .inr (.inl z10_4)))] H := hP
      have hD : va_D A [(r_S_values, .inl (cL, n_S_values, .inr (.inl f_S_values))), (o_Stacks, .inr (2, [.ref r_S_values, .int S_top, .ref a10_0, .ref a10_2, .ref a10_3, .ref a10_1, .int S_frames, .ref r_S_handlerFrames, .ref r_S_handlerPlaces, .ref r_S_handlerHeights, .ref r_S_handlerDepths, .int S_handlers])), (a10_0, .inl (cI, z10_1, .inl z10_2)), (a10_2, .inl (cI, z10_5, .inl z10_6)), (a10_3, .inl (cI, z10_7, .inl z10_8)), (a10_1, .inl (cL, z10_3, .inr (.inl z10_4)))] := hD
      refine lv_aload_n hx hb d_Stacks_enter_28 rfl (lv_at hl 0 rfl) ?_
      refine lv_iconst (v := 0) hx hb d_Stacks_enter_29 (by decide) ?_
      obtain ⟨z11_1, hc11, h⟩ := dz_ob h
      try dsimp only at h
      have hPc := hP.sub (ws' := [(o_Stacks, .inr (2, [.ref r_S_values, .int S_top, .ref a10_0, .ref a10_2, .ref a10_3, .ref a10_1, .int S_frames, .ref r_S_handlerFrames, .ref r_S_handlerPlaces, .ref r_S_handlerHeights, .ref r_S_handlerDepths, .int S_handlers])), (r_S_values, .inl (cL, n_S_values, .inr (.inl f_S_values)))]) [1, 0] rfl
      have hKc := hK.sub (tys' := [(cL, .long)]) [1] rfl
      refine vp_callSl (va_Run.run (va_runV (As := [.int 0]) (rest := []) ⟨hx, hb, hml, hown, hg⟩ (c_Stacks_peek l dC dI N cL o_Stacks r_S_values a10_0 a10_2 a10_3 a10_1 r_S_handlerFrames r_S_handlerPlaces r_S_handlerHeights r_S_handlerDepths S_top S_frames S_handlers n_S_values f_S_values (0 : Int32) z11_1 hc11) (cwV 1 hg (gd_V k87 k88 k89 k64 k86) rfl rfl rfl (by decide +kernel) ⟨Nat.le_of_ble_eq_true rfl, Nat.le_of_ble_eq_true rfl⟩) ⟨dz_blindR, va_recv hKc hPc (ci := 2) (q0 := 0) rfl rfl, fun U hU hW => ⟨rfl, dz_Nw hW hN, by rw [hU]; exact hPc, va_K.moved hW.alike hKc⟩⟩ rfl rfl hl.1 rfl (lv_room (Nat.le_of_ble_eq_true rfl)) d_Stacks_enter_30 ⟨dz_Gc hG, dz_Gs hG⟩)) (fun r11 hw => ?_)
      have hw : z11_1 = r11 := hw.symm
      subst hw
      refine lv_lstore_n (lv' := [(2, .long z11_1), (0, .ref o_Stacks), (1, .int p0)]) hx hb d_Stacks_enter_33 rfl hl (by decide) rfl (fun ls hl => ?_)
      refine lv_aload_n hx hb d_Stacks_enter_34 rfl (lv_at hl 1 rfl) ?_
      refine va_get (D := (dC, dI)) (ci := 2) (v := .ref a10_1) (C := R_Stacks) (T := F_Stacks) (N := 12) hx hb hg i_Stacks hown hK hP 1 rfl rfl 5 (by decide) (hg _ k59) (fun _ h9 => h9) rfl d_Stacks_enter_35 ?_
      refine lv_aload_n hx hb d_Stacks_enter_38 rfl (lv_at hl 1 rfl) ?_
      refine va_get (D := (dC, dI)) (ci := 2) (v := .int S_frames) (C := R_Stacks) (T := F_Stacks) (N := 12) hx hb hg i_Stacks hown hK hP 1 rfl rfl 6 (by decide) (hg _ k54) (fun _ h9 => h9) rfl d_Stacks_enter_39 ?_
      refine lv_aload_n hx hb d_Stacks_enter_42 rfl (lv_at hl 1 rfl) ?_
      refine lv_iconst (v := 1) hx hb d_Stacks_enter_43 (by decide) ?_
      obtain ⟨z12_1, hc12, h⟩ := dz_ob h
      try dsimp only at h
      have hPc := hP.sub (ws' := [(o_Stacks, .inr (2, [.ref r_S_values, .int S_top, .ref a10_0, .ref a10_2, .ref a10_3, .ref a10_1, .int S_frames, .ref r_S_handlerFrames, .ref r_S_handlerPlaces, .ref r_S_handlerHeights, .ref r_S_handlerDepths, .int S_handlers])), (r_S_values, .inl (cL, n_S_values, .inr (.inl f_S_values)))]) [1, 0] rfl
      have hKc := hK.sub (tys' := [(cL, .long)]) [1] rfl
      refine vp_callSl (va_Run.run (va_runV (As := [.int 1]) (rest := [.int S_frames, .ref a10_1]) ⟨hx, hb, hml, hown, hg⟩ (c_Stacks_peek l dC dI N cL o_Stacks r_S_values a10_0 a10_2 a10_3 a10_1 r_S_handlerFrames r_S_handlerPlaces r_S_handlerHeights r_S_handlerDepths S_top S_frames S_handlers n_S_values f_S_values (1 : Int32) z12_1 hc12) (cwV 1 hg (gd_V k87 k88 k89 k64 k86) rfl rfl rfl (by decide +kernel) ⟨Nat.le_of_ble_eq_true rfl, Nat.le_of_ble_eq_true rfl⟩) ⟨dz_blindR, va_recv hKc hPc (ci := 2) (q0 := 0) rfl rfl, fun U hU hW => ⟨rfl, dz_Nw hW hN, by rw [hU]; exact hPc, va_K.moved hW.alike hKc⟩⟩ rfl rfl hl.1 rfl (lv_room (Nat.le_of_ble_eq_true rfl)) d_Stacks_enter_44 ⟨dz_Gc hG, dz_Gs hG⟩)) (fun r12 hw => ?_)
      have hw : z12_1 = r12 := hw.symm
      subst hw
      obtain ⟨i13, h⟩ := dz_oi h
      refine va_last (D := (dC, dI)) hx hb hK hP hD hS 5 1 rfl rfl i13 d_Stacks_enter_47 (fun H locs hP hD hS => ?_)
      have hP : va_P (dC, dI) classes [(r_S_values, .inl (cL, n_S_values, .inr (.inl f_S_values))), (o_Stacks, .inr (2, [.ref r_S_values, .int S_top, .ref a10_0, .ref a10_2, .ref a10_3, .ref a10_1, .int S_frames, .ref r_S_handlerFrames, .ref r_S_handlerPlaces, .ref r_S_handlerHeights, .ref r_S_handlerDepths, .int S_handlers])), (a10_0, .inl (cI, z10_1, .inl z10_2)), (a10_2, .inl (cI, z10_5, .inl z10_6)), (a10_3, .inl (cI, z10_7, .inl z10_8)), (a10_1, .inl (cL, z10_3, .inr (.inl (vp_updL z10_4 S_frames.toNatClampNeg z12_1))))] H := hP
      have hD : va_D A [(r_S_values, .inl (cL, n_S_values, .inr (.inl f_S_values))), (o_Stacks, .inr (2, [.ref r_S_values, .int S_top, .ref a10_0, .ref a10_2, .ref a10_3, .ref a10_1, .int S_frames, .ref r_S_handlerFrames, .ref r_S_handlerPlaces, .ref r_S_handlerHeights, .ref r_S_handlerDepths, .int S_handlers])), (a10_0, .inl (cI, z10_1, .inl z10_2)), (a10_2, .inl (cI, z10_5, .inl z10_6)), (a10_3, .inl (cI, z10_7, .inl z10_8)), (a10_1, .inl (cL, z10_3, .inr (.inl (vp_updL z10_4 S_frames.toNatClampNeg z12_1))))] := hD
      refine lv_aload_n hx hb d_Stacks_enter_48 rfl (lv_at hl 1 rfl) ?_
      refine lv_iconst (v := 2) hx hb d_Stacks_enter_49 (by decide) ?_
      refine lv_lload_n hx hb d_Stacks_enter_50 rfl (lv_at hl 0 rfl) ?_
      obtain ⟨⟨z14_1, z14_2, z14_3⟩, hc14, h⟩ := dz_ob h
      try dsimp only at h
      have hPc := hP.sub (ws' := [(o_Stacks, .inr (2, [.ref r_S_values, .int S_top, .ref a10_0, .ref a10_2, .ref a10_3, .ref a10_1, .int S_frames, .ref r_S_handlerFrames, .ref r_S_handlerPlaces, .ref r_S_handlerHeights, .ref r_S_handlerDepths, .int S_handlers])), (r_S_values, .inl (cL, n_S_values, .inr (.inl f_S_values)))]) [1, 0] rfl
      have hKc := hK.sub (tys' := [(cL, .long)]) [1] rfl
      have hDc := hD.sub (ws' := [(o_Stacks, .inr (2, [.ref r_S_values, .int S_top, .ref a10_0, .ref a10_2, .ref a10_3, .ref a10_1, .int S_frames, .ref r_S_handlerFrames, .ref r_S_handlerPlaces, .ref r_S_handlerHeights, .ref r_S_handlerDepths, .int S_handlers])), (r_S_values, .inl (cL, n_S_values, .inr (.inl f_S_values)))]) [1, 0] (by decide) rfl
      have hFc := va_free (wc := [(o_Stacks, .inr (2, [.ref r_S_values, .int S_top, .ref a10_0, .ref a10_2, .ref a10_3, .ref a10_1, .int S_frames, .ref r_S_handlerFrames, .ref r_S_handlerPlaces, .ref r_S_handlerHeights, .ref r_S_handlerDepths, .int S_handlers])), (r_S_values, .inl (cL, n_S_values, .inr (.inl f_S_values)))]) hD hS hA [1, 0] rfl
      refine va_calli (va_runV (As := [.int 2, .long z11_1]) (rest := []) ⟨hx, hb, hml, hown, hg⟩ (c_Stacks_replace l dC dI N cL o_Stacks r_S_values a10_0 a10_2 a10_3 a10_1 r_S_handlerFrames r_S_handlerPlaces r_S_handlerHeights r_S_handlerDepths S_top S_frames S_handlers n_S_values f_S_values (2 : Int32) z11_1 H.size (z14_1, z14_2, z14_3) hc14) (cwV 2 hg (gd_V k92 k93 k94 k64 k91) rfl rfl rfl (by decide +kernel) ⟨Nat.le_of_ble_eq_true rfl, Nat.le_of_ble_eq_true rfl⟩) ⟨dz_blind, va_recv hKc hPc (ci := 2) (q0 := 0) rfl rfl, fun U hU hW => ⟨rfl, dz_Nw hW hN, by rw [hU], by rw [hU]; exact hPc, va_K.moved hW.alike hKc, hDc.weaken (fun _ _ _ _ => trivial)⟩⟩ rfl rfl hl.1 rfl (lv_room (Nat.le_of_ble_eq_true rfl)) d_Stacks_enter_51 ⟨dz_Gc hG, dz_Gs hG⟩) hS (fun q _ h => hFc q h) hFc (fun r14 u14 t14 H1 locs ht hvm hw hB hz1 hk1 hS => ?_)
      obtain ⟨hP1, hK1, hD1⟩ := hB
      rw [ht] at hP1
      obtain ⟨hP, hD⟩ := va_join (wr := [(a10_0, .inl (cI, z10_1, .inl z10_2)), (a10_2, .inl (cI, z10_5, .inl z10_6)), (a10_3, .inl (cI, z10_7, .inl z10_8)), (a10_1, .inl (cL, z10_3, .inr (.inl (vp_updL z10_4 S_frames.toNatClampNeg z12_1))))]) (w1 := [(o_Stacks, .inr (2, [.ref r_S_values, .int z14_3, .ref a10_0, .ref a10_2, .ref a10_3, .ref a10_1, .int S_frames, .ref r_S_handlerFrames, .ref r_S_handlerPlaces, .ref r_S_handlerHeights, .ref r_S_handlerDepths, .int S_handlers])), (r_S_values, .inl (cL, n_S_values, .inr (.inl z14_2)))]) hP hD [1, 0] [2, 3, 4, 5] rfl rfl (by decide) (by decide) hk1 hFc hP1 hD1
      have hw : z14_1 = r14 := hw.symm
      subst hw
      generalize H1 = H at hP hS ⊢
      have hP : va_P (dC, dI) classes [(a10_0, .inl (cI, z10_1, .inl z10_2)), (a10_2, .inl (cI, z10_5, .inl z10_6)), (a10_3, .inl (cI, z10_7, .inl z10_8)), (a10_1, .inl (cL, z10_3, .inr (.inl (vp_updL z10_4 S_frames.toNatClampNeg z12_1)))), (o_Stacks, .inr (2, [.ref r_S_values, .int z14_3, .ref a10_0, .ref a10_2, .ref a10_3, .ref a10_1, .int S_frames, .ref r_S_handlerFrames, .ref r_S_handlerPlaces, .ref r_S_handlerHeights, .ref r_S_handlerDepths, .int S_handlers])), (r_S_values, .inl (cL, n_S_values, .inr (.inl z14_2)))] H := hP
      have hD : va_D A [(a10_0, .inl (cI, z10_1, .inl z10_2)), (a10_2, .inl (cI, z10_5, .inl z10_6)), (a10_3, .inl (cI, z10_7, .inl z10_8)), (a10_1, .inl (cL, z10_3, .inr (.inl (vp_updL z10_4 S_frames.toNatClampNeg z12_1)))), (o_Stacks, .inr (2, [.ref r_S_values, .int z14_3, .ref a10_0, .ref a10_2, .ref a10_3, .ref a10_1, .int S_frames, .ref r_S_handlerFrames, .ref r_S_handlerPlaces, .ref r_S_handlerHeights, .ref r_S_handlerDepths, .int S_handlers])), (r_S_values, .inl (cL, n_S_values, .inr (.inl z14_2)))] := hD
      refine lv_pop hx hb d_Stacks_enter_54 rfl ?_
      refine lv_aload_n hx hb d_Stacks_enter_55 rfl (lv_at hl 1 rfl) ?_
      refine va_get (D := (dC, dI)) (ci := 2) (v := .ref a10_0) (C := R_Stacks) (T := F_Stacks) (N := 12) hx hb hg i_Stacks hown hK hP 4 rfl rfl 2 (by decide) (hg _ k56) (fun _ h9 => h9) rfl d_Stacks_enter_56 ?_
      refine lv_aload_n hx hb d_Stacks_enter_59 rfl (lv_at hl 1 rfl) ?_
      refine va_get (D := (dC, dI)) (ci := 2) (v := .int S_frames) (C := R_Stacks) (T := F_Stacks) (N := 12) hx hb hg i_Stacks hown hK hP 4 rfl rfl 6 (by decide) (hg _ k54) (fun _ h9 => h9) rfl d_Stacks_enter_60 ?_
      refine lv_aload_n hx hb d_Stacks_enter_63 rfl (lv_at hl 1 rfl) ?_
      refine va_get (D := (dC, dI)) (ci := 2) (v := .int z14_3) (C := R_Stacks) (T := F_Stacks) (N := 12) hx hb hg i_Stacks hown hK hP 4 rfl rfl 1 (by decide) (hg _ k53) (fun _ h9 => h9) rfl d_Stacks_enter_64 ?_
      refine lv_iconst (v := 1) hx hb d_Stacks_enter_67 (by decide) ?_
      refine lv_isub hx hb d_Stacks_enter_68 ?_
      obtain ⟨i15, h⟩ := dz_oi h
      refine va_iast (D := (dC, dI)) hx hb hK hP hD hS 0 0 rfl rfl i15 d_Stacks_enter_69 (fun H locs hP hD hS => ?_)
      have hP : va_P (dC, dI) classes [(a10_0, .inl (cI, z10_1, .inl (upd z10_2 S_frames.toNatClampNeg (z14_3 - 1)))), (a10_2, .inl (cI, z10_5, .inl z10_6)), (a10_3, .inl (cI, z10_7, .inl z10_8)), (a10_1, .inl (cL, z10_3, .inr (.inl (vp_updL z10_4 S_frames.toNatClampNeg z12_1)))), (o_Stacks, .inr (2, [.ref r_S_values, .int z14_3, .ref a10_0, .ref a10_2, .ref a10_3, .ref a10_1, .int S_frames, .ref r_S_handlerFrames, .ref r_S_handlerPlaces, .ref r_S_handlerHeights, .ref r_S_handlerDepths, .int S_handlers])), (r_S_values, .inl (cL, n_S_values, .inr (.inl z14_2)))] H := hP
      have hD : va_D A [(a10_0, .inl (cI, z10_1, .inl (upd z10_2 S_frames.toNatClampNeg (z14_3 - 1)))), (a10_2, .inl (cI, z10_5, .inl z10_6)), (a10_3, .inl (cI, z10_7, .inl z10_8)), (a10_1, .inl (cL, z10_3, .inr (.inl (vp_updL z10_4 S_frames.toNatClampNeg z12_1)))), (o_Stacks, .inr (2, [.ref r_S_values, .int z14_3, .ref a10_0, .ref a10_2, .ref a10_3, .ref a10_1, .int S_frames, .ref r_S_handlerFrames, .ref r_S_handlerPlaces, .ref r_S_handlerHeights, .ref r_S_handlerDepths, .int S_handlers])), (r_S_values, .inl (cL, n_S_values, .inr (.inl z14_2)))] := hD
      refine lv_aload_n hx hb d_Stacks_enter_70 rfl (lv_at hl 1 rfl) ?_
      refine va_get (D := (dC, dI)) (ci := 2) (v := .ref a10_2) (C := R_Stacks) (T := F_Stacks) (N := 12) hx hb hg i_Stacks hown hK hP 4 rfl rfl 3 (by decide) (hg _ k57) (fun _ h9 => h9) rfl d_Stacks_enter_71 ?_
      refine lv_aload_n hx hb d_Stacks_enter_74 rfl (lv_at hl 1 rfl) ?_
      refine va_get (D := (dC, dI)) (ci := 2) (v := .int S_frames) (C := R_Stacks) (T := F_Stacks) (N := 12) hx hb hg i_Stacks hown hK hP 4 rfl rfl 6 (by decide) (hg _ k54) (fun _ h9 => h9) rfl d_Stacks_enter_75 ?_
      refine lv_aload_n hx hb d_Stacks_enter_78 rfl (lv_at hl 1 rfl) ?_
      refine va_get (D := (dC, dI)) (ci := 2) (v := .int z14_3) (C := R_Stacks) (T := F_Stacks) (N := 12) hx hb hg i_Stacks hown hK hP 4 rfl rfl 1 (by decide) (hg _ k53) (fun _ h9 => h9) rfl d_Stacks_enter_79 ?_
      obtain ⟨i16, h⟩ := dz_oi h
      refine va_iast (D := (dC, dI)) hx hb hK hP hD hS 1 0 rfl rfl i16 d_Stacks_enter_82 (fun H locs hP hD hS => ?_)
      have hP : va_P (dC, dI) classes [(a10_0, .inl (cI, z10_1, .inl (upd z10_2 S_frames.toNatClampNeg (z14_3 - 1)))), (a10_2, .inl (cI, z10_5, .inl (upd z10_6 S_frames.toNatClampNeg z14_3))), (a10_3, .inl (cI, z10_7, .inl z10_8)), (a10_1, .inl (cL, z10_3, .inr (.inl (vp_updL z10_4 S_frames.toNatClampNeg z12_1)))), (o_Stacks, .inr (2, [.ref r_S_values, .int z14_3, .ref a10_0, .ref a10_2, .ref a10_3, .ref a10_1, .int S_frames, .ref r_S_handlerFrames, .ref r_S_handlerPlaces, .ref r_S_handlerHeights, .ref r_S_handlerDepths, .int S_handlers])), (r_S_values, .inl (cL, n_S_values, .inr (.inl z14_2)))] H := hP
      have hD : va_D A [(a10_0, .inl (cI, z10_1, .inl (upd z10_2 S_frames.toNatClampNeg (z14_3 - 1)))), (a10_2, .inl (cI, z10_5, .inl (upd z10_6 S_frames.toNatClampNeg z14_3))), (a10_3, .inl (cI, z10_7, .inl z10_8)), (a10_1, .inl (cL, z10_3, .inr (.inl (vp_updL z10_4 S_frames.toNatClampNeg z12_1)))), (o_Stacks, .inr (2, [.ref r_S_values, .int z14_3, .ref a10_0, .ref a10_2, .ref a10_3, .ref a10_1, .int S_frames, .ref r_S_handlerFrames, .ref r_S_handlerPlaces, .ref r_S_handlerHeights, .ref r_S_handlerDepths, .int S_handlers])), (r_S_values, .inl (cL, n_S_values, .inr (.inl z14_2)))] := hD
      refine lv_aload_n hx hb d_Stacks_enter_83 rfl (lv_at hl 1 rfl) ?_
      refine va_get (D := (dC, dI)) (ci := 2) (v := .ref a10_3) (C := R_Stacks) (T := F_Stacks) (N := 12) hx hb hg i_Stacks hown hK hP 4 rfl rfl 4 (by decide) (hg _ k58) (fun _ h9 => h9) rfl d_Stacks_enter_84 ?_
      refine lv_aload_n hx hb d_Stacks_enter_87 rfl (lv_at hl 1 rfl) ?_
      refine va_get (D := (dC, dI)) (ci := 2) (v := .int S_frames) (C := R_Stacks) (T := F_Stacks) (N := 12) hx hb hg i_Stacks hown hK hP 4 rfl rfl 6 (by decide) (hg _ k54) (fun _ h9 => h9) rfl d_Stacks_enter_88 ?_
      refine lv_iload_n hx hb d_Stacks_enter_91 rfl (lv_at hl 2 rfl) ?_
      obtain ⟨i17, h⟩ := dz_oi h
      refine va_iast (D := (dC, dI)) hx hb hK hP hD hS 2 0 rfl rfl i17 d_Stacks_enter_92 (fun H locs hP hD hS => ?_)
      have hP : va_P (dC, dI) classes [(a10_0, .inl (cI, z10_1, .inl (upd z10_2 S_frames.toNatClampNeg (z14_3 - 1)))), (a10_2, .inl (cI, z10_5, .inl (upd z10_6 S_frames.toNatClampNeg z14_3))), (a10_3, .inl (cI, z10_7, .inl (upd z10_8 S_frames.toNatClampNeg p0))), (a10_1, .inl (cL, z10_3, .inr (.inl (vp_updL z10_4 S_frames.toNatClampNeg z12_1)))), (o_Stacks, .inr (2, [.ref r_S_values, .int z14_3, .ref a10_0, .ref a10_2, .ref a10_3, .ref a10_1, .int S_frames, .ref r_S_handlerFrames, .ref r_S_handlerPlaces, .ref r_S_handlerHeights, .ref r_S_handlerDepths, .int S_handlers])), (r_S_values, .inl (cL, n_S_values, .inr (.inl z14_2)))] H := hP
      have hD : va_D A [(a10_0, .inl (cI, z10_1, .inl (upd z10_2 S_frames.toNatClampNeg (z14_3 - 1)))), (a10_2, .inl (cI, z10_5, .inl (upd z10_6 S_frames.toNatClampNeg z14_3))), (a10_3, .inl (cI, z10_7, .inl (upd z10_8 S_frames.toNatClampNeg p0))), (a10_1, .inl (cL, z10_3, .inr (.inl (vp_updL z10_4 S_frames.toNatClampNeg z12_1)))), (o_Stacks, .inr (2, [.ref r_S_values, .int z14_3, .ref a10_0, .ref a10_2, .ref a10_3, .ref a10_1, .int S_frames, .ref r_S_handlerFrames, .ref r_S_handlerPlaces, .ref r_S_handlerHeights, .ref r_S_handlerDepths, .int S_handlers])), (r_S_values, .inl (cL, n_S_values, .inr (.inl z14_2)))] := hD
      refine lv_aload_n hx hb d_Stacks_enter_93 rfl (lv_at hl 1 rfl) ?_
      refine lv_dup hx hb d_Stacks_enter_94 rfl ?_
      refine va_get (D := (dC, dI)) (ci := 2) (v := .int S_frames) (C := R_Stacks) (T := F_Stacks) (N := 12) hx hb hg i_Stacks hown hK hP 4 rfl rfl 6 (by decide) (hg _ k54) (fun _ h9 => h9) rfl d_Stacks_enter_95 ?_
      refine lv_iconst (v := 1) hx hb d_Stacks_enter_98 (by decide) ?_
      refine lv_iadd hx hb d_Stacks_enter_99 ?_
      refine va_put (D := (dC, dI)) (ci := 2) (v := .int (S_frames + 1)) (ty := .int) (C := R_Stacks) (T := F_Stacks) (N := 12) hx hb hg i_Stacks t_Stacks t_Stacks_ok n_Stacks hown hK hP hD hS 4 rfl rfl 6 (by decide) (hg _ k54) (fun _ h9 => h9) rfl (by decide +kernel) rfl rfl (Nat.le_of_ble_eq_true rfl) d_Stacks_enter_100 (fun H locs hP hD hS => ?_)
      have hP : va_P (dC, dI) classes [(a10_0, .inl (cI, z10_1, .inl (upd z10_2 S_frames.toNatClampNeg (z14_3 - 1)))), (a10_2, .inl (cI, z10_5, .inl (upd z10_6 S_frames.toNatClampNeg z14_3))), (a10_3, .inl (cI, z10_7, .inl (upd z10_8 S_frames.toNatClampNeg p0))), (a10_1, .inl (cL, z10_3, .inr (.inl (vp_updL z10_4 S_frames.toNatClampNeg z12_1)))), (o_Stacks, .inr (2, [.ref r_S_values, .int z14_3, .ref a10_0, .ref a10_2, .ref a10_3, .ref a10_1, .int (S_frames + 1), .ref r_S_handlerFrames, .ref r_S_handlerPlaces, .ref r_S_handlerHeights, .ref r_S_handlerDepths, .int S_handlers])), (r_S_values, .inl (cL, n_S_values, .inr (.inl z14_2)))] H := hP
      have hD : va_D A [(a10_0, .inl (cI, z10_1, .inl (upd z10_2 S_frames.toNatClampNeg (z14_3 - 1)))), (a10_2, .inl (cI, z10_5, .inl (upd z10_6 S_frames.toNatClampNeg z14_3))), (a10_3, .inl (cI, z10_7, .inl (upd z10_8 S_frames.toNatClampNeg p0))), (a10_1, .inl (cL, z10_3, .inr (.inl (vp_updL z10_4 S_frames.toNatClampNeg z12_1)))), (o_Stacks, .inr (2, [.ref r_S_values, .int z14_3, .ref a10_0, .ref a10_2, .ref a10_3, .ref a10_1, .int (S_frames + 1), .ref r_S_handlerFrames, .ref r_S_handlerPlaces, .ref r_S_handlerHeights, .ref r_S_handlerDepths, .int S_handlers])), (r_S_values, .inl (cL, n_S_values, .inr (.inl z14_2)))] := hD
      refine lv_iconst (v := 5) hx hb d_Stacks_enter_103 (by decide) ?_
      obtain rfl := Option.some.inj h
      have hP9 := hP.sub (ws' := [(o_Stacks, .inr (2, [.ref r_S_values, .int z14_3, .ref a10_0, .ref a10_2, .ref a10_3, .ref a10_1, .int (S_frames + 1), .ref r_S_handlerFrames, .ref r_S_handlerPlaces, .ref r_S_handlerHeights, .ref r_S_handlerDepths, .int S_handlers])), (r_S_values, .inl (cL, n_S_values, .inr (.inl z14_2))), (a10_0, .inl (cI, z10_1, .inl (upd z10_2 S_frames.toNatClampNeg (z14_3 - 1)))), (a10_2, .inl (cI, z10_5, .inl (upd z10_6 S_frames.toNatClampNeg z14_3))), (a10_3, .inl (cI, z10_7, .inl (upd z10_8 S_frames.toNatClampNeg p0))), (a10_1, .inl (cL, z10_3, .inr (.inl (vp_updL z10_4 S_frames.toNatClampNeg z12_1))))]) [4, 5, 0, 1, 2, 3] rfl
      have hD9 := hD.sub (ws' := [(o_Stacks, .inr (2, [.ref r_S_values, .int z14_3, .ref a10_0, .ref a10_2, .ref a10_3, .ref a10_1, .int (S_frames + 1), .ref r_S_handlerFrames, .ref r_S_handlerPlaces, .ref r_S_handlerHeights, .ref r_S_handlerDepths, .int S_handlers])), (r_S_values, .inl (cL, n_S_values, .inr (.inl z14_2))), (a10_0, .inl (cI, z10_1, .inl (upd z10_2 S_frames.toNatClampNeg (z14_3 - 1)))), (a10_2, .inl (cI, z10_5, .inl (upd z10_6 S_frames.toNatClampNeg z14_3))), (a10_3, .inl (cI, z10_7, .inl (upd z10_8 S_frames.toNatClampNeg p0))), (a10_1, .inl (cL, z10_3, .inr (.inl (vp_updL z10_4 S_frames.toNatClampNeg z12_1))))]) [4, 5, 0, 1, 2, 3] (by decide) rfl
      have hK9 := hK.sub (tys' := [(cI, .int), (cL, .long)]) [0, 1] rfl
      refine W.widen (dz_Gc hG) (dz_Gs hG) ?_
      obtain ⟨rfl, -, -⟩ := hG
      exact W.iret (v := 5) hx hb hr (fun t ht hW => ⟨⟨5, (a10_0, a10_1, a10_2, a10_3), rfl, rfl, by rw [ht]; exact hP9, va_K.moved hW.alike hK9, hD9⟩, hS.F ht⟩) hS.2.2 d_Stacks_enter_104
  · rw [if_neg c1] at h
    refine lv_iconst (v := 3) hx hb d_Stacks_enter_10 (by decide) ?_
    obtain rfl := Option.some.inj h
    have hP9 := hP.sub (ws' := [(o_Stacks, .inr (2, [.ref r_S_values, .int S_top, .ref r_S_bases, .ref r_S_floors, .ref r_S_returns, .ref r_S_closures, .int S_frames, .ref r_S_handlerFrames, .ref r_S_handlerPlaces, .ref r_S_handlerHeights, .ref r_S_handlerDepths, .int S_handlers])), (r_S_values, .inl (cL, n_S_values, .inr (.inl f_S_values))), (r_S_bases, .inl (cI, n_S_bases, .inl f_S_bases)), (r_S_floors, .inl (cI, n_S_floors, .inl f_S_floors)), (r_S_returns, .inl (cI, n_S_returns, .inl f_S_returns)), (r_S_closures, .inl (cL, n_S_closures, .inr (.inl f_S_closures)))]) [0, 1, 2, 3, 4, 5] rfl
    have hD9 := hD.sub (ws' := [(o_Stacks, .inr (2, [.ref r_S_values, .int S_top, .ref r_S_bases, .ref r_S_floors, .ref r_S_returns, .ref r_S_closures, .int S_frames, .ref r_S_handlerFrames, .ref r_S_handlerPlaces, .ref r_S_handlerHeights, .ref r_S_handlerDepths, .int S_handlers])), (r_S_values, .inl (cL, n_S_values, .inr (.inl f_S_values))), (r_S_bases, .inl (cI, n_S_bases, .inl f_S_bases)), (r_S_floors, .inl (cI, n_S_floors, .inl f_S_floors)), (r_S_returns, .inl (cI, n_S_returns, .inl f_S_returns)), (r_S_closures, .inl (cL, n_S_closures, .inr (.inl f_S_closures)))]) [0, 1, 2, 3, 4, 5] (by decide) rfl
    have hK9 := hK.sub (tys' := [(cI, .int), (cL, .long)]) [0, 1] rfl
    refine W.widen (dz_Gc hG) (dz_Gs hG) ?_
    obtain ⟨rfl, -, -⟩ := hG
    exact W.iret (v := 3) hx hb hr (fun t ht hW => ⟨⟨3, (r_S_bases, r_S_closures, r_S_floors, r_S_returns), rfl, rfl, by rw [ht]; exact hP9, va_K.moved hW.alike hK9, hD9⟩, hS.F ht⟩) hS.2.2 d_Stacks_enter_11

set_option maxHeartbeats 4000000 in
set_option maxRecDepth 100000 in
theorem c_Stacks_hasHandler (l : Launch) (dC : Nat → ClassId) (dI : Nat → Nat → Nat) (N : Nat) (cI : ClassId) (o_Stacks : Nat) (r_S_values : Nat) (r_S_bases : Nat) (r_S_floors : Nat) (r_S_returns : Nat) (r_S_closures : Nat) (r_S_handlerFrames : Nat) (r_S_handlerPlaces : Nat) (r_S_handlerHeights : Nat) (r_S_handlerDepths : Nat) (S_top : Int32) (S_frames : Int32) (S_handlers : Int32) (n_S_handlerFrames : Nat) (f_S_handlerFrames : Nat → Int32) (z : Int32) (h : m_Stacks_hasHandler N S_top S_frames S_handlers n_S_handlerFrames f_S_handlerFrames = some z) : Met l y_Stacks_hasHandler (.code y_Stacks_hasHandler b_Stacks_hasHandler 1 (some .boolean) :: lw_g) ({ frames := 0, cells := 0, slots := 0, locals := 0 }) (va_Pc [.ref o_Stacks] (fun U => dz_N U ∧ va_P (dC, dI) classes [(o_Stacks, .inr (2, [.ref r_S_values, .int S_top, .ref r_S_bases, .ref r_S_floors, .ref r_S_returns, .ref r_S_closures, .int S_frames, .ref r_S_handlerFrames, .ref r_S_handlerPlaces, .ref r_S_handlerHeights, .ref r_S_handlerDepths, .int S_handlers])), (r_S_handlerFrames, .inl (cI, n_S_handlerFrames, .inl f_S_handlerFrames))] U.heap ∧ va_K (dC, dI) classes [(cI, .int)] U)) (vp_Si (fun r => r = z ∧ narrow .boolean (.int z) = .int z ∧ fits .boolean (.int z) = true)) 0 0 (fun _ => False) := by
  refine Met.ofW (cc := b_Stacks_hasHandler) (maxL := 1) (ret := (some .boolean)) (by decide +kernel) rfl ?_
  intro p e s m args below meth c s₁ B hml hv
  obtain ⟨rfl, hN, hP, hK⟩ := hv
  have hx := B.exec
  have hb := B.bytes
  have hr := B.returns
  have hg : ∀ w ∈ lw_g, w.before _ s = true := fun w hw => atoms_spec (ws := .code y_Stacks_hasHandler b_Stacks_hasHandler 1 (some .boolean) :: lw_g) B.pre w (List.mem_cons_of_mem _ hw)
  have hown : s.vm.findClass R_Stacks = some m.cls := findClass_of_methodNamed B.named
  have hlocks := B.notSynchronized
  clear B
  have hP : va_P (dC, dI) classes [(o_Stacks, .inr (2, [.ref r_S_values, .int S_top, .ref r_S_bases, .ref r_S_floors, .ref r_S_returns, .ref r_S_closures, .int S_frames, .ref r_S_handlerFrames, .ref r_S_handlerPlaces, .ref r_S_handlerHeights, .ref r_S_handlerDepths, .int S_handlers])), (r_S_handlerFrames, .inl (cI, n_S_handlerFrames, .inl f_S_handlerFrames))] s.heap := hP
  have hl := lv_entry ([.ref o_Stacks]) (n := 1) (Nat.le_of_ble_eq_true rfl)
  rw [lg_entry_eq]
  generalize (lg_sl ([.ref o_Stacks]) ++ List.replicate (1 - (lg_sl ([.ref o_Stacks])).length) Slot.unset).toArray = ls at hl ⊢
  have hl : lv_has ls 1 [(0, .ref o_Stacks)] := hl
  unfold m_Stacks_hasHandler at h
  refine lv_aload_n hx hb d_Stacks_hasHandler_0 rfl (lv_at hl 0 rfl) ?_
  refine va_get (D := (dC, dI)) (ci := 2) (v := .int S_handlers) (C := R_Stacks) (T := F_Stacks) (N := 12) hx hb hg i_Stacks hown hK hP 0 rfl rfl 11 (by decide) (hg _ k55) (fun _ h9 => h9) rfl d_Stacks_hasHandler_1 ?_
  refine lv_if_le (tgt := 31) hx hb d_Stacks_hasHandler_4 (by decide) (fun c1 => ?_) (fun c1 => ?_)
  · rw [if_pos c1] at h
    refine lv_iconst (v := 0) hx hb d_Stacks_hasHandler_31 (by decide) ?_
    obtain rfl := Option.some.inj h
    exact W.zret (v := 0) (ty := .boolean) hx hb hr (show narrow .boolean (.int 0) = .int 0 from rfl) (fun t ht hW => ⟨_, rfl, ⟨rfl, (show narrow .boolean (.int 0) = .int 0 from rfl), (show fits .boolean (.int 0) = true from rfl)⟩, ht⟩) (fun _ h => by cases h) d_Stacks_hasHandler_32
  · rw [if_neg c1] at h
    refine lv_aload_n hx hb d_Stacks_hasHandler_7 rfl (lv_at hl 0 rfl) ?_
    refine va_get (D := (dC, dI)) (ci := 2) (v := .ref r_S_handlerFrames) (C := R_Stacks) (T := F_Stacks) (N := 12) hx hb hg i_Stacks hown hK hP 0 rfl rfl 7 (by decide) (hg _ k99) (fun _ h9 => h9) rfl d_Stacks_hasHandler_8 ?_
    refine lv_aload_n hx hb d_Stacks_hasHandler_11 rfl (lv_at hl 0 rfl) ?_
    refine va_get (D := (dC, dI)) (ci := 2) (v := .int S_handlers) (C := R_Stacks) (T := F_Stacks) (N := 12) hx hb hg i_Stacks hown hK hP 0 rfl rfl 11 (by decide) (hg _ k55) (fun _ h9 => h9) rfl d_Stacks_hasHandler_12 ?_
    refine lv_iconst (v := 1) hx hb d_Stacks_hasHandler_15 (by decide) ?_
    refine lv_isub hx hb d_Stacks_hasHandler_16 ?_
    obtain ⟨i2, h⟩ := dz_oi h
    refine va_iald (D := (dC, dI)) hx hb hK hP 1 0 rfl rfl i2 d_Stacks_hasHandler_17 ?_
    refine lv_aload_n hx hb d_Stacks_hasHandler_18 rfl (lv_at hl 0 rfl) ?_
    refine va_get (D := (dC, dI)) (ci := 2) (v := .int S_frames) (C := R_Stacks) (T := F_Stacks) (N := 12) hx hb hg i_Stacks hown hK hP 0 rfl rfl 6 (by decide) (hg _ k54) (fun _ h9 => h9) rfl d_Stacks_hasHandler_19 ?_
    refine lv_iconst (v := 1) hx hb d_Stacks_hasHandler_22 (by decide) ?_
    refine lv_isub hx hb d_Stacks_hasHandler_23 ?_
    refine lv_icmp_ne (tgt := 31) hx hb d_Stacks_hasHandler_24 (by decide) (fun c3 => ?_) (fun c3 => ?_)
    · rw [if_neg c3] at h
      refine lv_iconst (v := 0) hx hb d_Stacks_hasHandler_31 (by decide) ?_
      obtain rfl := Option.some.inj h
      exact W.zret (v := 0) (ty := .boolean) hx hb hr (show narrow .boolean (.int 0) = .int 0 from rfl) (fun t ht hW => ⟨_, rfl, ⟨rfl, (show narrow .boolean (.int 0) = .int 0 from rfl), (show fits .boolean (.int 0) = true from rfl)⟩, ht⟩) (fun _ h => by cases h) d_Stacks_hasHandler_32
    · rw [if_pos c3] at h
      refine lv_iconst (v := 1) hx hb d_Stacks_hasHandler_27 (by decide) ?_
      refine lv_goto (tgt := 32) hx hb d_Stacks_hasHandler_28 (by decide) ?_
      obtain rfl := Option.some.inj h
      exact W.zret (v := 1) (ty := .boolean) hx hb hr (show narrow .boolean (.int 1) = .int 1 from rfl) (fun t ht hW => ⟨_, rfl, ⟨rfl, (show narrow .boolean (.int 1) = .int 1 from rfl), (show fits .boolean (.int 1) = true from rfl)⟩, ht⟩) (fun _ h => by cases h) d_Stacks_hasHandler_32

set_option maxHeartbeats 4000000 in
set_option maxRecDepth 100000 in
theorem c_Stacks_become (l : Launch) (dC : Nat → ClassId) (dI : Nat → Nat → Nat) (N : Nat) (cI : ClassId) (cL : ClassId) (o_Stacks : Nat) (r_S_values : Nat) (r_S_bases : Nat) (r_S_floors : Nat) (r_S_returns : Nat) (r_S_closures : Nat) (r_S_handlerFrames : Nat) (r_S_handlerPlaces : Nat) (r_S_handlerHeights : Nat) (r_S_handlerDepths : Nat) (S_top : Int32) (S_frames : Int32) (S_handlers : Int32) (n_S_values : Nat) (f_S_values : Nat → Int64) (n_S_bases : Nat) (f_S_bases : Nat → Int32) (n_S_floors : Nat) (f_S_floors : Nat → Int32) (n_S_closures : Nat) (f_S_closures : Nat → Int64) (sz : Nat) (z : (Nat → Int64) × (Nat → Int32) × (Nat → Int64) × Int32) (h : m_Stacks_become N S_top S_frames S_handlers n_S_values f_S_values n_S_bases f_S_bases n_S_floors f_S_floors n_S_closures f_S_closures = some z) : Met l y_Stacks_become (.code y_Stacks_become b_Stacks_become 3 none :: lw_g) ({ frames := 1, cells := 0, slots := 0, locals := 21 }) (va_Pc [.ref o_Stacks] (fun U => dz_N U ∧ U.heap.size = sz ∧ va_P (dC, dI) classes [(o_Stacks, .inr (2, [.ref r_S_values, .int S_top, .ref r_S_bases, .ref r_S_floors, .ref r_S_returns, .ref r_S_closures, .int S_frames, .ref r_S_handlerFrames, .ref r_S_handlerPlaces, .ref r_S_handlerHeights, .ref r_S_handlerDepths, .int S_handlers])), (r_S_values, .inl (cL, n_S_values, .inr (.inl f_S_values))), (r_S_bases, .inl (cI, n_S_bases, .inl f_S_bases)), (r_S_floors, .inl (cI, n_S_floors, .inl f_S_floors)), (r_S_closures, .inl (cL, n_S_closures, .inr (.inl f_S_closures)))] U.heap ∧ va_K (dC, dI) classes [(cI, .int), (cL, .long)] U ∧ va_D (fun _ => True) [(o_Stacks, .inr (2, [.ref r_S_values, .int S_top, .ref r_S_bases, .ref r_S_floors, .ref r_S_returns, .ref r_S_closures, .int S_frames, .ref r_S_handlerFrames, .ref r_S_handlerPlaces, .ref r_S_handlerHeights, .ref r_S_handlerDepths, .int S_handlers])), (r_S_values, .inl (cL, n_S_values, .inr (.inl f_S_values))), (r_S_bases, .inl (cI, n_S_bases, .inl f_S_bases)), (r_S_floors, .inl (cI, n_S_floors, .inl f_S_floors)), (r_S_closures, .inl (cL, n_S_closures, .inr (.inl f_S_closures)))])) (va_Qv (fun (_ : Unit) => True) (fun (u : Unit) t => va_P (dC, dI) classes [(o_Stacks, .inr (2, [.ref r_S_values, .int z.2.2.2, .ref r_S_bases, .ref r_S_floors, .ref r_S_returns, .ref r_S_closures, .int S_frames, .ref r_S_handlerFrames, .ref r_S_handlerPlaces, .ref r_S_handlerHeights, .ref r_S_handlerDepths, .int S_handlers])), (r_S_values, .inl (cL, n_S_values, .inr (.inl z.2.2.1))), (r_S_bases, .inl (cI, n_S_bases, .inl f_S_bases)), (r_S_floors, .inl (cI, n_S_floors, .inl z.2.1)), (r_S_closures, .inl (cL, n_S_closures, .inr (.inl z.1)))] t.heap ∧ va_K (dC, dI) classes [(cI, .int), (cL, .long)] t ∧ va_D (va_A [(o_Stacks, .inr (2, [.ref r_S_values, .int S_top, .ref r_S_bases, .ref r_S_floors, .ref r_S_returns, .ref r_S_closures, .int S_frames, .ref r_S_handlerFrames, .ref r_S_handlerPlaces, .ref r_S_handlerHeights, .ref r_S_handlerDepths, .int S_handlers])), (r_S_values, .inl (cL, n_S_values, .inr (.inl f_S_values))), (r_S_bases, .inl (cI, n_S_bases, .inl f_S_bases)), (r_S_floors, .inl (cI, n_S_floors, .inl f_S_floors)), (r_S_closures, .inl (cL, n_S_closures, .inr (.inl f_S_closures)))] sz) [(o_Stacks, .inr (2, [.ref r_S_values, .int z.2.2.2, .ref r_S_bases, .ref r_S_floors, .ref r_S_returns, .ref r_S_closures, .int S_frames, .ref r_S_handlerFrames, .ref r_S_handlerPlaces, .ref r_S_handlerHeights, .ref r_S_handlerDepths, .int S_handlers])), (r_S_values, .inl (cL, n_S_values, .inr (.inl z.2.2.1))), (r_S_bases, .inl (cI, n_S_bases, .inl f_S_bases)), (r_S_floors, .inl (cI, n_S_floors, .inl z.2.1)), (r_S_closures, .inl (cL, n_S_closures, .inr (.inl z.1)))]) (va_A [(o_Stacks, .inr (2, [.ref r_S_values, .int S_top, .ref r_S_bases, .ref r_S_floors, .ref r_S_returns, .ref r_S_closures, .int S_frames, .ref r_S_handlerFrames, .ref r_S_handlerPlaces, .ref r_S_handlerHeights, .ref r_S_handlerDepths, .int S_handlers])), (r_S_values, .inl (cL, n_S_values, .inr (.inl f_S_values))), (r_S_bases, .inl (cI, n_S_bases, .inl f_S_bases)), (r_S_floors, .inl (cI, n_S_floors, .inl f_S_floors)), (r_S_closures, .inl (cL, n_S_closures, .inr (.inl f_S_closures)))] sz)) 0 0 (va_A [(o_Stacks, .inr (2, [.ref r_S_values, .int S_top, .ref r_S_bases, .ref r_S_floors, .ref r_S_returns, .ref r_S_closures, .int S_frames, .ref r_S_handlerFrames, .ref r_S_handlerPlaces, .ref r_S_handlerHeights, .ref r_S_handlerDepths, .int S_handlers])), (r_S_values, .inl (cL, n_S_values, .inr (.inl f_S_values))), (r_S_bases, .inl (cI, n_S_bases, .inl f_S_bases)), (r_S_floors, .inl (cI, n_S_floors, .inl f_S_floors)), (r_S_closures, .inl (cL, n_S_closures, .inr (.inl f_S_closures)))] sz) := by
  refine Met.ofW (cc := b_Stacks_become) (maxL := 3) (ret := none) (by decide +kernel) rfl ?_
  intro p e s m args below meth c s₁ B hml hv
  obtain ⟨rfl, hN, hsz, hP, hK, hD0⟩ := hv
  have hx := B.exec
  have hb := B.bytes
  have hr := B.returns
  have hg : ∀ w ∈ lw_g, w.before _ s = true := fun w hw => atoms_spec (ws := .code y_Stacks_become b_Stacks_become 3 none :: lw_g) B.pre w (List.mem_cons_of_mem _ hw)
  have hown : s.vm.findClass R_Stacks = some m.cls := findClass_of_methodNamed B.named
  have hlocks := B.notSynchronized
  clear B
  subst hsz
  have hD := hD0.self (sz := s.heap.size)
  generalize hAe : va_A [(o_Stacks, .inr (2, [.ref r_S_values, .int S_top, .ref r_S_bases, .ref r_S_floors, .ref r_S_returns, .ref r_S_closures, .int S_frames, .ref r_S_handlerFrames, .ref r_S_handlerPlaces, .ref r_S_handlerHeights, .ref r_S_handlerDepths, .int S_handlers])), (r_S_values, .inl (cL, n_S_values, .inr (.inl f_S_values))), (r_S_bases, .inl (cI, n_S_bases, .inl f_S_bases)), (r_S_floors, .inl (cI, n_S_floors, .inl f_S_floors)), (r_S_closures, .inl (cL, n_S_closures, .inr (.inl f_S_closures)))] s.heap.size = A at hD ⊢
  have hA : ∀ q : Nat, s.heap.size ≤ q → A q := fun q h => by rw [← hAe]; exact Or.inr h
  have hS : va_S A s.heap s.heap [] := va_S.rf
  have hP : va_P (dC, dI) classes [(o_Stacks, .inr (2, [.ref r_S_values, .int S_top, .ref r_S_bases, .ref r_S_floors, .ref r_S_returns, .ref r_S_closures, .int S_frames, .ref r_S_handlerFrames, .ref r_S_handlerPlaces, .ref r_S_handlerHeights, .ref r_S_handlerDepths, .int S_handlers])), (r_S_values, .inl (cL, n_S_values, .inr (.inl f_S_values))), (r_S_bases, .inl (cI, n_S_bases, .inl f_S_bases)), (r_S_floors, .inl (cI, n_S_floors, .inl f_S_floors)), (r_S_closures, .inl (cL, n_S_closures, .inr (.inl f_S_closures)))] s.heap := hP
  have hl := lv_entry ([.ref o_Stacks]) (n := 3) (Nat.le_of_ble_eq_true rfl)
  rw [lg_entry_eq]
  generalize (lg_sl ([.ref o_Stacks]) ++ List.replicate (3 - (lg_sl ([.ref o_Stacks])).length) Slot.unset).toArray = ls at hl ⊢
  have hl : lv_has ls 3 [(0, .ref o_Stacks)] := hl
  unfold m_Stacks_become at h
  refine lv_aload_n hx hb d_Stacks_become_0 rfl (lv_at hl 0 rfl) ?_
  refine lv_iconst (v := 0) hx hb d_Stacks_become_1 (by decide) ?_
  obtain ⟨z1_1, hc1, h⟩ := dz_ob h
  try dsimp only at h
  have hPc := hP.sub (ws' := [(o_Stacks, .inr (2, [.ref r_S_values, .int S_top, .ref r_S_bases, .ref r_S_floors, .ref r_S_returns, .ref r_S_closures, .int S_frames, .ref r_S_handlerFrames, .ref r_S_handlerPlaces, .ref r_S_handlerHeights, .ref r_S_handlerDepths, .int S_handlers])), (r_S_values, .inl (cL, n_S_values, .inr (.inl f_S_values)))]) [0, 1] rfl
  have hKc := hK.sub (tys' := [(cL, .long)]) [1] rfl
  refine vp_callSl (va_Run.run (va_runV (As := [.int 0]) (rest := []) ⟨hx, hb, hml, hown, hg⟩ (c_Stacks_peek l dC dI N cL o_Stacks r_S_values r_S_bases r_S_floors r_S_returns r_S_closures r_S_handlerFrames r_S_handlerPlaces r_S_handlerHeights r_S_handlerDepths S_top S_frames S_handlers n_S_values f_S_values (0 : Int32) z1_1 hc1) (cwV 1 hg (gd_V k87 k88 k89 k64 k86) rfl rfl rfl (by decide +kernel) ⟨Nat.le_of_ble_eq_true rfl, Nat.le_of_ble_eq_true rfl⟩) ⟨dz_blindR, va_recv hKc hPc (ci := 2) (q0 := 0) rfl rfl, fun U hU hW => ⟨rfl, dz_Nw hW hN, by rw [hU]; exact hPc, va_K.moved hW.alike hKc⟩⟩ rfl rfl hl.1 rfl (lv_room (Nat.le_of_ble_eq_true rfl)) d_Stacks_become_2 ⟨Nat.le_of_ble_eq_true rfl, Nat.le_of_ble_eq_true rfl⟩)) (fun r1 hw => ?_)
  have hw : z1_1 = r1 := hw.symm
  subst hw
  refine lv_lstore_n (lv' := [(1, .long z1_1), (0, .ref o_Stacks)]) hx hb d_Stacks_become_5 rfl hl (by decide) rfl (fun ls hl => ?_)
  refine lv_aload_n hx hb d_Stacks_become_6 rfl (lv_at hl 1 rfl) ?_
  refine va_get (D := (dC, dI)) (ci := 2) (v := .ref r_S_closures) (C := R_Stacks) (T := F_Stacks) (N := 12) hx hb hg i_Stacks hown hK hP 0 rfl rfl 5 (by decide) (hg _ k59) (fun _ h9 => h9) rfl d_Stacks_become_7 ?_
  refine lv_aload_n hx hb d_Stacks_become_10 rfl (lv_at hl 1 rfl) ?_
  refine va_get (D := (dC, dI)) (ci := 2) (v := .int S_frames) (C := R_Stacks) (T := F_Stacks) (N := 12) hx hb hg i_Stacks hown hK hP 0 rfl rfl 6 (by decide) (hg _ k54) (fun _ h9 => h9) rfl d_Stacks_become_11 ?_
  refine lv_iconst (v := 1) hx hb d_Stacks_become_14 (by decide) ?_
  refine lv_isub hx hb d_Stacks_become_15 ?_
  refine lv_aload_n hx hb d_Stacks_become_16 rfl (lv_at hl 1 rfl) ?_
  refine lv_iconst (v := 1) hx hb d_Stacks_become_17 (by decide) ?_
  obtain ⟨z2_1, hc2, h⟩ := dz_ob h
  try dsimp only at h
  have hPc := hP.sub (ws' := [(o_Stacks, .inr (2, [.ref r_S_values, .int S_top, .ref r_S_bases, .ref r_S_floors, .ref r_S_returns, .ref r_S_closures, .int S_frames, .ref r_S_handlerFrames, .ref r_S_handlerPlaces, .ref r_S_handlerHeights, .ref r_S_handlerDepths, .int S_handlers])), (r_S_values, .inl (cL, n_S_values, .inr (.inl f_S_values)))]) [0, 1] rfl
  have hKc := hK.sub (tys' := [(cL, .long)]) [1] rfl
  refine vp_callSl (va_Run.run (va_runV (As := [.int 1]) (rest := [.int (S_frames - 1), .ref r_S_closures]) ⟨hx, hb, hml, hown, hg⟩ (c_Stacks_peek l dC dI N cL o_Stacks r_S_values r_S_bases r_S_floors r_S_returns r_S_closures r_S_handlerFrames r_S_handlerPlaces r_S_handlerHeights r_S_handlerDepths S_top S_frames S_handlers n_S_values f_S_values (1 : Int32) z2_1 hc2) (cwV 1 hg (gd_V k87 k88 k89 k64 k86) rfl rfl rfl (by decide +kernel) ⟨Nat.le_of_ble_eq_true rfl, Nat.le_of_ble_eq_true rfl⟩) ⟨dz_blindR, va_recv hKc hPc (ci := 2) (q0 := 0) rfl rfl, fun U hU hW => ⟨rfl, dz_Nw hW hN, by rw [hU]; exact hPc, va_K.moved hW.alike hKc⟩⟩ rfl rfl hl.1 rfl (lv_room (Nat.le_of_ble_eq_true rfl)) d_Stacks_become_18 ⟨Nat.le_of_ble_eq_true rfl, Nat.le_of_ble_eq_true rfl⟩)) (fun r2 hw => ?_)
  have hw : z2_1 = r2 := hw.symm
  subst hw
  obtain ⟨i3, h⟩ := dz_oi h
  refine va_last (D := (dC, dI)) hx hb hK hP hD hS 4 1 rfl rfl i3 d_Stacks_become_21 (fun H locs hP hD hS => ?_)
  have hP : va_P (dC, dI) classes [(o_Stacks, .inr (2, [.ref r_S_values, .int S_top, .ref r_S_bases, .ref r_S_floors, .ref r_S_returns, .ref r_S_closures, .int S_frames, .ref r_S_handlerFrames, .ref r_S_handlerPlaces, .ref r_S_handlerHeights, .ref r_S_handlerDepths, .int S_handlers])), (r_S_values, .inl (cL, n_S_values, .inr (.inl f_S_values))), (r_S_bases, .inl (cI, n_S_bases, .inl f_S_bases)), (r_S_floors, .inl (cI, n_S_floors, .inl f_S_floors)), (r_S_closures, .inl (cL, n_S_closures, .inr (.inl (vp_updL f_S_closures (S_frames - 1).toNatClampNeg z2_1))))] H := hP
  have hD : va_D A [(o_Stacks, .inr (2, [.ref r_S_values, .int S_top, .ref r_S_bases, .ref r_S_floors, .ref r_S_returns, .ref r_S_closures, .int S_frames, .ref r_S_handlerFrames, .ref r_S_handlerPlaces, .ref r_S_handlerHeights, .ref r_S_handlerDepths, .int S_handlers])), (r_S_values, .inl (cL, n_S_values, .inr (.inl f_S_values))), (r_S_bases, .inl (cI, n_S_bases, .inl f_S_bases)), (r_S_floors, .inl (cI, n_S_floors, .inl f_S_floors)), (r_S_closures, .inl (cL, n_S_closures, .inr (.inl (vp_updL f_S_closures (S_frames - 1).toNatClampNeg z2_1))))] := hD
  refine lv_aload_n hx hb d_Stacks_become_22 rfl (lv_at hl 1 rfl) ?_
  refine lv_aload_n hx hb d_Stacks_become_23 rfl (lv_at hl 1 rfl) ?_
  refine va_get (D := (dC, dI)) (ci := 2) (v := .ref r_S_bases) (C := R_Stacks) (T := F_Stacks) (N := 12) hx hb hg i_Stacks hown hK hP 0 rfl rfl 2 (by decide) (hg _ k56) (fun _ h9 => h9) rfl d_Stacks_become_24 ?_
  refine lv_aload_n hx hb d_Stacks_become_27 rfl (lv_at hl 1 rfl) ?_
  refine va_get (D := (dC, dI)) (ci := 2) (v := .int S_frames) (C := R_Stacks) (T := F_Stacks) (N := 12) hx hb hg i_Stacks hown hK hP 0 rfl rfl 6 (by decide) (hg _ k54) (fun _ h9 => h9) rfl d_Stacks_become_28 ?_
  refine lv_iconst (v := 1) hx hb d_Stacks_become_31 (by decide) ?_
  refine lv_isub hx hb d_Stacks_become_32 ?_
  obtain ⟨i4, h⟩ := dz_oi h
  refine va_iald (D := (dC, dI)) hx hb hK hP 2 0 rfl rfl i4 d_Stacks_become_33 ?_
  refine va_put (D := (dC, dI)) (ci := 2) (v := .int (f_S_bases (S_frames - 1).toNatClampNeg)) (ty := .int) (C := R_Stacks) (T := F_Stacks) (N := 12) hx hb hg i_Stacks t_Stacks t_Stacks_ok n_Stacks hown hK hP hD hS 0 rfl rfl 1 (by decide) (hg _ k53) (fun _ h9 => h9) rfl (by decide +kernel) rfl rfl (Nat.le_of_ble_eq_true rfl) d_Stacks_become_34 (fun H locs hP hD hS => ?_)
  have hP : va_P (dC, dI) classes [(o_Stacks, .inr (2, [.ref r_S_values, .int (f_S_bases (S_frames - 1).toNatClampNeg), .ref r_S_bases, .ref r_S_floors, .ref r_S_returns, .ref r_S_closures, .int S_frames, .ref r_S_handlerFrames, .ref r_S_handlerPlaces, .ref r_S_handlerHeights, .ref r_S_handlerDepths, .int S_handlers])), (r_S_values, .inl (cL, n_S_values, .inr (.inl f_S_values))), (r_S_bases, .inl (cI, n_S_bases, .inl f_S_bases)), (r_S_floors, .inl (cI, n_S_floors, .inl f_S_floors)), (r_S_closures, .inl (cL, n_S_closures, .inr (.inl (vp_updL f_S_closures (S_frames - 1).toNatClampNeg z2_1))))] H := hP
  have hD : va_D A [(o_Stacks, .inr (2, [.ref r_S_values, .int (f_S_bases (S_frames - 1).toNatClampNeg), .ref r_S_bases, .ref r_S_floors, .ref r_S_returns, .ref r_S_closures, .int S_frames, .ref r_S_handlerFrames, .ref r_S_handlerPlaces, .ref r_S_handlerHeights, .ref r_S_handlerDepths, .int S_handlers])), (r_S_values, .inl (cL, n_S_values, .inr (.inl f_S_values))), (r_S_bases, .inl (cI, n_S_bases, .inl f_S_bases)), (r_S_floors, .inl (cI, n_S_floors, .inl f_S_floors)), (r_S_closures, .inl (cL, n_S_closures, .inr (.inl (vp_updL f_S_closures (S_frames - 1).toNatClampNeg z2_1))))] := hD
  refine lv_aload_n hx hb d_Stacks_become_37 rfl (lv_at hl 1 rfl) ?_
  refine va_get (D := (dC, dI)) (ci := 2) (v := .ref r_S_values) (C := R_Stacks) (T := F_Stacks) (N := 12) hx hb hg i_Stacks hown hK hP 0 rfl rfl 0 (by decide) (hg _ k65) (fun _ h9 => h9) rfl d_Stacks_become_38 ?_
  refine lv_aload_n hx hb d_Stacks_become_41 rfl (lv_at hl 1 rfl) ?_
  refine lv_dup hx hb d_Stacks_become_42 rfl ?_
  refine va_get (D := (dC, dI)) (ci := 2) (v := .int (f_S_bases (S_frames - 1).toNatClampNeg)) (C := R_Stacks) (T := F_Stacks) (N := 12) hx hb hg i_Stacks hown hK hP 0 rfl rfl 1 (by decide) (hg _ k53) (fun _ h9 => h9) rfl d_Stacks_become_43 ?_
  refine lv_dup_x1 hx hb d_Stacks_become_46 rfl rfl ?_
  refine lv_iconst (v := 1) hx hb d_Stacks_become_47 (by decide) ?_
  refine lv_iadd hx hb d_Stacks_become_48 ?_
  refine va_put (D := (dC, dI)) (ci := 2) (v := .int ((f_S_bases (S_frames - 1).toNatClampNeg) + 1)) (ty := .int) (C := R_Stacks) (T := F_Stacks) (N := 12) hx hb hg i_Stacks t_Stacks t_Stacks_ok n_Stacks hown hK hP hD hS 0 rfl rfl 1 (by decide) (hg _ k53) (fun _ h9 => h9) rfl (by decide +kernel) rfl rfl (Nat.le_of_ble_eq_true rfl) d_Stacks_become_49 (fun H locs hP hD hS => ?_)
  have hP : va_P (dC, dI) classes [(o_Stacks, .inr (2, [.ref r_S_values, .int ((f_S_bases (S_frames - 1).toNatClampNeg) + 1), .ref r_S_bases, .ref r_S_floors, .ref r_S_returns, .ref r_S_closures, .int S_frames, .ref r_S_handlerFrames, .ref r_S_handlerPlaces, .ref r_S_handlerHeights, .ref r_S_handlerDepths, .int S_handlers])), (r_S_values, .inl (cL, n_S_values, .inr (.inl f_S_values))), (r_S_bases, .inl (cI, n_S_bases, .inl f_S_bases)), (r_S_floors, .inl (cI, n_S_floors, .inl f_S_floors)), (r_S_closures, .inl (cL, n_S_closures, .inr (.inl (vp_updL f_S_closures (S_frames - 1).toNatClampNeg z2_1))))] H := hP
  have hD : va_D A [(o_Stacks, .inr (2, [.ref r_S_values, .int ((f_S_bases (S_frames - 1).toNatClampNeg) + 1), .ref r_S_bases, .ref r_S_floors, .ref r_S_returns, .ref r_S_closures, .int S_frames, .ref r_S_handlerFrames, .ref r_S_handlerPlaces, .ref r_S_handlerHeights, .ref r_S_handlerDepths, .int S_handlers])), (r_S_values, .inl (cL, n_S_values, .inr (.inl f_S_values))), (r_S_bases, .inl (cI, n_S_bases, .inl f_S_bases)), (r_S_floors, .inl (cI, n_S_floors, .inl f_S_floors)), (r_S_closures, .inl (cL, n_S_closures, .inr (.inl (vp_updL f_S_closures (S_frames - 1).toNatClampNeg z2_1))))] := hD
  refine lv_lload_n hx hb d_Stacks_become_52 rfl (lv_at hl 0 rfl) ?_
  obtain ⟨i5, h⟩ := dz_oi h
  refine va_last (D := (dC, dI)) hx hb hK hP hD hS 1 1 rfl rfl i5 d_Stacks_become_53 (fun H locs hP hD hS => ?_)
  have hP : va_P (dC, dI) classes [(o_Stacks, .inr (2, [.ref r_S_values, .int ((f_S_bases (S_frames - 1).toNatClampNeg) + 1), .ref r_S_bases, .ref r_S_floors, .ref r_S_returns, .ref r_S_closures, .int S_frames, .ref r_S_handlerFrames, .ref r_S_handlerPlaces, .ref r_S_handlerHeights, .ref r_S_handlerDepths, .int S_handlers])), (r_S_values, .inl (cL, n_S_values, .inr (.inl (vp_updL f_S_values (f_S_bases (S_frames - 1).toNatClampNeg).toNatClampNeg z1_1)))), (r_S_bases, .inl (cI, n_S_bases, .inl f_S_bases)), (r_S_floors, .inl (cI, n_S_floors, .inl f_S_floors)), (r_S_closures, .inl (cL, n_S_closures, .inr (.inl (vp_updL f_S_closures (S_frames - 1).toNatClampNeg z2_1))))] H := hP
  have hD : va_D A [(o_Stacks, .inr (2, [.ref r_S_values, .int ((f_S_bases (S_frames - 1).toNatClampNeg) + 1), .ref r_S_bases, .ref r_S_floors, .ref r_S_returns, .ref r_S_closures, .int S_frames, .ref r_S_handlerFrames, .ref r_S_handlerPlaces, .ref r_S_handlerHeights, .ref r_S_handlerDepths, .int S_handlers])), (r_S_values, .inl (cL, n_S_values, .inr (.inl (vp_updL f_S_values (f_S_bases (S_frames - 1).toNatClampNeg).toNatClampNeg z1_1)))), (r_S_bases, .inl (cI, n_S_bases, .inl f_S_bases)), (r_S_floors, .inl (cI, n_S_floors, .inl f_S_floors)), (r_S_closures, .inl (cL, n_S_closures, .inr (.inl (vp_updL f_S_closures (S_frames - 1).toNatClampNeg z2_1))))] := hD
  refine lv_aload_n hx hb d_Stacks_become_54 rfl (lv_at hl 1 rfl) ?_
  refine va_get (D := (dC, dI)) (ci := 2) (v := .ref r_S_floors) (C := R_Stacks) (T := F_Stacks) (N := 12) hx hb hg i_Stacks hown hK hP 0 rfl rfl 3 (by decide) (hg _ k57) (fun _ h9 => h9) rfl d_Stacks_become_55 ?_
  refine lv_aload_n hx hb d_Stacks_become_58 rfl (lv_at hl 1 rfl) ?_
  refine va_get (D := (dC, dI)) (ci := 2) (v := .int S_frames) (C := R_Stacks) (T := F_Stacks) (N := 12) hx hb hg i_Stacks hown hK hP 0 rfl rfl 6 (by decide) (hg _ k54) (fun _ h9 => h9) rfl d_Stacks_become_59 ?_
  refine lv_iconst (v := 1) hx hb d_Stacks_become_62 (by decide) ?_
  refine lv_isub hx hb d_Stacks_become_63 ?_
  refine lv_aload_n hx hb d_Stacks_become_64 rfl (lv_at hl 1 rfl) ?_
  refine va_get (D := (dC, dI)) (ci := 2) (v := .int ((f_S_bases (S_frames - 1).toNatClampNeg) + 1)) (C := R_Stacks) (T := F_Stacks) (N := 12) hx hb hg i_Stacks hown hK hP 0 rfl rfl 1 (by decide) (hg _ k53) (fun _ h9 => h9) rfl d_Stacks_become_65 ?_
  obtain ⟨i6, h⟩ := dz_oi h
  refine va_iast (D := (dC, dI)) hx hb hK hP hD hS 3 0 rfl rfl i6 d_Stacks_become_68 (fun H locs hP hD hS => ?_)
  have hP : va_P (dC, dI) classes [(o_Stacks, .inr (2, [.ref r_S_values, .int ((f_S_bases (S_frames - 1).toNatClampNeg) + 1), .ref r_S_bases, .ref r_S_floors, .ref r_S_returns, .ref r_S_closures, .int S_frames, .ref r_S_handlerFrames, .ref r_S_handlerPlaces, .ref r_S_handlerHeights, .ref r_S_handlerDepths, .int S_handlers])), (r_S_values, .inl (cL, n_S_values, .inr (.inl (vp_updL f_S_values (f_S_bases (S_frames - 1).toNatClampNeg).toNatClampNeg z1_1)))), (r_S_bases, .inl (cI, n_S_bases, .inl f_S_bases)), (r_S_floors, .inl (cI, n_S_floors, .inl (upd f_S_floors (S_frames - 1).toNatClampNeg ((f_S_bases (S_frames - 1).toNatClampNeg) + 1)))), (r_S_closures, .inl (cL, n_S_closures, .inr (.inl (vp_updL f_S_closures (S_frames - 1).toNatClampNeg z2_1))))] H := hP
  have hD : va_D A [(o_Stacks, .inr (2, [.ref r_S_values, .int ((f_S_bases (S_frames - 1).toNatClampNeg) + 1), .ref r_S_bases, .ref r_S_floors, .ref r_S_returns, .ref r_S_closures, .int S_frames, .ref r_S_handlerFrames, .ref r_S_handlerPlaces, .ref r_S_handlerHeights, .ref r_S_handlerDepths, .int S_handlers])), (r_S_values, .inl (cL, n_S_values, .inr (.inl (vp_updL f_S_values (f_S_bases (S_frames - 1).toNatClampNeg).toNatClampNeg z1_1)))), (r_S_bases, .inl (cI, n_S_bases, .inl f_S_bases)), (r_S_floors, .inl (cI, n_S_floors, .inl (upd f_S_floors (S_frames - 1).toNatClampNeg ((f_S_bases (S_frames - 1).toNatClampNeg) + 1)))), (r_S_closures, .inl (cL, n_S_closures, .inr (.inl (vp_updL f_S_closures (S_frames - 1).toNatClampNeg z2_1))))] := hD
  obtain rfl := Option.some.inj h
  have hP9 := hP.sub (ws' := [(o_Stacks, .inr (2, [.ref r_S_values, .int ((f_S_bases (S_frames - 1).toNatClampNeg) + 1), .ref r_S_bases, .ref r_S_floors, .ref r_S_returns, .ref r_S_closures, .int S_frames, .ref r_S_handlerFrames, .ref r_S_handlerPlaces, .ref r_S_handlerHeights, .ref r_S_handlerDepths, .int S_handlers])), (r_S_values, .inl (cL, n_S_values, .inr (.inl (vp_updL f_S_values (f_S_bases (S_frames - 1).toNatClampNeg).toNatClampNeg z1_1)))), (r_S_bases, .inl (cI, n_S_bases, .inl f_S_bases)), (r_S_floors, .inl (cI, n_S_floors, .inl (upd f_S_floors (S_frames - 1).toNatClampNeg ((f_S_bases (S_frames - 1).toNatClampNeg) + 1)))), (r_S_closures, .inl (cL, n_S_closures, .inr (.inl (vp_updL f_S_closures (S_frames - 1).toNatClampNeg z2_1))))]) [0, 1, 2, 3, 4] rfl
  have hD9 := hD.sub (ws' := [(o_Stacks, .inr (2, [.ref r_S_values, .int ((f_S_bases (S_frames - 1).toNatClampNeg) + 1), .ref r_S_bases, .ref r_S_floors, .ref r_S_returns, .ref r_S_closures, .int S_frames, .ref r_S_handlerFrames, .ref r_S_handlerPlaces, .ref r_S_handlerHeights, .ref r_S_handlerDepths, .int S_handlers])), (r_S_values, .inl (cL, n_S_values, .inr (.inl (vp_updL f_S_values (f_S_bases (S_frames - 1).toNatClampNeg).toNatClampNeg z1_1)))), (r_S_bases, .inl (cI, n_S_bases, .inl f_S_bases)), (r_S_floors, .inl (cI, n_S_floors, .inl (upd f_S_floors (S_frames - 1).toNatClampNeg ((f_S_bases (S_frames - 1).toNatClampNeg) + 1)))), (r_S_closures, .inl (cL, n_S_closures, .inr (.inl (vp_updL f_S_closures (S_frames - 1).toNatClampNeg z2_1))))]) [0, 1, 2, 3, 4] (by decide) rfl
  have hK9 := hK.sub (tys' := [(cI, .int), (cL, .long)]) [0, 1] rfl
  exact W.vret hx hb hr (fun t ht hW => ⟨⟨(), rfl, trivial, by rw [ht]; exact hP9, va_K.moved hW.alike hK9, hD9⟩, hS.F ht⟩) hS.2.2 d_Stacks_become_69

set_option maxHeartbeats 4000000 in
set_option maxRecDepth 100000 in
theorem c_Stacks_leave (l : Launch) (dC : Nat → ClassId) (dI : Nat → Nat → Nat) (N : Nat) (cI : ClassId) (cL : ClassId) (o_Stacks : Nat) (r_S_values : Nat) (r_S_bases : Nat) (r_S_floors : Nat) (r_S_returns : Nat) (r_S_closures : Nat) (r_S_handlerFrames : Nat) (r_S_handlerPlaces : Nat) (r_S_handlerHeights : Nat) (r_S_handlerDepths : Nat) (S_top : Int32) (S_frames : Int32) (S_handlers : Int32) (n_S_values : Nat) (f_S_values : Nat → Int64) (n_S_bases : Nat) (f_S_bases : Nat → Int32) (n_S_returns : Nat) (f_S_returns : Nat → Int32) (sz : Nat) (z : Int32 × (Nat → Int64) × Int32 × Int32) (h : m_Stacks_leave N S_top S_frames S_handlers n_S_values f_S_values n_S_bases f_S_bases n_S_returns f_S_returns = some z) : Met l y_Stacks_leave (.code y_Stacks_leave b_Stacks_leave 3 (some .int) :: lw_g) ({ frames := 1, cells := 0, slots := 0, locals := 21 }) (va_Pc [.ref o_Stacks] (fun U => dz_N U ∧ U.heap.size = sz ∧ va_P (dC, dI) classes [(o_Stacks, .inr (2, [.ref r_S_values, .int S_top, .ref r_S_bases, .ref r_S_floors, .ref r_S_returns, .ref r_S_closures, .int S_frames, .ref r_S_handlerFrames, .ref r_S_handlerPlaces, .ref r_S_handlerHeights, .ref r_S_handlerDepths, .int S_handlers])), (r_S_values, .inl (cL, n_S_values, .inr (.inl f_S_values))), (r_S_bases, .inl (cI, n_S_bases, .inl f_S_bases)), (r_S_returns, .inl (cI, n_S_returns, .inl f_S_returns))] U.heap ∧ va_K (dC, dI) classes [(cI, .int), (cL, .long)] U ∧ va_D (fun _ => True) [(o_Stacks, .inr (2, [.ref r_S_values, .int S_top, .ref r_S_bases, .ref r_S_floors, .ref r_S_returns, .ref r_S_closures, .int S_frames, .ref r_S_handlerFrames, .ref r_S_handlerPlaces, .ref r_S_handlerHeights, .ref r_S_handlerDepths, .int S_handlers])), (r_S_values, .inl (cL, n_S_values, .inr (.inl f_S_values))), (r_S_bases, .inl (cI, n_S_bases, .inl f_S_bases)), (r_S_returns, .inl (cI, n_S_returns, .inl f_S_returns))])) (va_Qi (fun (r : Int32) (_ : Unit) => r = z.1) (fun (u : Unit) t => va_P (dC, dI) classes [(o_Stacks, .inr (2, [.ref r_S_values, .int z.2.2.2, .ref r_S_bases, .ref r_S_floors, .ref r_S_returns, .ref r_S_closures, .int z.2.2.1, .ref r_S_handlerFrames, .ref r_S_handlerPlaces, .ref r_S_handlerHeights, .ref r_S_handlerDepths, .int S_handlers])), (r_S_values, .inl (cL, n_S_values, .inr (.inl z.2.1))), (r_S_bases, .inl (cI, n_S_bases, .inl f_S_bases)), (r_S_returns, .inl (cI, n_S_returns, .inl f_S_returns))] t.heap ∧ va_K (dC, dI) classes [(cI, .int), (cL, .long)] t ∧ va_D (va_A [(o_Stacks, .inr (2, [.ref r_S_values, .int S_top, .ref r_S_bases, .ref r_S_floors, .ref r_S_returns, .ref r_S_closures, .int S_frames, .ref r_S_handlerFrames, .ref r_S_handlerPlaces, .ref r_S_handlerHeights, .ref r_S_handlerDepths, .int S_handlers])), (r_S_values, .inl (cL, n_S_values, .inr (.inl f_S_values))), (r_S_bases, .inl (cI, n_S_bases, .inl f_S_bases)), (r_S_returns, .inl (cI, n_S_returns, .inl f_S_returns))] sz) [(o_Stacks, .inr (2, [.ref r_S_values, .int z.2.2.2, .ref r_S_bases, .ref r_S_floors, .ref r_S_returns, .ref r_S_closures, .int z.2.2.1, .ref r_S_handlerFrames, .ref r_S_handlerPlaces, .ref r_S_handlerHeights, .ref r_S_handlerDepths, .int S_handlers])), (r_S_values, .inl (cL, n_S_values, .inr (.inl z.2.1))), (r_S_bases, .inl (cI, n_S_bases, .inl f_S_bases)), (r_S_returns, .inl (cI, n_S_returns, .inl f_S_returns))]) (va_A [(o_Stacks, .inr (2, [.ref r_S_values, .int S_top, .ref r_S_bases, .ref r_S_floors, .ref r_S_returns, .ref r_S_closures, .int S_frames, .ref r_S_handlerFrames, .ref r_S_handlerPlaces, .ref r_S_handlerHeights, .ref r_S_handlerDepths, .int S_handlers])), (r_S_values, .inl (cL, n_S_values, .inr (.inl f_S_values))), (r_S_bases, .inl (cI, n_S_bases, .inl f_S_bases)), (r_S_returns, .inl (cI, n_S_returns, .inl f_S_returns))] sz)) 0 0 (va_A [(o_Stacks, .inr (2, [.ref r_S_values, .int S_top, .ref r_S_bases, .ref r_S_floors, .ref r_S_returns, .ref r_S_closures, .int S_frames, .ref r_S_handlerFrames, .ref r_S_handlerPlaces, .ref r_S_handlerHeights, .ref r_S_handlerDepths, .int S_handlers])), (r_S_values, .inl (cL, n_S_values, .inr (.inl f_S_values))), (r_S_bases, .inl (cI, n_S_bases, .inl f_S_bases)), (r_S_returns, .inl (cI, n_S_returns, .inl f_S_returns))] sz) := by
  refine Met.ofW (cc := b_Stacks_leave) (maxL := 3) (ret := (some .int)) (by decide +kernel) rfl ?_
  intro p e s m args below meth c s₁ B hml hv
  obtain ⟨rfl, hN, hsz, hP, hK, hD0⟩ := hv
  have hx := B.exec
  have hb := B.bytes
  have hr := B.returns
  have hg : ∀ w ∈ lw_g, w.before _ s = true := fun w hw => atoms_spec (ws := .code y_Stacks_leave b_Stacks_leave 3 (some .int) :: lw_g) B.pre w (List.mem_cons_of_mem _ hw)
  have hown : s.vm.findClass R_Stacks = some m.cls := findClass_of_methodNamed B.named
  have hlocks := B.notSynchronized
  clear B
  subst hsz
  have hD := hD0.self (sz := s.heap.size)
  generalize hAe : va_A [(o_Stacks, .inr (2, [.ref r_S_values, .int S_top, .ref r_S_bases, .ref r_S_floors, .ref r_S_returns, .ref r_S_closures, .int S_frames, .ref r_S_handlerFrames, .ref r_S_handlerPlaces, .ref r_S_handlerHeights, .ref r_S_handlerDepths, .int S_handlers])), (r_S_values, .inl (cL, n_S_values, .inr (.inl f_S_values))), (r_S_bases, .inl (cI, n_S_bases, .inl f_S_bases)), (r_S_returns, .inl (cI, n_S_returns, .inl f_S_returns))] s.heap.size = A at hD ⊢
  have hA : ∀ q : Nat, s.heap.size ≤ q → A q := fun q h => by rw [← hAe]; exact Or.inr h
  have hS : va_S A s.heap s.heap [] := va_S.rf
  have hP : va_P (dC, dI) classes [(o_Stacks, .inr (2, [.ref r_S_values, .int S_top, .ref r_S_bases, .ref r_S_floors, .ref r_S_returns, .ref r_S_closures, .int S_frames, .ref r_S_handlerFrames, .ref r_S_handlerPlaces, .ref r_S_handlerHeights, .ref r_S_handlerDepths, .int S_handlers])), (r_S_values, .inl (cL, n_S_values, .inr (.inl f_S_values))), (r_S_bases, .inl (cI, n_S_bases, .inl f_S_bases)), (r_S_returns, .inl (cI, n_S_returns, .inl f_S_returns))] s.heap := hP
  have hl := lv_entry ([.ref o_Stacks]) (n := 3) (Nat.le_of_ble_eq_true rfl)
  rw [lg_entry_eq]
  generalize (lg_sl ([.ref o_Stacks]) ++ List.replicate (3 - (lg_sl ([.ref o_Stacks])).length) Slot.unset).toArray = ls at hl ⊢
  have hl : lv_has ls 3 [(0, .ref o_Stacks)] := hl
  unfold m_Stacks_leave at h
  refine lv_aload_n hx hb d_Stacks_leave_0 rfl (lv_at hl 0 rfl) ?_
  refine lv_iconst (v := 0) hx hb d_Stacks_leave_1 (by decide) ?_
  obtain ⟨z1_1, hc1, h⟩ := dz_ob h
  try dsimp only at h
  have hPc := hP.sub (ws' := [(o_Stacks, .inr (2, [.ref r_S_values, .int S_top, .ref r_S_bases, .ref r_S_floors, .ref r_S_returns, .ref r_S_closures, .int S_frames, .ref r_S_handlerFrames, .ref r_S_handlerPlaces, .ref r_S_handlerHeights, .ref r_S_handlerDepths, .int S_handlers])), (r_S_values, .inl (cL, n_S_values, .inr (.inl f_S_values)))]) [0, 1] rfl
  have hKc := hK.sub (tys' := [(cL, .long)]) [1] rfl
  refine vp_callSl (va_Run.run (va_runV (As := [.int 0]) (rest := []) ⟨hx, hb, hml, hown, hg⟩ (c_Stacks_peek l dC dI N cL o_Stacks r_S_values r_S_bases r_S_floors r_S_returns r_S_closures r_S_handlerFrames r_S_handlerPlaces r_S_handlerHeights r_S_handlerDepths S_top S_frames S_handlers n_S_values f_S_values (0 : Int32) z1_1 hc1) (cwV 1 hg (gd_V k87 k88 k89 k64 k86) rfl rfl rfl (by decide +kernel) ⟨Nat.le_of_ble_eq_true rfl, Nat.le_of_ble_eq_true rfl⟩) ⟨dz_blindR, va_recv hKc hPc (ci := 2) (q0 := 0) rfl rfl, fun U hU hW => ⟨rfl, dz_Nw hW hN, by rw [hU]; exact hPc, va_K.moved hW.alike hKc⟩⟩ rfl rfl hl.1 rfl (lv_room (Nat.le_of_ble_eq_true rfl)) d_Stacks_leave_2 ⟨Nat.le_of_ble_eq_true rfl, Nat.le_of_ble_eq_true rfl⟩)) (fun r1 hw => ?_)
  have hw : z1_1 = r1 := hw.symm
  subst hw
  refine lv_lstore_n (lv' := [(1, .long z1_1), (0, .ref o_Stacks)]) hx hb d_Stacks_leave_5 rfl hl (by decide) rfl (fun ls hl => ?_)
  refine lv_aload_n hx hb d_Stacks_leave_6 rfl (lv_at hl 1 rfl) ?_
  refine lv_dup hx hb d_Stacks_leave_7 rfl ?_
  refine va_get (D := (dC, dI)) (ci := 2) (v := .int S_frames) (C := R_Stacks) (T := F_Stacks) (N := 12) hx hb hg i_Stacks hown hK hP 0 rfl rfl 6 (by decide) (hg _ k54) (fun _ h9 => h9) rfl d_Stacks_leave_8 ?_
  refine lv_iconst (v := 1) hx hb d_Stacks_leave_11 (by decide) ?_
  refine lv_isub hx hb d_Stacks_leave_12 ?_
  refine va_put (D := (dC, dI)) (ci := 2) (v := .int (S_frames - 1)) (ty := .int) (C := R_Stacks) (T := F_Stacks) (N := 12) hx hb hg i_Stacks t_Stacks t_Stacks_ok n_Stacks hown hK hP hD hS 0 rfl rfl 6 (by decide) (hg _ k54) (fun _ h9 => h9) rfl (by decide +kernel) rfl rfl (Nat.le_of_ble_eq_true rfl) d_Stacks_leave_13 (fun H locs hP hD hS => ?_)
  have hP : va_P (dC, dI) classes [(o_Stacks, .inr (2, [.ref r_S_values, .int S_top, .ref r_S_bases, .ref r_S_floors, .ref r_S_returns, .ref r_S_closures, .int (S_frames - 1), .ref r_S_handlerFrames, .ref r_S_handlerPlaces, .ref r_S_handlerHeights, .ref r_S_handlerDepths, .int S_handlers])), (r_S_values, .inl (cL, n_S_values, .inr (.inl f_S_values))), (r_S_bases, .inl (cI, n_S_bases, .inl f_S_bases)), (r_S_returns, .inl (cI, n_S_returns, .inl f_S_returns))] H := hP
  have hD : va_D A [(o_Stacks, .inr (2, [.ref r_S_values, .int S_top, .ref r_S_bases, .ref r_S_floors, .ref r_S_returns, .ref r_S_closures, .int (S_frames - 1), .ref r_S_handlerFrames, .ref r_S_handlerPlaces, .ref r_S_handlerHeights, .ref r_S_handlerDepths, .int S_handlers])), (r_S_values, .inl (cL, n_S_values, .inr (.inl f_S_values))), (r_S_bases, .inl (cI, n_S_bases, .inl f_S_bases)), (r_S_returns, .inl (cI, n_S_returns, .inl f_S_returns))] := hD
  refine lv_aload_n hx hb d_Stacks_leave_16 rfl (lv_at hl 1 rfl) ?_
  refine lv_aload_n hx hb d_Stacks_leave_17 rfl (lv_at hl 1 rfl) ?_
  refine va_get (D := (dC, dI)) (ci := 2) (v := .ref r_S_bases) (C := R_Stacks) (T := F_Stacks) (N := 12) hx hb hg i_Stacks hown hK hP 0 rfl rfl 2 (by decide) (hg _ k56) (fun _ h9 => h9) rfl d_Stacks_leave_18 ?_
  refine lv_aload_n hx hb d_Stacks_leave_21 rfl (lv_at hl 1 rfl) ?_
  refine va_get (D := (dC, dI)) (ci := 2) (v := .int (S_frames - 1)) (C := R_Stacks) (T := F_Stacks) (N := 12) hx hb hg i_Stacks hown hK hP 0 rfl rfl 6 (by decide) (hg _ k54) (fun _ h9 => h9) rfl d_Stacks_leave_22 ?_
  obtain ⟨i2, h⟩ := dz_oi h
  refine va_iald (D := (dC, dI)) hx hb hK hP 2 0 rfl rfl i2 d_Stacks_leave_25 ?_
  refine va_put (D := (dC, dI)) (ci := 2) (v := .int (f_S_bases (S_frames - 1).toNatClampNeg)) (ty := .int) (C := R_Stacks) (T := F_Stacks) (N := 12) hx hb hg i_Stacks t_Stacks t_Stacks_ok n_Stacks hown hK hP hD hS 0 rfl rfl 1 (by decide) (hg _ k53) (fun _ h9 => h9) rfl (by decide +kernel) rfl rfl (Nat.le_of_ble_eq_true rfl) d_Stacks_leave_26 (fun H locs hP hD hS => ?_)
  have hP : va_P (dC, dI) classes [(o_Stacks, .inr (2, [.ref r_S_values, .int (f_S_bases (S_frames - 1).toNatClampNeg), .ref r_S_bases, .ref r_S_floors, .ref r_S_returns, .ref r_S_closures, .int (S_frames - 1), .ref r_S_handlerFrames, .ref r_S_handlerPlaces, .ref r_S_handlerHeights, .ref r_S_handlerDepths, .int S_handlers])), (r_S_values, .inl (cL, n_S_values, .inr (.inl f_S_values))), (r_S_bases, .inl (cI, n_S_bases, .inl f_S_bases)), (r_S_returns, .inl (cI, n_S_returns, .inl f_S_returns))] H := hP
  have hD : va_D A [(o_Stacks, .inr (2, [.ref r_S_values, .int (f_S_bases (S_frames - 1).toNatClampNeg), .ref r_S_bases, .ref r_S_floors, .ref r_S_returns, .ref r_S_closures, .int (S_frames - 1), .ref r_S_handlerFrames, .ref r_S_handlerPlaces, .ref r_S_handlerHeights, .ref r_S_handlerDepths, .int S_handlers])), (r_S_values, .inl (cL, n_S_values, .inr (.inl f_S_values))), (r_S_bases, .inl (cI, n_S_bases, .inl f_S_bases)), (r_S_returns, .inl (cI, n_S_returns, .inl f_S_returns))] := hD
  refine lv_aload_n hx hb d_Stacks_leave_29 rfl (lv_at hl 1 rfl) ?_
  refine va_get (D := (dC, dI)) (ci := 2) (v := .ref r_S_values) (C := R_Stacks) (T := F_Stacks) (N := 12) hx hb hg i_Stacks hown hK hP 0 rfl rfl 0 (by decide) (hg _ k65) (fun _ h9 => h9) rfl d_Stacks_leave_30 ?_
  refine lv_aload_n hx hb d_Stacks_leave_33 rfl (lv_at hl 1 rfl) ?_
  refine lv_dup hx hb d_Stacks_leave_34 rfl ?_
  refine va_get (D := (dC, dI)) (ci := 2) (v := .int (f_S_bases (S_frames - 1).toNatClampNeg)) (C := R_Stacks) (T := F_Stacks) (N := 12) hx hb hg i_Stacks hown hK hP 0 rfl rfl 1 (by decide) (hg _ k53) (fun _ h9 => h9) rfl d_Stacks_leave_35 ?_
  refine lv_dup_x1 hx hb d_Stacks_leave_38 rfl rfl ?_
  refine lv_iconst (v := 1) hx hb d_Stacks_leave_39 (by decide) ?_
  refine lv_iadd hx hb d_Stacks_leave_40 ?_
  refine va_put (D := (dC, dI)) (ci := 2) (v := .int ((f_S_bases (S_frames - 1).toNatClampNeg) + 1)) (ty := .int) (C := R_Stacks) (T := F_Stacks) (N := 12) hx hb hg i_Stacks t_Stacks t_Stacks_ok n_Stacks hown hK hP hD hS 0 rfl rfl 1 (by decide) (hg _ k53) (fun _ h9 => h9) rfl (by decide +kernel) rfl rfl (Nat.le_of_ble_eq_true rfl) d_Stacks_leave_41 (fun H locs hP hD hS => ?_)
  have hP : va_P (dC, dI) classes [(o_Stacks, .inr (2, [.ref r_S_values, .int ((f_S_bases (S_frames - 1).toNatClampNeg) + 1), .ref r_S_bases, .ref r_S_floors, .ref r_S_returns, .ref r_S_closures, .int (S_frames - 1), .ref r_S_handlerFrames, .ref r_S_handlerPlaces, .ref r_S_handlerHeights, .ref r_S_handlerDepths, .int S_handlers])), (r_S_values, .inl (cL, n_S_values, .inr (.inl f_S_values))), (r_S_bases, .inl (cI, n_S_bases, .inl f_S_bases)), (r_S_returns, .inl (cI, n_S_returns, .inl f_S_returns))] H := hP
  have hD : va_D A [(o_Stacks, .inr (2, [.ref r_S_values, .int ((f_S_bases (S_frames - 1).toNatClampNeg) + 1), .ref r_S_bases, .ref r_S_floors, .ref r_S_returns, .ref r_S_closures, .int (S_frames - 1), .ref r_S_handlerFrames, .ref r_S_handlerPlaces, .ref r_S_handlerHeights, .ref r_S_handlerDepths, .int S_handlers])), (r_S_values, .inl (cL, n_S_values, .inr (.inl f_S_values))), (r_S_bases, .inl (cI, n_S_bases, .inl f_S_bases)), (r_S_returns, .inl (cI, n_S_returns, .inl f_S_returns))] := hD
  refine lv_lload_n hx hb d_Stacks_leave_44 rfl (lv_at hl 0 rfl) ?_
  obtain ⟨i3, h⟩ := dz_oi h
  refine va_last (D := (dC, dI)) hx hb hK hP hD hS 1 1 rfl rfl i3 d_Stacks_leave_45 (fun H locs hP hD hS => ?_)
  have hP : va_P (dC, dI) classes [(o_Stacks, .inr (2, [.ref r_S_values, .int ((f_S_bases (S_frames - 1).toNatClampNeg) + 1), .ref r_S_bases, .ref r_S_floors, .ref r_S_returns, .ref r_S_closures, .int (S_frames - 1), .ref r_S_handlerFrames, .ref r_S_handlerPlaces, .ref r_S_handlerHeights, .ref r_S_handlerDepths, .int S_handlers])), (r_S_values, .inl (cL, n_S_values, .inr (.inl (vp_updL f_S_values (f_S_bases (S_frames - 1).toNatClampNeg).toNatClampNeg z1_1)))), (r_S_bases, .inl (cI, n_S_bases, .inl f_S_bases)), (r_S_returns, .inl (cI, n_S_returns, .inl f_S_returns))] H := hP
  have hD : va_D A [(o_Stacks, .inr (2, [.ref r_S_values, .int ((f_S_bases (S_frames - 1).toNatClampNeg) + 1), .ref r_S_bases, .ref r_S_floors, .ref r_S_returns, .ref r_S_closures, .int (S_frames - 1), .ref r_S_handlerFrames, .ref r_S_handlerPlaces, .ref r_S_handlerHeights, .ref r_S_handlerDepths, .int S_handlers])), (r_S_values, .inl (cL, n_S_values, .inr (.inl (vp_updL f_S_values (f_S_bases (S_frames - 1).toNatClampNeg).toNatClampNeg z1_1)))), (r_S_bases, .inl (cI, n_S_bases, .inl f_S_bases)), (r_S_returns, .inl (cI, n_S_returns, .inl f_S_returns))] := hD
  refine lv_aload_n hx hb d_Stacks_leave_46 rfl (lv_at hl 1 rfl) ?_
  refine va_get (D := (dC, dI)) (ci := 2) (v := .ref r_S_returns) (C := R_Stacks) (T := F_Stacks) (N := 12) hx hb hg i_Stacks hown hK hP 0 rfl rfl 4 (by decide) (hg _ k58) (fun _ h9 => h9) rfl d_Stacks_leave_47 ?_
  refine lv_aload_n hx hb d_Stacks_leave_50 rfl (lv_at hl 1 rfl) ?_
  refine va_get (D := (dC, dI)) (ci := 2) (v := .int (S_frames - 1)) (C := R_Stacks) (T := F_Stacks) (N := 12) hx hb hg i_Stacks hown hK hP 0 rfl rfl 6 (by decide) (hg _ k54) (fun _ h9 => h9) rfl d_Stacks_leave_51 ?_
  obtain ⟨i4, h⟩ := dz_oi h
  refine va_iald (D := (dC, dI)) hx hb hK hP 3 0 rfl rfl i4 d_Stacks_leave_54 ?_
  obtain rfl := Option.some.inj h
  have hP9 := hP.sub (ws' := [(o_Stacks, .inr (2, [.ref r_S_values, .int ((f_S_bases (S_frames - 1).toNatClampNeg) + 1), .ref r_S_bases, .ref r_S_floors, .ref r_S_returns, .ref r_S_closures, .int (S_frames - 1), .ref r_S_handlerFrames, .ref r_S_handlerPlaces, .ref r_S_handlerHeights, .ref r_S_handlerDepths, .int S_handlers])), (r_S_values, .inl (cL, n_S_values, .inr (.inl (vp_updL f_S_values (f_S_bases (S_frames - 1).toNatClampNeg).toNatClampNeg z1_1)))), (r_S_bases, .inl (cI, n_S_bases, .inl f_S_bases)), (r_S_returns, .inl (cI, n_S_returns, .inl f_S_returns))]) [0, 1, 2, 3] rfl
  have hD9 := hD.sub (ws' := [(o_Stacks, .inr (2, [.ref r_S_values, .int ((f_S_bases (S_frames - 1).toNatClampNeg) + 1), .ref r_S_bases, .ref r_S_floors, .ref r_S_returns, .ref r_S_closures, .int (S_frames - 1), .ref r_S_handlerFrames, .ref r_S_handlerPlaces, .ref r_S_handlerHeights, .ref r_S_handlerDepths, .int S_handlers])), (r_S_values, .inl (cL, n_S_values, .inr (.inl (vp_updL f_S_values (f_S_bases (S_frames - 1).toNatClampNeg).toNatClampNeg z1_1)))), (r_S_bases, .inl (cI, n_S_bases, .inl f_S_bases)), (r_S_returns, .inl (cI, n_S_returns, .inl f_S_returns))]) [0, 1, 2, 3] (by decide) rfl
  have hK9 := hK.sub (tys' := [(cI, .int), (cL, .long)]) [0, 1] rfl
  exact W.iret (v := f_S_returns (S_frames - 1).toNatClampNeg) hx hb hr (fun t ht hW => ⟨⟨f_S_returns (S_frames - 1).toNatClampNeg, (), rfl, rfl, by rw [ht]; exact hP9, va_K.moved hW.alike hK9, hD9⟩, hS.F ht⟩) hS.2.2 d_Stacks_leave_55

set_option maxHeartbeats 4000000 in
set_option maxRecDepth 100000 in
theorem c_Stacks_widenHandlers (l : Launch) (dC : Nat → ClassId) (dI : Nat → Nat → Nat) (N : Nat) (cI : ClassId) (o_Stacks : Nat) (r_S_values : Nat) (r_S_bases : Nat) (r_S_floors : Nat) (r_S_returns : Nat) (r_S_closures : Nat) (r_S_handlerFrames : Nat) (r_S_handlerPlaces : Nat) (r_S_handlerHeights : Nat) (r_S_handlerDepths : Nat) (S_top : Int32) (S_frames : Int32) (S_handlers : Int32) (n_S_handlerFrames : Nat) (f_S_handlerFrames : Nat → Int32) (n_S_handlerPlaces : Nat) (f_S_handlerPlaces : Nat → Int32) (n_S_handlerHeights : Nat) (f_S_handlerHeights : Nat → Int32) (n_S_handlerDepths : Nat) (f_S_handlerDepths : Nat → Int32) (sz : Nat) (Z1 : Nat × (Nat → Int32) × Nat × (Nat → Int32) × Nat × (Nat → Int32) × Nat × (Nat → Int32)) (Zc Zs : Nat) (h : m_Stacks_widenHandlers N S_top S_frames S_handlers n_S_handlerFrames f_S_handlerFrames n_S_handlerPlaces f_S_handlerPlaces n_S_handlerHeights f_S_handlerHeights n_S_handlerDepths f_S_handlerDepths = some (Z1, Zc, Zs)) : Met l y_Stacks_widenHandlers (.code y_Stacks_widenHandlers b_Stacks_widenHandlers 2 none :: lw_g) ({ frames := 2, cells := Zc, slots := Zs, locals := 82 }) (va_Pc [.ref o_Stacks] (fun U => dz_N U ∧ U.heap.size = sz ∧ va_P (dC, dI) classes [(o_Stacks, .inr (2, [.ref r_S_values, .int S_top, .ref r_S_bases, .ref r_S_floors, .ref r_S_returns, .ref r_S_closures, .int S_frames, .ref r_S_handlerFrames, .ref r_S_handlerPlaces, .ref r_S_handlerHeights, .ref r_S_handlerDepths, .int S_handlers])), (r_S_handlerFrames, .inl (cI, n_S_handlerFrames, .inl f_S_handlerFrames)), (r_S_handlerPlaces, .inl (cI, n_S_handlerPlaces, .inl f_S_handlerPlaces)), (r_S_handlerHeights, .inl (cI, n_S_handlerHeights, .inl f_S_handlerHeights)), (r_S_handlerDepths, .inl (cI, n_S_handlerDepths, .inl f_S_handlerDepths))] U.heap ∧ va_K (dC, dI) classes [(cI, .int)] U ∧ va_D (fun _ => True) [(o_Stacks, .inr (2, [.ref r_S_values, .int S_top, .ref r_S_bases, .ref r_S_floors, .ref r_S_returns, .ref r_S_closures, .int S_frames, .ref r_S_handlerFrames, .ref r_S_handlerPlaces, .ref r_S_handlerHeights, .ref r_S_handlerDepths, .int S_handlers])), (r_S_handlerFrames, .inl (cI, n_S_handlerFrames, .inl f_S_handlerFrames)), (r_S_handlerPlaces, .inl (cI, n_S_handlerPlaces, .inl f_S_handlerPlaces)), (r_S_handlerHeights, .inl (cI, n_S_handlerHeights, .inl f_S_handlerHeights)), (r_S_handlerDepths, .inl (cI, n_S_handlerDepths, .inl f_S_handlerDepths))])) (va_Qv (fun (_ : Nat × Nat × Nat × Nat) => True) (fun (u : Nat × Nat × Nat × Nat) t => va_P (dC, dI) classes [(o_Stacks, .inr (2, [.ref r_S_values, .int S_top, .ref r_S_bases, .ref r_S_floors, .ref r_S_returns, .ref r_S_closures, .int S_frames, .ref u.2.1, .ref u.2.2.2, .ref u.2.2.1, .ref u.1, .int S_handlers])), (u.2.1, .inl (cI, Z1.2.2.1, .inl Z1.2.2.2.1)), (u.2.2.2, .inl (cI, Z1.2.2.2.2.2.2.1, .inl Z1.2.2.2.2.2.2.2)), (u.2.2.1, .inl (cI, Z1.2.2.2.2.1, .inl Z1.2.2.2.2.2.1)), (u.1, .inl (cI, Z1.1, .inl Z1.2.1))] t.heap ∧ va_K (dC, dI) classes [(cI, .int)] t ∧ va_D (va_A [(o_Stacks, .inr (2, [.ref r_S_values, .int S_top, .ref r_S_bases, .ref r_S_floors, .ref r_S_returns, .ref r_S_closures, .int S_frames, .ref r_S_handlerFrames, .ref r_S_handlerPlaces, .ref r_S_handlerHeights, .ref r_S_handlerDepths, .int S_handlers])), (r_S_handlerFrames, .inl (cI, n_S_handlerFrames, .inl f_S_handlerFrames)), (r_S_handlerPlaces, .inl (cI, n_S_handlerPlaces, .inl f_S_handlerPlaces)), (r_S_handlerHeights, .inl (cI, n_S_handlerHeights, .inl f_S_handlerHeights)), (r_S_handlerDepths, .inl (cI, n_S_handlerDepths, .inl f_S_handlerDepths))] sz) [(o_Stacks, .inr (2, [.ref r_S_values, .int S_top, .ref r_S_bases, .ref r_S_floors, .ref r_S_returns, .ref r_S_closures, .int S_frames, .ref u.2.1, .ref u.2.2.2, .ref u.2.2.1, .ref u.1, .int S_handlers])), (u.2.1, .inl (cI, Z1.2.2.1, .inl Z1.2.2.2.1)), (u.2.2.2, .inl (cI, Z1.2.2.2.2.2.2.1, .inl Z1.2.2.2.2.2.2.2)), (u.2.2.1, .inl (cI, Z1.2.2.2.2.1, .inl Z1.2.2.2.2.2.1)), (u.1, .inl (cI, Z1.1, .inl Z1.2.1))]) (va_A [(o_Stacks, .inr (2, [.ref r_S_values, .int S_top, .ref r_S_bases, .ref r_S_floors, .ref r_S_returns, .ref r_S_closures, .int S_frames, .ref r_S_handlerFrames, .ref r_S_handlerPlaces, .ref r_S_handlerHeights, .ref r_S_handlerDepths, .int S_handlers])), (r_S_handlerFrames, .inl (cI, n_S_handlerFrames, .inl f_S_handlerFrames)), (r_S_handlerPlaces, .inl (cI, n_S_handlerPlaces, .inl f_S_handlerPlaces)), (r_S_handlerHeights, .inl (cI, n_S_handlerHeights, .inl f_S_handlerHeights)), (r_S_handlerDepths, .inl (cI, n_S_handlerDepths, .inl f_S_handlerDepths))] sz)) Zc Zs (va_A [(o_Stacks, .inr (2, [.ref r_S_values, .int S_top, .ref r_S_bases, .ref r_S_floors, .ref r_S_returns, .ref r_S_closures, .int S_frames, .ref r_S_handlerFrames, .ref r_S_handlerPlaces, .ref r_S_handlerHeights, .ref r_S_handlerDepths, .int S_handlers])), (r_S_handlerFrames, .inl (cI, n_S_handlerFrames, .inl f_S_handlerFrames)), (r_S_handlerPlaces, .inl (cI, n_S_handlerPlaces, .inl f_S_handlerPlaces)), (r_S_handlerHeights, .inl (cI, n_S_handlerHeights, .inl f_S_handlerHeights)), (r_S_handlerDepths, .inl (cI, n_S_handlerDepths, .inl f_S_handlerDepths))] sz) := by
  refine Met.ofW (cc := b_Stacks_widenHandlers) (maxL := 2) (ret := none) (by decide +kernel) rfl ?_
  intro p e s m args below meth c s₁ B hml hv
  obtain ⟨rfl, hN, hsz, hP, hK, hD0⟩ := hv
  have hx := B.exec
  have hb := B.bytes
  have hr := B.returns
  have hg : ∀ w ∈ lw_g, w.before _ s = true := fun w hw => atoms_spec (ws := .code y_Stacks_widenHandlers b_Stacks_widenHandlers 2 none :: lw_g) B.pre w (List.mem_cons_of_mem _ hw)
  have hown : s.vm.findClass R_Stacks = some m.cls := findClass_of_methodNamed B.named
  have hlocks := B.notSynchronized
  clear B
  subst hsz
  have hD := hD0.self (sz := s.heap.size)
  generalize hAe : va_A [(o_Stacks, .inr (2, [.ref r_S_values, .int S_top, .ref r_S_bases, .ref r_S_floors, .ref r_S_returns, .ref r_S_closures, .int S_frames, .ref r_S_handlerFrames, .ref r_S_handlerPlaces, .ref r_S_handlerHeights, .ref r_S_handlerDepths, .int S_handlers])), (r_S_handlerFrames, .inl (cI, n_S_handlerFrames, .inl f_S_handlerFrames)), (r_S_handlerPlaces, .inl (cI, n_S_handlerPlaces, .inl f_S_handlerPlaces)), (r_S_handlerHeights, .inl (cI, n_S_handlerHeights, .inl f_S_handlerHeights)), (r_S_handlerDepths, .inl (cI, n_S_handlerDepths, .inl f_S_handlerDepths))] s.heap.size = A at hD ⊢
  have hA : ∀ q : Nat, s.heap.size ≤ q → A q := fun q h => by rw [← hAe]; exact Or.inr h
  have hS : va_S A s.heap s.heap [] := va_S.rf
  have hP : va_P (dC, dI) classes [(o_Stacks, .inr (2, [.ref r_S_values, .int S_top, .ref r_S_bases, .ref r_S_floors, .ref r_S_returns, .ref r_S_closures, .int S_frames, .ref r_S_handlerFrames, .ref r_S_handlerPlaces, .ref r_S_handlerHeights, .ref r_S_handlerDepths, .int S_handlers])), (r_S_handlerFrames, .inl (cI, n_S_handlerFrames, .inl f_S_handlerFrames)), (r_S_handlerPlaces, .inl (cI, n_S_handlerPlaces, .inl f_S_handlerPlaces)), (r_S_handlerHeights, .inl (cI, n_S_handlerHeights, .inl f_S_handlerHeights)), (r_S_handlerDepths, .inl (cI, n_S_handlerDepths, .inl f_S_handlerDepths))] s.heap := hP
  have hl := lv_entry ([.ref o_Stacks]) (n := 2) (Nat.le_of_ble_eq_true rfl)
  rw [lg_entry_eq]
  generalize (lg_sl ([.ref o_Stacks]) ++ List.replicate (2 - (lg_sl ([.ref o_Stacks])).length) Slot.unset).toArray = ls at hl ⊢
  have hl : lv_has ls 2 [(0, .ref o_Stacks)] := hl
  unfold m_Stacks_widenHandlers at h
  have hG : dz_G Z1 Zc Zs (Z1, Zc, Zs) 0 0 := ⟨rfl, (Nat.zero_add _).symm, (Nat.zero_add _).symm⟩
  generalize (Z1, Zc, Zs) = z at h hG
  refine lv_aload_n hx hb d_Stacks_widenHandlers_0 rfl (lv_at hl 0 rfl) ?_
  refine va_get (D := (dC, dI)) (ci := 2) (v := .ref r_S_handlerFrames) (C := R_Stacks) (T := F_Stacks) (N := 12) hx hb hg i_Stacks hown hK hP 0 rfl rfl 7 (by decide) (hg _ k99) (fun _ h9 => h9) rfl d_Stacks_widenHandlers_1 ?_
  refine va_alen (D := (dC, dI)) (v := Int32.ofNat n_S_handlerFrames) hx hb hK hP 1 0 rfl rfl rfl d_Stacks_widenHandlers_4 ?_
  refine lv_aload_n hx hb d_Stacks_widenHandlers_5 rfl (lv_at hl 0 rfl) ?_
  refine va_get (D := (dC, dI)) (ci := 2) (v := .int S_handlers) (C := R_Stacks) (T := F_Stacks) (N := 12) hx hb hg i_Stacks hown hK hP 0 rfl rfl 11 (by decide) (hg _ k55) (fun _ h9 => h9) rfl d_Stacks_widenHandlers_6 ?_
  refine lv_iconst (v := 1) hx hb d_Stacks_widenHandlers_9 (by decide) ?_
  refine lv_iadd hx hb d_Stacks_widenHandlers_10 ?_
  refine lv_sipush (v := 1024) hx hb d_Stacks_widenHandlers_11 (by decide) ?_
  obtain ⟨z1_1, hc1, h⟩ := dz_ob h
  try dsimp only at h
  have hPc := hP.sub (ws' := []) [] rfl
  have hKc := hK.sub (tys' := []) [] rfl
  refine vp_callSi (va_Run.run (va_runSN (As := [.int (Int32.ofNat n_S_handlerFrames), .int (S_handlers + 1), .int 1024]) (rest := []) ⟨hx, hb, hml, hown, hg⟩ (c_Engine_longer l dC dI N (Int32.ofNat n_S_handlerFrames) (S_handlers + 1) (1024 : Int32) z1_1 hc1) ⟨va_cnB 3 hg (gd_N k26) rfl rfl rfl hN.2.2.2.2 (hg _ k27) (by decide +kernel) ⟨Nat.le_of_ble_eq_true rfl, Nat.le_of_ble_eq_true rfl⟩, hg _ k28, trivial⟩ ⟨dz_blindR, fun U hU hW => ⟨rfl, dz_Nw hW hN, by rw [hU]; exact hPc, va_K.moved hW.alike hKc⟩⟩ rfl rfl hl.1 rfl (lv_room (Nat.le_of_ble_eq_true rfl)) d_Stacks_widenHandlers_14 ⟨dz_Gc hG, dz_Gs hG⟩)) (fun r1 hw => ?_)
  have hw : z1_1 = r1 := hw.symm
  subst hw
  refine lv_istore_n (lv' := [(1, .int z1_1), (0, .ref o_Stacks)]) hx hb d_Stacks_widenHandlers_17 rfl hl (by decide) rfl (fun ls hl => ?_)
  refine lv_aload_n hx hb d_Stacks_widenHandlers_18 rfl (lv_at hl 1 rfl) ?_
  refine lv_aload_n hx hb d_Stacks_widenHandlers_19 rfl (lv_at hl 1 rfl) ?_
  refine va_get (D := (dC, dI)) (ci := 2) (v := .ref r_S_handlerFrames) (C := R_Stacks) (T := F_Stacks) (N := 12) hx hb hg i_Stacks hown hK hP 0 rfl rfl 7 (by decide) (hg _ k99) (fun _ h9 => h9) rfl d_Stacks_widenHandlers_20 ?_
  refine lv_iload_n hx hb d_Stacks_widenHandlers_23 rfl (lv_at hl 0 rfl) ?_
  obtain ⟨⟨⟨z2_1, z2_2⟩, zc2, zs2⟩, hc2, h⟩ := dz_ob h
  try dsimp only at h
  obtain ⟨z, h, hG⟩ := dz_tkG h hG
  have hPc := hP.sub (ws' := [(r_S_handlerFrames, .inl (cI, n_S_handlerFrames, .inl f_S_handlerFrames))]) [1] rfl
  have hKc := hK.sub (tys' := [(cI, .int)]) [0] rfl
  have hDc := hD.sub (ws' := [(r_S_handlerFrames, .inl (cI, n_S_handlerFrames, .inl f_S_handlerFrames))]) [1] (by decide) rfl
  have hFc := va_free (wc := [(r_S_handlerFrames, .inl (cI, n_S_handlerFrames, .inl f_S_handlerFrames))]) hD hS hA [1] rfl
  refine va_callr (va_runS (As := [.ref r_S_handlerFrames, .int z1_1]) (rest := [.ref o_Stacks]) ⟨hx, hb, hml, hown, hg⟩ (c_Arrays_copyOfI l dC dI N cI r_S_handlerFrames n_S_handlerFrames f_S_handlerFrames z1_1 s.heap.size (z2_1, z2_2) zc2 zs2 hc2) (va_cwS 2 hg (gd_S k90 k31 k22 k29) rfl rfl rfl (by decide +kernel) ⟨Nat.le_of_ble_eq_true rfl, Nat.le_of_ble_eq_true rfl⟩) ⟨dz_blind, fun U hU hW => ⟨rfl, dz_Nw hW hN, by rw [hU], by rw [hU]; exact hPc, va_K.moved hW.alike hKc, hDc.weaken (fun _ _ _ _ => trivial)⟩⟩ rfl rfl hl.1 rfl (lv_room (Nat.le_of_ble_eq_true rfl)) d_Stacks_widenHandlers_24 ⟨dz_Gc hG, dz_Gs hG⟩) hS (fun q _ h => hFc q h) hFc (fun u2 a2_r t2 H1 locs ht hvm hw hB hz1 hk1 hS => ?_)
  obtain ⟨hP1, hK1, hD1⟩ := hB
  rw [ht] at hP1
  obtain ⟨hP, hD⟩ := va_join (wr := [(o_Stacks, .inr (2, [.ref r_S_values, .int S_top, .ref r_S_bases, .ref r_S_floors, .ref r_S_returns, .ref r_S_closures, .int S_frames, .ref r_S_handlerFrames, .ref r_S_handlerPlaces, .ref r_S_handlerHeights, .ref r_S_handlerDepths, .int S_handlers])), (r_S_handlerPlaces, .inl (cI, n_S_handlerPlaces, .inl f_S_handlerPlaces)), (r_S_handlerHeights, .inl (cI, n_S_handlerHeights, .inl f_S_handlerHeights)), (r_S_handlerDepths, .inl (cI, n_S_handlerDepths, .inl f_S_handlerDepths))]) (w1 := [(r_S_handlerFrames, .inl (cI, n_S_handlerFrames, .inl f_S_handlerFrames)), (a2_r, .inl (cI, z2_1, .inl z2_2))]) hP hD [1] [0, 2, 3, 4] rfl rfl (by decide) (by decide) hk1 hFc hP1 hD1
  generalize H1 = H at hP hS ⊢
  have hP : va_P (dC, dI) classes [(o_Stacks, .inr (2, [.ref r_S_values, .int S_top, .ref r_S_bases, .ref r_S_floors, .ref r_S_returns, .ref r_S_closures, .int S_frames, .ref r_S_handlerFrames, .ref r_S_handlerPlaces, .ref r_S_handlerHeights, .ref r_S_handlerDepths, .int S_handlers])), (r_S_handlerPlaces, .inl (cI, n_S_handlerPlaces, .inl f_S_handlerPlaces)), (r_S_handlerHeights, .inl (cI, n_S_handlerHeights, .inl f_S_handlerHeights)), (r_S_handlerDepths, .inl (cI, n_S_handlerDepths, .inl f_S_handlerDepths)), (r_S_handlerFrames, .inl (cI, n_S_handlerFrames, .inl f_S_handlerFrames)), (a2_r, .inl (cI, z2_1, .inl z2_2))] H := hP
  have hD : va_D A [(o_Stacks, .inr (2, [.ref r_S_values, .int S_top, .ref r_S_bases, .ref r_S_floors, .ref r_S_returns, .ref r_S_closures, .int S_frames, .ref r_S_handlerFrames, .ref r_S_handlerPlaces, .ref r_S_handlerHeights, .ref r_S_handlerDepths, .int S_handlers])), (r_S_handlerPlaces, .inl (cI, n_S_handlerPlaces, .inl f_S_handlerPlaces)), (r_S_handlerHeights, .inl (cI, n_S_handlerHeights, .inl f_S_handlerHeights)), (r_S_handlerDepths, .inl (cI, n_S_handlerDepths, .inl f_S_handlerDepths)), (r_S_handlerFrames, .inl (cI, n_S_handlerFrames, .inl f_S_handlerFrames)), (a2_r, .inl (cI, z2_1, .inl z2_2))] := hD
  refine va_put (D := (dC, dI)) (ci := 2) (v := .ref a2_r) (ty := .array .int) (C := R_Stacks) (T := F_Stacks) (N := 12) hx hb hg i_Stacks t_Stacks t_Stacks_ok n_Stacks hown hK hP hD hS 0 rfl rfl 7 (by decide) (hg _ k99) (fun _ h9 => h9) rfl (by decide +kernel) rfl rfl (Nat.le_of_ble_eq_true rfl) d_Stacks_widenHandlers_27 (fun H locs hP hD hS => ?_)
  have hP : va_P (dC, dI) classes [(o_Stacks, .inr (2, [.ref r_S_values, .int S_top, .ref r_S_bases, .ref r_S_floors, .ref r_S_returns, .ref r_S_closures, .int S_frames, .ref a2_r, .ref r_S_handlerPlaces, .ref r_S_handlerHeights, .ref r_S_handlerDepths, .int S_handlers])), (r_S_handlerPlaces, .inl (cI, n_S_handlerPlaces, .inl f_S_handlerPlaces)), (r_S_handlerHeights, .inl (cI, n_S_handlerHeights, .inl f_S_handlerHeights)), (r_S_handlerDepths, .inl (cI, n_S_handlerDepths, .inl f_S_handlerDepths)), (r_S_handlerFrames, .inl (cI, n_S_handlerFrames, .inl f_S_handlerFrames)), (a2_r, .inl (cI, z2_1, .inl z2_2))] H := hP
  have hD : va_D A [(o_Stacks, .inr (2, [.ref r_S_values, .int S_top, .ref r_S_bases, .ref r_S_floors, .ref r_S_returns, .ref r_S_closures, .int S_frames, .ref a2_r, .ref r_S_handlerPlaces, .ref r_S_handlerHeights, .ref r_S_handlerDepths, .int S_handlers])), (r_S_handlerPlaces, .inl (cI, n_S_handlerPlaces, .inl f_S_handlerPlaces)), (r_S_handlerHeights, .inl (cI, n_S_handlerHeights, .inl f_S_handlerHeights)), (r_S_handlerDepths, .inl (cI, n_S_handlerDepths, .inl f_S_handlerDepths)), (r_S_handlerFrames, .inl (cI, n_S_handlerFrames, .inl f_S_handlerFrames)), (a2_r, .inl (cI, z2_1, .inl z2_2))] := hD
  refine lv_aload_n hx hb d_Stacks_widenHandlers_30 rfl (lv_at hl 1 rfl) ?_
  refine lv_aload_n hx hb d_Stacks_widenHandlers_31 rfl (lv_at hl 1 rfl) ?_
  refine va_get (D := (dC, dI)) (ci := 2) (v := .ref r_S_handlerPlaces) (C := R_Stacks) (T := F_Stacks) (N := 12) hx hb hg i_Stacks hown hK hP 0 rfl rfl 8 (by decide) (hg _ k100) (fun _ h9 => h9) rfl d_Stacks_widenHandlers_32 ?_
  refine lv_iload_n hx hb d_Stacks_widenHandlers_35 rfl (lv_at hl 0 rfl) ?_
  obtain ⟨⟨⟨z3_1, z3_2⟩, zc3, zs3⟩, hc3, h⟩ := dz_ob h
  try dsimp only at h
  obtain ⟨z, h, hG⟩ := dz_tkG h hG
  have hPc := hP.sub (ws' := [(r_S_handlerPlaces, .inl (cI, n_S_handlerPlaces, .inl f_S_handlerPlaces))]) [1] rfl
  have hKc := hK.sub (tys' := [(cI, .int)]) [0] rfl
  have hDc := hD.sub (ws' := [(r_S_handlerPlaces, .inl (cI, n_S_handlerPlaces, .inl f_S_handlerPlaces))]) [1] (by decide) rfl
  have hFc := va_free (wc := [(r_S_handlerPlaces, .inl (cI, n_S_handlerPlaces, .inl f_S_handlerPlaces))]) hD hS hA [1] rfl
  refine va_callr (va_runS (As := [.ref r_S_handlerPlaces, .int z1_1]) (rest := [.ref o_Stacks]) ⟨hx, hb, hml, hown, hg⟩ (c_Arrays_copyOfI l dC dI N cI r_S_handlerPlaces n_S_handlerPlaces f_S_handlerPlaces z1_1 H.size (z3_1, z3_2) zc3 zs3 hc3) (va_cwS 2 hg (gd_S k90 k31 k22 k29) rfl rfl rfl (by decide +kernel) ⟨Nat.le_of_ble_eq_true rfl, Nat.le_of_ble_eq_true rfl⟩) ⟨dz_blind, fun U hU hW => ⟨rfl, dz_Nw hW hN, by rw [hU], by rw [hU]; exact hPc, va_K.moved hW.alike hKc, hDc.weaken (fun _ _ _ _ => trivial)⟩⟩ rfl rfl hl.1 rfl (lv_room (Nat.le_of_ble_eq_true rfl)) d_Stacks_widenHandlers_36 ⟨dz_Gc hG, dz_Gs hG⟩) hS (fun q _ h => hFc q h) hFc (fun u3 a3_r t3 H1 locs ht hvm hw hB hz1 hk1 hS => ?_)
  obtain ⟨hP1, hK1, hD1⟩ := hB
  rw [ht] at hP1
  obtain ⟨hP, hD⟩ := va_join (wr := [(o_Stacks, .inr (2, [.ref r_S_values, .int S_top, .ref r_S_bases, .ref r_S_floors, .ref r_S_returns, .ref r_S_closures, .int S_frames, .ref a2_r, .ref r_S_handlerPlaces, .ref r_S_handlerHeights, .ref r_S_handlerDepths, .int S_handlers])), (r_S_handlerHeights, .inl (cI, n_S_handlerHeights, .inl f_S_handlerHeights)), (r_S_handlerDepths, .inl (cI, n_S_handlerDepths, .inl f_S_handlerDepths)), (r_S_handlerFrames, .inl (cI, n_S_handlerFrames, .inl f_S_handlerFrames)), (a2_r, .inl (cI, z2_1, .inl z2_2))]) (w1 := [(r_S_handlerPlaces, .inl (cI, n_S_handlerPlaces, .inl f_S_handlerPlaces)), (a3_r, .inl (cI, z3_1, .inl z3_2))]) hP hD [1] [0, 2, 3, 4, 5] rfl rfl (by decide) (by decide) hk1 hFc hP1 hD1
  generalize H1 = H at hP hS ⊢
  have hP : va_P (dC, dI) classes [(o_Stacks, .inr (2, [.ref r_S_values, .int S_top, .ref r_S_bases, .ref r_S_floors, .ref r_S_returns, .ref r_S_closures, .int S_frames, .ref a2_r, .ref r_S_handlerPlaces, .ref r_S_handlerHeights, .ref r_S_handlerDepths, .int S_handlers])), (r_S_handlerHeights, .inl (cI, n_S_handlerHeights, .inl f_S_handlerHeights)), (r_S_handlerDepths, .inl (cI, n_S_handlerDepths, .inl f_S_handlerDepths)), (r_S_handlerFrames, .inl (cI, n_S_handlerFrames, .inl f_S_handlerFrames)), (a2_r, .inl (cI, z2_1, .inl z2_2)), (r_S_handlerPlaces, .inl (cI, n_S_handlerPlaces, .inl f_S_handlerPlaces)), (a3_r, .inl (cI, z3_1, .inl z3_2))] H := hP
  have hD : va_D A [(o_Stacks, .inr (2, [.ref r_S_values, .int S_top, .ref r_S_bases, .ref r_S_floors, .ref r_S_returns, .ref r_S_closures, .int S_frames, .ref a2_r, .ref r_S_handlerPlaces, .ref r_S_handlerHeights, .ref r_S_handlerDepths, .int S_handlers])), (r_S_handlerHeights, .inl (cI, n_S_handlerHeights, .inl f_S_handlerHeights)), (r_S_handlerDepths, .inl (cI, n_S_handlerDepths, .inl f_S_handlerDepths)), (r_S_handlerFrames, .inl (cI, n_S_handlerFrames, .inl f_S_handlerFrames)), (a2_r, .inl (cI, z2_1, .inl z2_2)), (r_S_handlerPlaces, .inl (cI, n_S_handlerPlaces, .inl f_S_handlerPlaces)), (a3_r, .inl (cI, z3_1, .inl z3_2))] := hD
  refine va_put (D := (dC, dI)) (ci := 2) (v := .ref a3_r) (ty := .array .int) (C := R_Stacks) (T := F_Stacks) (N := 12) hx hb hg i_Stacks t_Stacks t_Stacks_ok n_Stacks hown hK hP hD hS 0 rfl rfl 8 (by decide) (hg _ k100) (fun _ h9 => h9) rfl (by decide +kernel) rfl rfl (Nat.le_of_ble_eq_true rfl) d_Stacks_widenHandlers_39 (fun H locs hP hD hS => ?_)
  have hP : va_P (dC, dI) classes [(o_Stacks, .inr (2, [.ref r_S_values, .int S_top, .ref r_S_bases, .ref r_S_floors, .ref r_S_returns, .ref r_S_closures, .int S_frames, .ref a2_r, .ref a3_r, .ref r_S_handlerHeights, .ref r_S_handlerDepths, .int S_handlers])), (r_S_handlerHeights, .inl (cI, n_S_handlerHeights, .inl f_S_handlerHeights)), (r_S_handlerDepths, .inl (cI, n_S_handlerDepths, .inl f_S_handlerDepths)), (r_S_handlerFrames, .inl (cI, n_S_handlerFrames, .inl f_S_handlerFrames)), (a2_r, .inl (cI, z2_1, .inl z2_2)), (r_S_handlerPlaces, .inl (cI, n_S_handlerPlaces, .inl f_S_handlerPlaces)), (a3_r, .inl (cI, z3_1, .inl z3_2))] H := hP
  have hD : va_D A [(o_Stacks, .inr (2, [.ref r_S_values, .int S_top, .ref r_S_bases, .ref r_S_floors, .ref r_S_returns, .ref r_S_closures, .int S_frames, .ref a2_r, .ref a3_r, .ref r_S_handlerHeights, .ref r_S_handlerDepths, .int S_handlers])), (r_S_handlerHeights, .inl (cI, n_S_handlerHeights, .inl f_S_handlerHeights)), (r_S_handlerDepths, .inl (cI, n_S_handlerDepths, .inl f_S_handlerDepths)), (r_S_handlerFrames, .inl (cI, n_S_handlerFrames, .inl f_S_handlerFrames)), (a2_r, .inl (cI, z2_1, .inl z2_2)), (r_S_handlerPlaces, .inl (cI, n_S_handlerPlaces, .inl f_S_handlerPlaces)), (a3_r, .inl (cI, z3_1, .inl z3_2))] := hD
  refine lv_aload_n hx hb d_Stacks_widenHandlers_42 rfl (lv_at hl 1 rfl) ?_
  refine lv_aload_n hx hb d_Stacks_widenHandlers_43 rfl (lv_at hl 1 rfl) ?_
  refine va_get (D := (dC, dI)) (ci := 2) (v := .ref r_S_handlerHeights) (C := R_Stacks) (T := F_Stacks) (N := 12) hx hb hg i_Stacks hown hK hP 0 rfl rfl 9 (by decide) (hg _ k101) (fun _ h9 => h9) rfl d_Stacks_widenHandlers_44 ?_
  refine lv_iload_n hx hb d_Stacks_widenHandlers_47 rfl (lv_at hl 0 rfl) ?_
  obtain ⟨⟨⟨z4_1, z4_2⟩, zc4, zs4⟩, hc4, h⟩ := dz_ob h
  try dsimp only at h
  obtain ⟨z, h, hG⟩ := dz_tkG h hG
  have hPc := hP.sub (ws' := [(r_S_handlerHeights, .inl (cI, n_S_handlerHeights, .inl f_S_handlerHeights))]) [1] rfl
  have hKc := hK.sub (tys' := [(cI, .int)]) [0] rfl
  have hDc := hD.sub (ws' := [(r_S_handlerHeights, .inl (cI, n_S_handlerHeights, .inl f_S_handlerHeights))]) [1] (by decide) rfl
  have hFc := va_free (wc := [(r_S_handlerHeights, .inl (cI, n_S_handlerHeights, .inl f_S_handlerHeights))]) hD hS hA [1] rfl
  refine va_callr (va_runS (As := [.ref r_S_handlerHeights, .int z1_1]) (rest := [.ref o_Stacks]) ⟨hx, hb, hml, hown, hg⟩ (c_Arrays_copyOfI l dC dI N cI r_S_handlerHeights n_S_handlerHeights f_S_handlerHeights z1_1 H.size (z4_1, z4_2) zc4 zs4 hc4) (va_cwS 2 hg (gd_S k90 k31 k22 k29) rfl rfl rfl (by decide +kernel) ⟨Nat.le_of_ble_eq_true rfl, Nat.le_of_ble_eq_true rfl⟩) ⟨dz_blind, fun U hU hW => ⟨rfl, dz_Nw hW hN, by rw [hU], by rw [hU]; exact hPc, va_K.moved hW.alike hKc, hDc.weaken (fun _ _ _ _ => trivial)⟩⟩ rfl rfl hl.1 rfl (lv_room (Nat.le_of_ble_eq_true rfl)) d_Stacks_widenHandlers_48 ⟨dz_Gc hG, dz_Gs hG⟩) hS (fun q _ h => hFc q h) hFc (fun u4 a4_r t4 H1 locs ht hvm hw hB hz1 hk1 hS => ?_)
  obtain ⟨hP1, hK1, hD1⟩ := hB
  rw [ht] at hP1
  obtain ⟨hP, hD⟩ := va_join (wr := [(o_Stacks, .inr (2, [.ref r_S_values, .int S_top, .ref r_S_bases, .ref r_S_floors, .ref r_S_returns, .ref r_S_closures, .int S_frames, .ref a2_r, .ref a3_r, .ref r_S_handlerHeights, .ref r_S_handlerDepths, .int S_handlers])), (r_S_handlerDepths, .inl (cI, n_S_handlerDepths, .inl f_S_handlerDepths)), (r_S_handlerFrames, .inl (cI, n_S_handlerFrames, .inl f_S_handlerFrames)), (a2_r, .inl (cI, z2_1, .inl z2_2)), (r_S_handlerPlaces, .inl (cI, n_S_handlerPlaces, .inl f_S_handlerPlaces)), (a3_r, .inl (cI, z3_1, .inl z3_2))]) (w1 := [(r_S_handlerHeights, .inl (cI, n_S_handlerHeights, .inl f_S_handlerHeights)), (a4_r, .inl (cI, z4_1, .inl z4_2))]) hP hD [1] [0, 2, 3, 4, 5, 6] rfl rfl (by decide) (by decide) hk1 hFc hP1 hD1
  generalize H1 = H at hP hS ⊢
  have hP : va_P (dC, dI) classes [(o_Stacks, .inr (2, [.ref r_S_values, .int S_top, .ref r_S_bases, .ref r_S_floors, .ref r_S_returns, .ref r_S_closures, .int S_frames, .ref a2_r, .ref a3_r, .ref r_S_handlerHeights, .ref r_S_handlerDepths, .int S_handlers])), (r_S_handlerDepths, .inl (cI, n_S_handlerDepths, .inl f_S_handlerDepths)), (r_S_handlerFrames, .inl (cI, n_S_handlerFrames, .inl f_S_handlerFrames)), (a2_r, .inl (cI, z2_1, .inl z2_2)), (r_S_handlerPlaces, .inl (cI, n_S_handlerPlaces, .inl f_S_handlerPlaces)), (a3_r, .inl (cI, z3_1, .inl z3_2)), (r_S_handlerHeights, .inl (cI, n_S_handlerHeights, .inl f_S_handlerHeights)), (a4_r, .inl (cI, z4_1, .inl z4_2))] H := hP
  have hD : va_D A [(o_Stacks, .inr (2, [.ref r_S_values, .int S_top, .ref r_S_bases, .ref r_S_floors, .ref r_S_returns, .ref r_S_closures, .int S_frames, .ref a2_r, .ref a3_r, .ref r_S_handlerHeights, .ref r_S_handlerDepths, .int S_handlers])), (r_S_handlerDepths, .inl (cI, n_S_handlerDepths, .inl f_S_handlerDepths)), (r_S_handlerFrames, .inl (cI, n_S_handlerFrames, .inl f_S_handlerFrames)), (a2_r, .inl (cI, z2_1, .inl z2_2)), (r_S_handlerPlaces, .inl (cI, n_S_handlerPlaces, .inl f_S_handlerPlaces)), (a3_r, .inl (cI, z3_1, .inl z3_2)), (r_S_handlerHeights, .inl (cI, n_S_handlerHeights, .inl f_S_handlerHeights)), (a4_r, .inl (cI, z4_1, .inl z4_2))] := hD
  refine va_put (D := (dC, dI)) (ci := 2) (v := .ref a4_r) (ty := .array .int) (C := R_Stacks) (T := F_Stacks) (N := 12) hx hb hg i_Stacks t_Stacks t_Stacks_ok n_Stacks hown hK hP hD hS 0 rfl rfl 9 (by decide) (hg _ k101) (fun _ h9 => h9) rfl (by decide +kernel) rfl rfl (Nat.le_of_ble_eq_true rfl) d_Stacks_widenHandlers_51 (fun H locs hP hD hS => ?_)
  have hP : va_P (dC, dI) classes [(o_Stacks, .inr (2, [.ref r_S_values, .int S_top, .ref r_S_bases, .ref r_S_floors, .ref r_S_returns, .ref r_S_closures, .int S_frames, .ref a2_r, .ref a3_r, .ref a4_r, .ref r_S_handlerDepths, .int S_handlers])), (r_S_handlerDepths, .inl (cI, n_S_handlerDepths, .inl f_S_handlerDepths)), (r_S_handlerFrames, .inl (cI, n_S_handlerFrames, .inl f_S_handlerFrames)), (a2_r, .inl (cI, z2_1, .inl z2_2)), (r_S_handlerPlaces, .inl (cI, n_S_handlerPlaces, .inl f_S_handlerPlaces)), (a3_r, .inl (cI, z3_1, .inl z3_2)), (r_S_handlerHeights, .inl (cI, n_S_handlerHeights, .inl f_S_handlerHeights)), (a4_r, .inl (cI, z4_1, .inl z4_2))] H := hP
  have hD : va_D A [(o_Stacks, .inr (2, [.ref r_S_values, .int S_top, .ref r_S_bases, .ref r_S_floors, .ref r_S_returns, .ref r_S_closures, .int S_frames, .ref a2_r, .ref a3_r, .ref a4_r, .ref r_S_handlerDepths, .int S_handlers])), (r_S_handlerDepths, .inl (cI, n_S_handlerDepths, .inl f_S_handlerDepths)), (r_S_handlerFrames, .inl (cI, n_S_handlerFrames, .inl f_S_handlerFrames)), (a2_r, .inl (cI, z2_1, .inl z2_2)), (r_S_handlerPlaces, .inl (cI, n_S_handlerPlaces, .inl f_S_handlerPlaces)), (a3_r, .inl (cI, z3_1, .inl z3_2)), (r_S_handlerHeights, .inl (cI, n_S_handlerHeights, .inl f_S_handlerHeights)), (a4_r, .inl (cI, z4_1, .inl z4_2))] := hD
  refine lv_aload_n hx hb d_Stacks_widenHandlers_54 rfl (lv_at hl 1 rfl) ?_
  refine lv_aload_n hx hb d_Stacks_widenHandlers_55 rfl (lv_at hl 1 rfl) ?_
  refine va_get (D := (dC, dI)) (ci := 2) (v := .ref r_S_handlerDepths) (C := R_Stacks) (T := F_Stacks) (N := 12) hx hb hg i_Stacks hown hK hP 0 rfl rfl 10 (by decide) (hg _ k102) (fun _ h9 => h9) rfl d_Stacks_widenHandlers_56 ?_
  refine lv_iload_n hx hb d_Stacks_widenHandlers_59 rfl (lv_at hl 0 rfl) ?_
  obtain ⟨⟨⟨z5_1, z5_2⟩, zc5, zs5⟩, hc5, h⟩ := dz_ob h
  try dsimp only at h
  obtain ⟨z, h, hG⟩ := dz_tkG h hG
  have hPc := hP.sub (ws' := [(r_S_handlerDepths, .inl (cI, n_S_handlerDepths, .inl f_S_handlerDepths))]) [1] rfl
  have hKc := hK.sub (tys' := [(cI, .int)]) [0] rfl
  have hDc := hD.sub (ws' := [(r_S_handlerDepths, .inl (cI, n_S_handlerDepths, .inl f_S_handlerDepths))]) [1] (by decide) rfl
  have hFc := va_free (wc := [(r_S_handlerDepths, .inl (cI, n_S_handlerDepths, .inl f_S_handlerDepths))]) hD hS hA [1] rfl
  refine va_callr (va_runS (As := [.ref r_S_handlerDepths, .int z1_1]) (rest := [.ref o_Stacks]) ⟨hx, hb, hml, hown, hg⟩ (c_Arrays_copyOfI l dC dI N cI r_S_handlerDepths n_S_handlerDepths f_S_handlerDepths z1_1 H.size (z5_1, z5_2) zc5 zs5 hc5) (va_cwS 2 hg (gd_S k90 k31 k22 k29) rfl rfl rfl (by decide +kernel) ⟨Nat.le_of_ble_eq_true rfl, Nat.le_of_ble_eq_true rfl⟩) ⟨dz_blind, fun U hU hW => ⟨rfl, dz_Nw hW hN, by rw [hU], by rw [hU]; exact hPc, va_K.moved hW.alike hKc, hDc.weaken (fun _ _ _ _ => trivial)⟩⟩ rfl rfl hl.1 rfl (lv_room (Nat.le_of_ble_eq_true rfl)) d_Stacks_widenHandlers_60 ⟨dz_Gc hG, dz_Gs hG⟩) hS (fun q _ h => hFc q h) hFc (fun u5 a5_r t5 H1 locs ht hvm hw hB hz1 hk1 hS => ?_)
  obtain ⟨hP1, hK1, hD1⟩ := hB
  rw [ht] at hP1
  obtain ⟨hP, hD⟩ := va_join (wr := [(o_Stacks, .inr (2, [.ref r_S_values, .int S_top, .ref r_S_bases, .ref r_S_floors, .ref r_S_returns, .ref r_S_closures, .int S_frames, .ref a2_r, .ref a3_r, .ref a4_r, .ref r_S_handlerDepths, .int S_handlers])), (r_S_handlerFrames, .inl (cI, n_S_handlerFrames, .inl f_S_handlerFrames)), (a2_r, .inl (cI, z2_1, .inl z2_2)), (r_S_handlerPlaces, .inl (cI, n_S_handlerPlaces, .inl f_S_handlerPlaces)), (a3_r, .inl (cI, z3_1, .inl z3_2)), (r_S_handlerHeights, .inl (cI, n_S_handlerHeights, .inl f_S_handlerHeights)), (a4_r, .inl (cI, z4_1, .inl z4_2))]) (w1 := [(r_S_handlerDepths, .inl (cI, n_S_handlerDepths, .inl f_S_handlerDepths)), (a5_r, .inl (cI, z5_1, .inl z5_2))]) hP hD [1] [0, 2, 3, 4, 5, 6, 7] rfl rfl (by decide) (by decide) hk1 hFc hP1 hD1
  generalize H1 = H at hP hS ⊢
  have hP : va_P (dC, dI) classes [(o_Stacks, .inr (2, [.ref r_S_values, .int S_top, .ref r_S_bases, .ref r_S_floors, .ref r_S_returns, .ref r_S_closures, .int S_frames, .ref a2_r, .ref a3_r, .ref a4_r, .ref r_S_handlerDepths, .int S_handlers])), (r_S_handlerFrames, .inl (cI, n_S_handlerFrames, .inl f_S_handlerFrames)), (a2_r, .inl (cI, z2_1, .inl z2_2)), (r_S_handlerPlaces, .inl (cI, n_S_handlerPlaces, .inl f_S_handlerPlaces)), (a3_r, .inl (cI, z3_1, .inl z3_2)), (r_S_handlerHeights, .inl (cI, n_S_handlerHeights, .inl f_S_handlerHeights)), (a4_r, .inl (cI, z4_1, .inl z4_2)), (r_S_handlerDepths, .inl (cI, n_S_handlerDepths, .inl f_S_handlerDepths)), (a5_r, .inl (cI, z5_1, .inl z5_2))] H := hP
  have hD : va_D A [(o_Stacks, .inr (2, [.ref r_S_values, .int S_top, .ref r_S_bases, .ref r_S_floors, .ref r_S_returns, .ref r_S_closures, .int S_frames, .ref a2_r, .ref a3_r, .ref a4_r, .ref r_S_handlerDepths, .int S_handlers])), (r_S_handlerFrames, .inl (cI, n_S_handlerFrames, .inl f_S_handlerFrames)), (a2_r, .inl (cI, z2_1, .inl z2_2)), (r_S_handlerPlaces, .inl (cI, n_S_handlerPlaces, .inl f_S_handlerPlaces)), (a3_r, .inl (cI, z3_1, .inl z3_2)), (r_S_handlerHeights, .inl (cI, n_S_handlerHeights, .inl f_S_handlerHeights)), (a4_r, .inl (cI, z4_1, .inl z4_2)), (r_S_handlerDepths, .inl (cI, n_S_handlerDepths, .inl f_S_handlerDepths)), (a5_r, .inl (cI, z5_1, .inl z5_2))] := hD
  refine va_put (D := (dC, dI)) (ci := 2) (v := .ref a5_r) (ty := .array .int) (C := R_Stacks) (T := F_Stacks) (N := 12) hx hb hg i_Stacks t_Stacks t_Stacks_ok n_Stacks hown hK hP hD hS 0 rfl rfl 10 (by decide) (hg _ k102) (fun _ h9 => h9) rfl (by decide +kernel) rfl rfl (Nat.le_of_ble_eq_true rfl) d_Stacks_widenHandlers_63 (fun H locs hP hD hS => ?_)
  have hP : va_P (dC, dI) classes [(o_Stacks, .inr (2, [.ref r_S_values, .int S_top, .ref r_S_bases, .ref r_S_floors, .ref r_S_returns, .ref r_S_closures, .int S_frames, .ref a2_r, .ref a3_r, .ref a4_r, .ref a5_r, .int S_handlers])), (r_S_handlerFrames, .inl (cI, n_S_handlerFrames, .inl f_S_handlerFrames)), (a2_r, .inl (cI, z2_1, .inl z2_2)), (r_S_handlerPlaces, .inl (cI, n_S_handlerPlaces, .inl f_S_handlerPlaces)), (a3_r, .inl (cI, z3_1, .inl z3_2)), (r_S_handlerHeights, .inl (cI, n_S_handlerHeights, .inl f_S_handlerHeights)), (a4_r, .inl (cI, z4_1, .inl z4_2)), (r_S_handlerDepths, .inl (cI, n_S_handlerDepths, .inl f_S_handlerDepths)), (a5_r, .inl (cI, z5_1, .inl z5_2))] H := hP
  have hD : va_D A [(o_Stacks, .inr (2, [.ref r_S_values, .int S_top, .ref r_S_bases, .ref r_S_floors, .ref r_S_returns, .ref r_S_closures, .int S_frames, .ref a2_r, .ref a3_r, .ref a4_r, .ref a5_r, .int S_handlers])), (r_S_handlerFrames, .inl (cI, n_S_handlerFrames, .inl f_S_handlerFrames)), (a2_r, .inl (cI, z2_1, .inl z2_2)), (r_S_handlerPlaces, .inl (cI, n_S_handlerPlaces, .inl f_S_handlerPlaces)), (a3_r, .inl (cI, z3_1, .inl z3_2)), (r_S_handlerHeights, .inl (cI, n_S_handlerHeights, .inl f_S_handlerHeights)), (a4_r, .inl (cI, z4_1, .inl z4_2)), (r_S_handlerDepths, .inl (cI, n_S_handlerDepths, .inl f_S_handlerDepths)), (a5_r, .inl (cI, z5_1, .inl z5_2))] := hD
  obtain rfl := Option.some.inj h
  have hP9 := hP.sub (ws' := [(o_Stacks, .inr (2, [.ref r_S_values, .int S_top, .ref r_S_bases, .ref r_S_floors, .ref r_S_returns, .ref r_S_closures, .int S_frames, .ref a2_r, .ref a3_r, .ref a4_r, .ref a5_r, .int S_handlers])), (a2_r, .inl (cI, z2_1, .inl z2_2)), (a3_r, .inl (cI, z3_1, .inl z3_2)), (a4_r, .inl (cI, z4_1, .inl z4_2)), (a5_r, .inl (cI, z5_1, .inl z5_2))]) [0, 2, 4, 6, 8] rfl
  have hD9 := hD.sub (ws' := [(o_Stacks, .inr (2, [.ref r_S_values, .int S_top, .ref r_S_bases, .ref r_S_floors, .ref r_S_returns, .ref r_S_closures, .int S_frames, .ref a2_r, .ref a3_r, .ref a4_r, .ref a5_r, .int S_handlers])), (a2_r, .inl (cI, z2_1, .inl z2_2)), (a3_r, .inl (cI, z3_1, .inl z3_2)), (a4_r, .inl (cI, z4_1, .inl z4_2)), (a5_r, .inl (cI, z5_1, .inl z5_2))]) [0, 2, 4, 6, 8] (by decide) rfl
  have hK9 := hK.sub (tys' := [(cI, .int)]) [0] rfl
  refine W.widen (dz_Gc hG) (dz_Gs hG) ?_
  obtain ⟨rfl, -, -⟩ := hG
  exact W.vret hx hb hr (fun t ht hW => ⟨⟨(a5_r, a2_r, a4_r, a3_r), rfl, trivial, by rw [ht]; exact hP9, va_K.moved hW.alike hK9, hD9⟩, hS.F ht⟩) hS.2.2 d_Stacks_widenHandlers_66

set_option maxHeartbeats 4000000 in
set_option maxRecDepth 100000 in
theorem c_Stacks_addHandler (l : Launch) (dC : Nat → ClassId) (dI : Nat → Nat → Nat) (N : Nat) (cI : ClassId) (o_Stacks : Nat) (r_S_values : Nat) (r_S_bases : Nat) (r_S_floors : Nat) (r_S_returns : Nat) (r_S_closures : Nat) (r_S_handlerFrames : Nat) (r_S_handlerPlaces : Nat) (r_S_handlerHeights : Nat) (r_S_handlerDepths : Nat) (S_top : Int32) (S_frames : Int32) (S_handlers : Int32) (n_S_floors : Nat) (f_S_floors : Nat → Int32) (n_S_handlerFrames : Nat) (f_S_handlerFrames : Nat → Int32) (n_S_handlerPlaces : Nat) (f_S_handlerPlaces : Nat → Int32) (n_S_handlerHeights : Nat) (f_S_handlerHeights : Nat → Int32) (n_S_handlerDepths : Nat) (f_S_handlerDepths : Nat → Int32) (p0 : Int32) (p1 : Int32) (sz : Nat) (Z1 : Int32 × Int32 × Nat × (Nat → Int32) × Nat × (Nat → Int32) × Nat × (Nat → Int32) × Nat × (Nat → Int32)) (Zc Zs : Nat) (h : m_Stacks_addHandler N S_top S_frames S_handlers n_S_floors f_S_floors n_S_handlerFrames f_S_handlerFrames n_S_handlerPlaces f_S_handlerPlaces n_S_handlerHeights f_S_handlerHeights n_S_handlerDepths f_S_handlerDepths p0 p1 = some (Z1, Zc, Zs)) : Met l y_Stacks_addHandler (.code y_Stacks_addHandler b_Stacks_addHandler 3 (some .int) :: lw_g) ({ frames := 3, cells := Zc, slots := Zs, locals := 103 }) (va_Pc [.ref o_Stacks, .int p0, .int p1] (fun U => dz_N U ∧ U.heap.size = sz ∧ va_P (dC, dI) classes [(o_Stacks, .inr (2, [.ref r_S_values, .int S_top, .ref r_S_bases, .ref r_S_floors, .ref r_S_returns, .ref r_S_closures, .int S_frames, .ref r_S_handlerFrames, .ref r_S_handlerPlaces, .ref r_S_handlerHeights, .ref r_S_handlerDepths, .int S_handlers])), (r_S_floors, .inl (cI, n_S_floors, .inl f_S_floors)), (r_S_handlerFrames, .inl (cI, n_S_handlerFrames, .inl f_S_handlerFrames)), (r_S_handlerPlaces, .inl (cI, n_S_handlerPlaces, .inl f_S_handlerPlaces)), (r_S_handlerHeights, .inl (cI, n_S_handlerHeights, .inl f_S_handlerHeights)), (r_S_handlerDepths, .inl (cI, n_S_handlerDepths, .inl f_S_handlerDepths))] U.heap ∧ va_K (dC, dI) classes [(cI, .int)] U ∧ va_D (fun _ => True) [(o_Stacks, .inr (2, [.ref r_S_values, .int S_top, .ref r_S_bases, .ref r_S_floors, .ref r_S_returns, .ref r_S_closures, .int S_frames, .ref r_S_handlerFrames, .ref r_S_handlerPlaces, .ref r_S_handlerHeights, .ref r_S_handlerDepths, .int S_handlers])), (r_S_floors, .inl (cI, n_S_floors, .inl f_S_floors)), (r_S_handlerFrames, .inl (cI, n_S_handlerFrames, .inl f_S_handlerFrames)), (r_S_handlerPlaces, .inl (cI, n_S_handlerPlaces, .inl f_S_handlerPlaces)), (r_S_handlerHeights, .inl (cI, n_S_handlerHeights, .inl f_S_handlerHeights)), (r_S_handlerDepths, .inl (cI, n_S_handlerDepths, .inl f_S_handlerDepths))])) (va_Qi (fun (r : Int32) (_ : Nat × Nat × Nat × Nat) => r = Z1.1) (fun (u : Nat × Nat × Nat × Nat) t => va_P (dC, dI) classes [(o_Stacks, .inr (2, [.ref r_S_values, .int S_top, .ref r_S_bases, .ref r_S_floors, .ref r_S_returns, .ref r_S_closures, .int S_frames, .ref u.2.1, .ref u.2.2.2, .ref u.2.2.1, .ref u.1, .int Z1.2.1])), (r_S_floors, .inl (cI, n_S_floors, .inl f_S_floors)), (u.2.1, .inl (cI, Z1.2.2.2.2.1, .inl Z1.2.2.2.2.2.1)), (u.2.2.2, .inl (cI, Z1.2.2.2.2.2.2.2.2.1, .inl Z1.2.2.2.2.2.2.2.2.2)), (u.2.2.1, .inl (cI, Z1.2.2.2.2.2.2.1, .inl Z1.2.2.2.2.2.2.2.1)), (u.1, .inl (cI, Z1.2.2.1, .inl Z1.2.2.2.1))] t.heap ∧ va_K (dC, dI) classes [(cI, .int)] t ∧ va_D (va_A [(o_Stacks, .inr (2, [.ref r_S_values, .int S_top, .ref r_S_bases, .ref r_S_floors, .ref r_S_returns, .ref r_S_closures, .int S_frames, .ref r_S_handlerFrames, .ref r_S_handlerPlaces, .ref r_S_handlerHeights, .ref r_S_handlerDepths, .int S_handlers])), (r_S_floors, .inl (cI, n_S_floors, .inl f_S_floors)), (r_S_handlerFrames, .inl (cI, n_S_handlerFrames, .inl f_S_handlerFrames)), (r_S_handlerPlaces, .inl (cI, n_S_handlerPlaces, .inl f_S_handlerPlaces)), (r_S_handlerHeights, .inl (cI, n_S_handlerHeights, .inl f_S_handlerHeights)), (r_S_handlerDepths, .inl (cI, n_S_handlerDepths, .inl f_S_handlerDepths))] sz) [(o_Stacks, .inr (2, [.ref r_S_values, .int S_top, .ref r_S_bases, .ref r_S_floors, .ref r_S_returns, .ref r_S_closures, .int S_frames, .ref u.2.1, .ref u.2.2.2, .ref u.2.2.1, .ref u.1, .int Z1.2.1])), (r_S_floors, .inl (cI, n_S_floors, .inl f_S_floors)), (u.2.1, .inl (cI, Z1.2.2.2.2.1, .inl Z1.2.2.2.2.2.1)), (u.2.2.2, .inl (cI, Z1.2.2.2.2.2.2.2.2.1, .inl Z1.2.2.2.2.2.2.2.2.2)), (u.2.2.1, .inl (cI, Z1.2.2.2.2.2.2.1, .inl Z1.2.2.2.2.2.2.2.1)), (u.1, .inl (cI, Z1.2.2.1, .inl Z1.2.2.2.1))]) (va_A [(o_Stacks, .inr (2, [.ref r_S_values, .int S_top, .ref r_S_bases, .ref r_S_floors, .ref r_S_returns, .ref r_S_closures, .int S_frames, .ref r_S_handlerFrames, .ref r_S_handlerPlaces, .ref r_S_handlerHeights, .ref r_S_handlerDepths, .int S_handlers])), (r_S_floors, .inl (cI, n_S_floors, .inl f_S_floors)), (r_S_handlerFrames, .inl (cI, n_S_handlerFrames, .inl f_S_handlerFrames)), (r_S_handlerPlaces, .inl (cI, n_S_handlerPlaces, .inl f_S_handlerPlaces)), (r_S_handlerHeights, .inl (cI, n_S_handlerHeights, .inl f_S_handlerHeights)), (r_S_handlerDepths, .inl (cI, n_S_handlerDepths, .inl f_S_handlerDepths))] sz)) Zc Zs (va_A [(o_Stacks, .inr (2, [.ref r_S_values, .int S_top, .ref r_S_bases, .ref r_S_floors, .ref r_S_returns, .ref r_S_closures, .int S_frames, .ref r_S_handlerFrames, .ref r_S_handlerPlaces, .ref r_S_handlerHeights, .ref r_S_handlerDepths, .int S_handlers])), (r_S_floors, .inl (cI, n_S_floors, .inl f_S_floors)), (r_S_handlerFrames, .inl (cI, n_S_handlerFrames, .inl f_S_handlerFrames)), (r_S_handlerPlaces, .inl (cI, n_S_handlerPlaces, .inl f_S_handlerPlaces)), (r_S_handlerHeights, .inl (cI, n_S_handlerHeights, .inl f_S_handlerHeights)), (r_S_handlerDepths, .inl (cI, n_S_handlerDepths, .inl f_S_handlerDepths))] sz) := by
  refine Met.ofW (cc := b_Stacks_addHandler) (maxL := 3) (ret := (some .int)) (by decide +kernel) rfl ?_
  intro p e s m args below meth c s₁ B hml hv
  obtain ⟨rfl, hN, hsz, hP, hK, hD0⟩ := hv
  have hx := B.exec
  have hb := B.bytes
  have hr := B.returns
  have hg : ∀ w ∈ lw_g, w.before _ s = true := fun w hw => atoms_spec (ws := .code y_Stacks_addHandler b_Stacks_addHandler 3 (some .int) :: lw_g) B.pre w (List.mem_cons_of_mem _ hw)
  have hown : s.vm.findClass R_Stacks = some m.cls := findClass_of_methodNamed B.named
  have hlocks := B.notSynchronized
  clear B
  subst hsz
  have hD := hD0.self (sz := s.heap.size)
  generalize hAe : va_A [(o_Stacks, .inr (2, [.ref r_S_values, .int S_top, .ref r_S_bases, .ref r_S_floors, .ref r_S_returns, .ref r_S_closures, .int S_frames, .ref r_S_handlerFrames, .ref r_S_handlerPlaces, .ref r_S_handlerHeights, .ref r_S_handlerDepths, .int S_handlers])), (r_S_floors, .inl (cI, n_S_floors, .inl f_S_floors)), (r_S_handlerFrames, .inl (cI, n_S_handlerFrames, .inl f_S_handlerFrames)), (r_S_handlerPlaces, .inl (cI, n_S_handlerPlaces, .inl f_S_handlerPlaces)), (r_S_handlerHeights, .inl (cI, n_S_handlerHeights, .inl f_S_handlerHeights)), (r_S_handlerDepths, .inl (cI, n_S_handlerDepths, .inl f_S_handlerDepths))] s.heap.size = A at hD ⊢
  have hA : ∀ q : Nat, s.heap.size ≤ q → A q := fun q h => by rw [← hAe]; exact Or.inr h
  have hS : va_S A s.heap s.heap [] := va_S.rf
  have hP : va_P (dC, dI) classes [(o_Stacks, .inr (2, [.ref r_S_values, .int S_top, .ref r_S_bases, .ref r_S_floors, .ref r_S_returns, .ref r_S_closures, .int S_frames, .ref r_S_handlerFrames, .ref r_S_handlerPlaces, .ref r_S_handlerHeights, .ref r_S_handlerDepths, .int S_handlers])), (r_S_floors, .inl (cI, n_S_floors, .inl f_S_floors)), (r_S_handlerFrames, .inl (cI, n_S_handlerFrames, .inl f_S_handlerFrames)), (r_S_handlerPlaces, .inl (cI, n_S_handlerPlaces, .inl f_S_handlerPlaces)), (r_S_handlerHeights, .inl (cI, n_S_handlerHeights, .inl f_S_handlerHeights)), (r_S_handlerDepths, .inl (cI, n_S_handlerDepths, .inl f_S_handlerDepths))] s.heap := hP
  have hl := lv_entry ([.ref o_Stacks, .int p0, .int p1]) (n := 3) (Nat.le_of_ble_eq_true rfl)
  rw [lg_entry_eq]
  generalize (lg_sl ([.ref o_Stacks, .int p0, .int p1]) ++ List.replicate (3 - (lg_sl ([.ref o_Stacks, .int p0, .int p1])).length) Slot.unset).toArray = ls at hl ⊢
  have hl : lv_has ls 3 [(0, .ref o_Stacks), (1, .int p0), (2, .int p1)] := hl
  unfold m_Stacks_addHandler at h
  have hG : dz_G Z1 Zc Zs (Z1, Zc, Zs) 0 0 := ⟨rfl, (Nat.zero_add _).symm, (Nat.zero_add _).symm⟩
  generalize (Z1, Zc, Zs) = z at h hG
  refine lv_aload_n hx hb d_Stacks_addHandler_0 rfl (lv_at hl 0 rfl) ?_
  refine va_get (D := (dC, dI)) (ci := 2) (v := .int S_handlers) (C := R_Stacks) (T := F_Stacks) (N := 12) hx hb hg i_Stacks hown hK hP 0 rfl rfl 11 (by decide) (hg _ k55) (fun _ h9 => h9) rfl d_Stacks_addHandler_1 ?_
  refine lv_sipush (v := 1024) hx hb d_Stacks_addHandler_4 (by decide) ?_
  refine lv_icmp_lt (tgt := 12) hx hb d_Stacks_addHandler_7 (by decide) (fun c1 => ?_) (fun c1 => ?_)
  · rw [if_pos c1] at h
    refine lv_aload_n hx hb d_Stacks_addHandler_12 rfl (lv_at hl 0 rfl) ?_
    refine va_get (D := (dC, dI)) (ci := 2) (v := .int S_handlers) (C := R_Stacks) (T := F_Stacks) (N := 12) hx hb hg i_Stacks hown hK hP 0 rfl rfl 11 (by decide) (hg _ k55) (fun _ h9 => h9) rfl d_Stacks_addHandler_13 ?_
    refine lv_aload_n hx hb d_Stacks_addHandler_16 rfl (lv_at hl 0 rfl) ?_
    refine va_get (D := (dC, dI)) (ci := 2) (v := .ref r_S_handlerFrames) (C := R_Stacks) (T := F_Stacks) (N := 12) hx hb hg i_Stacks hown hK hP 0 rfl rfl 7 (by decide) (hg _ k99) (fun _ h9 => h9) rfl d_Stacks_addHandler_17 ?_
    refine va_alen (D := (dC, dI)) (v := Int32.ofNat n_S_handlerFrames) hx hb hK hP 2 0 rfl rfl rfl d_Stacks_addHandler_20 ?_
    refine lv_icmp_lt (tgt := 28) hx hb d_Stacks_addHandler_21 (by decide) (fun c2 => ?_) (fun c2 => ?_)
    · rw [if_pos c2] at h
      refine lv_aload_n hx hb d_Stacks_addHandler_28 rfl (lv_at hl 0 rfl) ?_
      refine va_get (D := (dC, dI)) (ci := 2) (v := .ref r_S_handlerFrames) (C := R_Stacks) (T := F_Stacks) (N := 12) hx hb hg i_Stacks hown hK hP 0 rfl rfl 7 (by decide) (hg _ k99) (fun _ h9 => h9) rfl d_Stacks_addHandler_29 ?_
      refine lv_aload_n hx hb d_Stacks_addHandler_32 rfl (lv_at hl 0 rfl) ?_
      refine va_get (D := (dC, dI)) (ci := 2) (v := .int S_handlers) (C := R_Stacks) (T := F_Stacks) (N := 12) hx hb hg i_Stacks hown hK hP 0 rfl rfl 11 (by decide) (hg _ k55) (fun _ h9 => h9) rfl d_Stacks_addHandler_33 ?_
      refine lv_aload_n hx hb d_Stacks_addHandler_36 rfl (lv_at hl 0 rfl) ?_
      refine va_get (D := (dC, dI)) (ci := 2) (v := .int S_frames) (C := R_Stacks) (T := F_Stacks) (N := 12) hx hb hg i_Stacks hown hK hP 0 rfl rfl 6 (by decide) (hg _ k54) (fun _ h9 => h9) rfl d_Stacks_addHandler_37 ?_
      refine lv_iconst (v := 1) hx hb d_Stacks_addHandler_40 (by decide) ?_
      refine lv_isub hx hb d_Stacks_addHandler_41 ?_
      obtain ⟨i3, h⟩ := dz_oi h
      refine va_iast (D := (dC, dI)) hx hb hK hP hD hS 2 0 rfl rfl i3 d_Stacks_addHandler_42 (fun H locs hP hD hS => ?_)
      have hP : va_P (dC, dI) classes [(o_Stacks, .inr (2, [.ref r_S_values, .int S_top, .ref r_S_bases, .ref r_S_floors, .ref r_S_returns, .ref r_S_closures, .int S_frames, .ref r_S_handlerFrames, .ref r_S_handlerPlaces, .ref r_S_handlerHeights, .ref r_S_handlerDepths, .int S_handlers])), (r_S_floors, .inl (cI, n_S_floors, .inl f_S_floors)), (r_S_handlerFrames, .inl (cI, n_S_handlerFrames, .inl (upd f_S_handlerFrames S_handlers.toNatClampNeg (S_frames - 1)))), (r_S_handlerPlaces, .inl (cI, n_S_handlerPlaces, .inl f_S_handlerPlaces)), (r_S_handlerHeights, .inl (cI, n_S_handlerHeights, .inl f_S_handlerHeights)), (r_S_handlerDepths, .inl (cI, n_S_handlerDepths, .inl f_S_handlerDepths))] H := hP
      have hD : va_D A [(o_Stacks, .inr (2, [.ref r_S_values, .int S_top, .ref r_S_bases, .ref r_S_floors, .ref r_S_returns, .ref r_S_closures, .int S_frames, .ref r_S_handlerFrames, .ref r_S_handlerPlaces, .ref r_S_handlerHeights, .ref r_S_handlerDepths, .int S_handlers])), (r_S_floors, .inl (cI, n_S_floors, .inl f_S_floors)), (r_S_handlerFrames, .inl (cI, n_S_handlerFrames, .inl (upd f_S_handlerFrames S_handlers.toNatClampNeg (S_frames - 1)))), (r_S_handlerPlaces, .inl (cI, n_S_handlerPlaces, .inl f_S_handlerPlaces)), (r_S_handlerHeights, .inl (cI, n_S_handlerHeights, .inl f_S_handlerHeights)), (r_S_handlerDepths, .inl (cI, n_S_handlerDepths, .inl f_S_handlerDepths))] := hD
      refine lv_aload_n hx hb d_Stacks_addHandler_43 rfl (lv_at hl 0 rfl) ?_
      refine va_get (D := (dC, dI)) (ci := 2) (v := .ref r_S_handlerPlaces) (C := R_Stacks) (T := F_Stacks) (N := 12) hx hb hg i_Stacks hown hK hP 0 rfl rfl 8 (by decide) (hg _ k100) (fun _ h9 => h9) rfl d_Stacks_addHandler_44 ?_
      refine lv_aload_n hx hb d_Stacks_addHandler_47 rfl (lv_at hl 0 rfl) ?_
      refine va_get (D := (dC, dI)) (ci := 2) (v := .int S_handlers) (C := R_Stacks) (T := F_Stacks) (N := 12) hx hb hg i_Stacks hown hK hP 0 rfl rfl 11 (by decide) (hg _ k55) (fun _ h9 => h9) rfl d_Stacks_addHandler_48 ?_
      refine lv_iload_n hx hb d_Stacks_addHandler_51 rfl (lv_at hl 1 rfl) ?_
      obtain ⟨i4, h⟩ := dz_oi h
      refine va_iast (D := (dC, dI)) hx hb hK hP hD hS 3 0 rfl rfl i4 d_Stacks_addHandler_52 (fun H locs hP hD hS => ?_)
      have hP : va_P (dC, dI) classes [(o_Stacks, .inr (2, [.ref r_S_values, .int S_top, .ref r_S_bases, .ref r_S_floors, .ref r_S_returns, .ref r_S_closures, .int S_frames, .ref r_S_handlerFrames, .ref r_S_handlerPlaces, .ref r_S_handlerHeights, .ref r_S_handlerDepths, .int S_handlers])), (r_S_floors, .inl (cI, n_S_floors, .inl f_S_floors)), (r_S_handlerFrames, .inl (cI, n_S_handlerFrames, .inl (upd f_S_handlerFrames S_handlers.toNatClampNeg (S_frames - 1)))), (r_S_handlerPlaces, .inl (cI, n_S_handlerPlaces, .inl (upd f_S_handlerPlaces S_handlers.toNatClampNeg p0))), (r_S_handlerHeights, .inl (cI, n_S_handlerHeights, .inl f_S_handlerHeights)), (r_S_handlerDepths, .inl (cI, n_S_handlerDepths, .inl f_S_handlerDepths))] H := hP
      have hD : va_D A [(o_Stacks, .inr (2, [.ref r_S_values, .int S_top, .ref r_S_bases, .ref r_S_floors, .ref r_S_returns, .ref r_S_closures, .int S_frames, .ref r_S_handlerFrames, .ref r_S_handlerPlaces, .ref r_S_handlerHeights, .ref r_S_handlerDepths, .int S_handlers])), (r_S_floors, .inl (cI, n_S_floors, .inl f_S_floors)), (r_S_handlerFrames, .inl (cI, n_S_handlerFrames, .inl (upd f_S_handlerFrames S_handlers.toNatClampNeg (S_frames - 1)))), (r_S_handlerPlaces, .inl (cI, n_S_handlerPlaces, .inl (upd f_S_handlerPlaces S_handlers.toNatClampNeg p0))), (r_S_handlerHeights, .inl (cI, n_S_handlerHeights, .inl f_S_handlerHeights)), (r_S_handlerDepths, .inl (cI, n_S_handlerDepths, .inl f_S_handlerDepths))] := hD
      refine lv_aload_n hx hb d_Stacks_addHandler_53 rfl (lv_at hl 0 rfl) ?_
      refine va_get (D := (dC, dI)) (ci := 2) (v := .ref r_S_handlerHeights) (C := R_Stacks) (T := F_Stacks) (N := 12) hx hb hg i_Stacks hown hK hP 0 rfl rfl 9 (by decide) (hg _ k101) (fun _ h9 => h9) rfl d_Stacks_addHandler_54 ?_
      refine lv_aload_n hx hb d_Stacks_addHandler_57 rfl (lv_at hl 0 rfl) ?_
      refine va_get (D := (dC, dI)) (ci := 2) (v := .int S_handlers) (C := R_Stacks) (T := F_Stacks) (N := 12) hx hb hg i_Stacks hown hK hP 0 rfl rfl 11 (by decide) (hg _ k55) (fun _ h9 => h9) rfl d_Stacks_addHandler_58 ?_
      refine lv_aload_n hx hb d_Stacks_addHandler_61 rfl (lv_at hl 0 rfl) ?_
      obtain ⟨z5_1, hc5, h⟩ := dz_ob h
      try dsimp only at h
      have hPc := hP.sub (ws' := [(o_Stacks, .inr (2, [.ref r_S_values, .int S_top, .ref r_S_bases, .ref r_S_floors, .ref r_S_returns, .ref r_S_closures, .int S_frames, .ref r_S_handlerFrames, .ref r_S_handlerPlaces, .ref r_S_handlerHeights, .ref r_S_handlerDepths, .int S_handlers])), (r_S_floors, .inl (cI, n_S_floors, .inl f_S_floors))]) [0, 1] rfl
      have hKc := hK.sub (tys' := [(cI, .int)]) [0] rfl
      refine vp_callSi (va_Run.run (va_runV (As := []) (rest := [.int S_handlers, .ref r_S_handlerHeights]) ⟨hx, hb, hml, hown, hg⟩ (c_Stacks_height l dC dI N cI o_Stacks r_S_values r_S_bases r_S_floors r_S_returns r_S_closures r_S_handlerFrames r_S_handlerPlaces r_S_handlerHeights r_S_handlerDepths S_top S_frames S_handlers n_S_floors f_S_floors z5_1 hc5) (cwV 0 hg (gd_V k104 k105 k106 k64 k103) rfl rfl rfl (by decide +kernel) ⟨Nat.le_of_ble_eq_true rfl, Nat.le_of_ble_eq_true rfl⟩) ⟨dz_blindR, va_recv hKc hPc (ci := 2) (q0 := 0) rfl rfl, fun U hU hW => ⟨rfl, dz_Nw hW hN, by rw [hU]; exact hPc, va_K.moved hW.alike hKc⟩⟩ rfl rfl hl.1 rfl (lv_room (Nat.le_of_ble_eq_true rfl)) d_Stacks_addHandler_62 ⟨dz_Gc hG, dz_Gs hG⟩)) (fun r5 hw => ?_)
      have hw : z5_1 = r5 := hw.symm
      subst hw
      obtain ⟨i6, h⟩ := dz_oi h
      refine va_iast (D := (dC, dI)) hx hb hK hP hD hS 4 0 rfl rfl i6 d_Stacks_addHandler_65 (fun H locs hP hD hS => ?_)
      have hP : va_P (dC, dI) classes [(o_Stacks, .inr (2, [.ref r_S_values, .int S_top, .ref r_S_bases, .ref r_S_floors, .ref r_S_returns, .ref r_S_closures, .int S_frames, .ref r_S_handlerFrames, .ref r_S_handlerPlaces, .ref r_S_handlerHeights, .ref r_S_handlerDepths, .int S_handlers])), (r_S_floors, .inl (cI, n_S_floors, .inl f_S_floors)), (r_S_handlerFrames, .inl (cI, n_S_handlerFrames, .inl (upd f_S_handlerFrames S_handlers.toNatClampNeg (S_frames - 1)))), (r_S_handlerPlaces, .inl (cI, n_S_handlerPlaces, .inl (upd f_S_handlerPlaces S_handlers.toNatClampNeg p0))), (r_S_handlerHeights, .inl (cI, n_S_handlerHeights, .inl (upd f_S_handlerHeights S_handlers.toNatClampNeg z5_1))), (r_S_handlerDepths, .inl (cI, n_S_handlerDepths, .inl f_S_handlerDepths))] H := hP
      have hD : va_D A [(o_Stacks, .inr (2, [.ref r_S_values, .int S_top, .ref r_S_bases, .ref r_S_floors, .ref r_S_returns, .ref r_S_closures, .int S_frames, .ref r_S_handlerFrames, .ref r_S_handlerPlaces, .ref r_S_handlerHeights, .ref r_S_handlerDepths, .int S_handlers])), (r_S_floors, .inl (cI, n_S_floors, .inl f_S_floors)), (r_S_handlerFrames, .inl (cI, n_S_handlerFrames, .inl (upd f_S_handlerFrames S_handlers.toNatClampNeg (S_frames - 1)))), (r_S_handlerPlaces, .inl (cI, n_S_handlerPlaces, .inl (upd f_S_handlerPlaces S_handlers.toNatClampNeg p0))), (r_S_handlerHeights, .inl (cI, n_S_handlerHeights, .inl (upd f_S_handlerHeights S_handlers.toNatClampNeg z5_1))), (r_S_handlerDepths, .inl (cI, n_S_handlerDepths, .inl f_S_handlerDepths))] := hD
      refine lv_aload_n hx hb d_Stacks_addHandler_66 rfl (lv_at hl 0 rfl) ?_
      refine va_get (D := (dC, dI)) (ci := 2) (v := .ref r_S_handlerDepths) (C := R_Stacks) (T := F_Stacks) (N := 12) hx hb hg i_Stacks hown hK hP 0 rfl rfl 10 (by decide) (hg _ k102) (fun _ h9 => h9) rfl d_Stacks_addHandler_67 ?_
      refine lv_aload_n hx hb d_Stacks_addHandler_70 rfl (lv_at hl 0 rfl) ?_
      refine va_get (D := (dC, dI)) (ci := 2) (v := .int S_handlers) (C := R_Stacks) (T := F_Stacks) (N := 12) hx hb hg i_Stacks hown hK hP 0 rfl rfl 11 (by decide) (hg _ k55) (fun _ h9 => h9) rfl d_Stacks_addHandler_71 ?_
      refine lv_iload_n hx hb d_Stacks_addHandler_74 rfl (lv_at hl 2 rfl) ?_
      obtain ⟨i7, h⟩ := dz_oi h
      refine va_iast (D := (dC, dI)) hx hb hK hP hD hS 5 0 rfl rfl i7 d_Stacks_addHandler_75 (fun H locs hP hD hS => ?_)
      have hP : va_P (dC, dI) classes [(o_Stacks, .inr (2, [.ref r_S_values, .int S_top, .ref r_S_bases, .ref r_S_floors, .ref r_S_returns, .ref r_S_closures, .int S_frames, .ref r_S_handlerFrames, .ref r_S_handlerPlaces, .ref r_S_handlerHeights, .ref r_S_handlerDepths, .int S_handlers])), (r_S_floors, .inl (cI, n_S_floors, .inl f_S_floors)), (r_S_handlerFrames, .inl (cI, n_S_handlerFrames, .inl (upd f_S_handlerFrames S_handlers.toNatClampNeg (S_frames - 1)))), (r_S_handlerPlaces, .inl (cI, n_S_handlerPlaces, .inl (upd f_S_handlerPlaces S_handlers.toNatClampNeg p0))), (r_S_handlerHeights, .inl (cI, n_S_handlerHeights, .inl (upd f_S_handlerHeights S_handlers.toNatClampNeg z5_1))), (r_S_handlerDepths, .inl (cI, n_S_handlerDepths, .inl (upd f_S_handlerDepths S_handlers.toNatClampNeg p1)))] H := hP
      have hD : va_D A [(o_Stacks, .inr (2, [.ref r_S_values, .int S_top, .ref r_S_bases, .ref r_S_floors, .ref r_S_returns, .ref r_S_closures, .int S_frames, .ref r_S_handlerFrames, .ref r_S_handlerPlaces, .ref r_S_handlerHeights, .ref r_S_handlerDepths, .int S_handlers])), (r_S_floors, .inl (cI, n_S_floors, .inl f_S_floors)), (r_S_handlerFrames, .inl (cI, n_S_handlerFrames, .inl (upd f_S_handlerFrames S_handlers.toNatClampNeg (S_frames - 1)))), (r_S_handlerPlaces, .inl (cI, n_S_handlerPlaces, .inl (upd f_S_handlerPlaces S_handlers.toNatClampNeg p0))), (r_S_handlerHeights, .inl (cI, n_S_handlerHeights, .inl (upd f_S_handlerHeights S_handlers.toNatClampNeg z5_1))), (r_S_handlerDepths, .inl (cI, n_S_handlerDepths, .inl (upd f_S_handlerDepths S_handlers.toNatClampNeg p1)))] := hD
      refine lv_aload_n hx hb d_Stacks_addHandler_76 rfl (lv_at hl 0 rfl) ?_
      refine lv_dup hx hb d_Stacks_addHandler_77 rfl ?_
      refine va_get (D := (dC, dI)) (ci := 2) (v := .int S_handlers) (C := R_Stacks) (T := F_Stacks) (N := 12) hx hb hg i_Stacks hown hK hP 0 rfl rfl 11 (by decide) (hg _ k55) (fun _ h9 => h9) rfl d_Stacks_addHandler_78 ?_
      refine lv_iconst (v := 1) hx hb d_Stacks_addHandler_81 (by decide) ?_
      refine lv_iadd hx hb d_Stacks_addHandler_82 ?_
      refine va_put (D := (dC, dI)) (ci := 2) (v := .int (S_handlers + 1)) (ty := .int) (C := R_Stacks) (T := F_Stacks) (N := 12) hx hb hg i_Stacks t_Stacks t_Stacks_ok n_Stacks hown hK hP hD hS 0 rfl rfl 11 (by decide) (hg _ k55) (fun _ h9 => h9) rfl (by decide +kernel) rfl rfl (Nat.le_of_ble_eq_true rfl) d_Stacks_addHandler_83 (fun H locs hP hD hS => ?_)
      have hP : va_P (dC, dI) classes [(o_Stacks, .inr (2, [.ref r_S_values, .int S_top, .ref r_S_bases, .ref r_S_floors, .ref r_S_returns, .ref r_S_closures, .int S_frames, .ref r_S_handlerFrames, .ref r_S_handlerPlaces, .ref r_S_handlerHeights, .ref r_S_handlerDepths, .int (S_handlers + 1)])), (r_S_floors, .inl (cI, n_S_floors, .inl f_S_floors)), (r_S_handlerFrames, .inl (cI, n_S_handlerFrames, .inl (upd f_S_handlerFrames S_handlers.toNatClampNeg (S_frames - 1)))), (r_S_handlerPlaces, .inl (cI, n_S_handlerPlaces, .inl (upd f_S_handlerPlaces S_handlers.toNatClampNeg p0))), (r_S_handlerHeights, .inl (cI, n_S_handlerHeights, .inl (upd f_S_handlerHeights S_handlers.toNatClampNeg z5_1))), (r_S_handlerDepths, .inl (cI, n_S_handlerDepths, .inl (upd f_S_handlerDepths S_handlers.toNatClampNeg p1)))] H := hP
      have hD : va_D A [(o_Stacks, .inr (2, [.ref r_S_values, .int S_top, .ref r_S_bases, .ref r_S_floors, .ref r_S_returns, .ref r_S_closures, .int S_frames, .ref r_S_handlerFrames, .ref r_S_handlerPlaces, .ref r_S_handlerHeights, .ref r_S_handlerDepths, .int (S_handlers + 1)])), (r_S_floors, .inl (cI, n_S_floors, .inl f_S_floors)), (r_S_handlerFrames, .inl (cI, n_S_handlerFrames, .inl (upd f_S_handlerFrames S_handlers.toNatClampNeg (S_frames - 1)))), (r_S_handlerPlaces, .inl (cI, n_S_handlerPlaces, .inl (upd f_S_handlerPlaces S_handlers.toNatClampNeg p0))), (r_S_handlerHeights, .inl (cI, n_S_handlerHeights, .inl (upd f_S_handlerHeights S_handlers.toNatClampNeg z5_1))), (r_S_handlerDepths, .inl (cI, n_S_handlerDepths, .inl (upd f_S_handlerDepths S_handlers.toNatClampNeg p1)))] := hD
      refine lv_iconst (v := 5) hx hb d_Stacks_addHandler_86 (by decide) ?_
      obtain rfl := Option.some.inj h
      have hP9 := hP.sub (ws' := [(o_Stacks, .inr (2, [.ref r_S_values, .int S_top, .ref r_S_bases, .ref r_S_floors, .ref r_S_returns, .ref r_S_closures, .int S_frames, .ref r_S_handlerFrames, .ref r_S_handlerPlaces, .ref r_S_handlerHeights, .ref r_S_handlerDepths, .int (S_handlers + 1)])), (r_S_floors, .inl (cI, n_S_floors, .inl f_S_floors)), (r_S_handlerFrames, .inl (cI, n_S_handlerFrames, .inl (upd f_S_handlerFrames S_handlers.toNatClampNeg (S_frames - 1)))), (r_S_handlerPlaces, .inl (cI, n_S_handlerPlaces, .inl (upd f_S_handlerPlaces S_handlers.toNatClampNeg p0))), (r_S_handlerHeights, .inl (cI, n_S_handlerHeights, .inl (upd f_S_handlerHeights S_handlers.toNatClampNeg z5_1))), (r_S_handlerDepths, .inl (cI, n_S_handlerDepths, .inl (upd f_S_handlerDepths S_handlers.toNatClampNeg p1)))]) [0, 1, 2, 3, 4, 5] rfl
      have hD9 := hD.sub (ws' := [(o_Stacks, .inr (2, [.ref r_S_values, .int S_top, .ref r_S_bases, .ref r_S_floors, .ref r_S_returns, .ref r_S_closures, .int S_frames, .ref r_S_handlerFrames, .ref r_S_handlerPlaces, .ref r_S_handlerHeights, .ref r_S_handlerDepths, .int (S_handlers + 1)])), (r_S_floors, .inl (cI, n_S_floors, .inl f_S_floors)), (r_S_handlerFrames, .inl (cI, n_S_handlerFrames, .inl (upd f_S_handlerFrames S_handlers.toNatClampNeg (S_frames - 1)))), (r_S_handlerPlaces, .inl (cI, n_S_handlerPlaces, .inl (upd f_S_handlerPlaces S_handlers.toNatClampNeg p0))), (r_S_handlerHeights, .inl (cI, n_S_handlerHeights, .inl (upd f_S_handlerHeights S_handlers.toNatClampNeg z5_1))), (r_S_handlerDepths, .inl (cI, n_S_handlerDepths, .inl (upd f_S_handlerDepths S_handlers.toNatClampNeg p1)))]) [0, 1, 2, 3, 4, 5] (by decide) rfl
      have hK9 := hK.sub (tys' := [(cI, .int)]) [0] rfl
      refine W.widen (dz_Gc hG) (dz_Gs hG) ?_
      obtain ⟨rfl, -, -⟩ := hG
      exact W.iret (v := 5) hx hb hr (fun t ht hW => ⟨⟨5, (r_S_handlerDepths, r_S_handlerFrames, r_S_handlerHeights, r_S_handlerPlaces), rfl, rfl, by rw [ht]; exact hP9, va_K.moved hW.alike hK9, hD9⟩, hS.F ht⟩) hS.2.2 d_Stacks_addHandler_87
    · rw [if_neg c2] at h
      refine lv_aload_n hx hb d_Stacks_addHandler_24 rfl (lv_at hl 0 rfl) ?_
      obtain ⟨⟨⟨z8_1, z8_2, z8_3, z8_4, z8_5, z8_6, z8_7, z8_8⟩, zc8, zs8⟩, hc8, h⟩ := dz_ob h
      try dsimp only at h
      obtain ⟨z, h, hG⟩ := dz_tkG h hG
      have hPc := hP.sub (ws' := [(o_Stacks, .inr (2, [.ref r_S_values, .int S_top, .ref r_S_bases, .ref r_S_floors, .ref r_S_returns, .ref r_S_closures, .int S_frames, .ref r_S_handlerFrames, .ref r_S_handlerPlaces, .ref r_S_handlerHeights, .ref r_S_handlerDepths, .int S_handlers])), (r_S_handlerFrames, .inl (cI, n_S_handlerFrames, .inl f_S_handlerFrames)), (r_S_handlerPlaces, .inl (cI, n_S_handlerPlaces, .inl f_S_handlerPlaces)), (r_S_handlerHeights, .inl (cI, n_S_handlerHeights, .inl f_S_handlerHeights)), (r_S_handlerDepths, .inl (cI, n_S_handlerDepths, .inl f_S_handlerDepths))]) [0, 2, 3, 4, 5] rfl
      have hKc := hK.sub (tys' := [(cI, .int)]) [0] rfl
      have hDc := hD.sub (ws' := [(o_Stacks, .inr (2, [.ref r_S_values, .int S_top, .ref r_S_bases, .ref r_S_floors, .ref r_S_returns, .ref r_S_closures, .int S_frames, .ref r_S_handlerFrames, .ref r_S_handlerPlaces, .ref r_S_handlerHeights, .ref r_S_handlerDepths, .int S_handlers])), (r_S_handlerFrames, .inl (cI, n_S_handlerFrames, .inl f_S_handlerFrames)), (r_S_handlerPlaces, .inl (cI, n_S_handlerPlaces, .inl f_S_handlerPlaces)), (r_S_handlerHeights, .inl (cI, n_S_handlerHeights, .inl f_S_handlerHeights)), (r_S_handlerDepths, .inl (cI, n_S_handlerDepths, .inl f_S_handlerDepths))]) [0, 2, 3, 4, 5] (by decide) rfl
      have hFc := va_free (wc := [(o_Stacks, .inr (2, [.ref r_S_values, .int S_top, .ref r_S_bases, .ref r_S_floors, .ref r_S_returns, .ref r_S_closures, .int S_frames, .ref r_S_handlerFrames, .ref r_S_handlerPlaces, .ref r_S_handlerHeights, .ref r_S_handlerDepths, .int S_handlers])), (r_S_handlerFrames, .inl (cI, n_S_handlerFrames, .inl f_S_handlerFrames)), (r_S_handlerPlaces, .inl (cI, n_S_handlerPlaces, .inl f_S_handlerPlaces)), (r_S_handlerHeights, .inl (cI, n_S_handlerHeights, .inl f_S_handlerHeights)), (r_S_handlerDepths, .inl (cI, n_S_handlerDepths, .inl f_S_handlerDepths))]) hD hS hA [0, 2, 3, 4, 5] rfl
      refine va_callv (va_runV (As := []) (rest := []) ⟨hx, hb, hml, hown, hg⟩ (c_Stacks_widenHandlers l dC dI N cI o_Stacks r_S_values r_S_bases r_S_floors r_S_returns r_S_closures r_S_handlerFrames r_S_handlerPlaces r_S_handlerHeights r_S_handlerDepths S_top S_frames S_handlers n_S_handlerFrames f_S_handlerFrames n_S_handlerPlaces f_S_handlerPlaces n_S_handlerHeights f_S_handlerHeights n_S_handlerDepths f_S_handlerDepths s.heap.size (z8_1, z8_2, z8_3, z8_4, z8_5, z8_6, z8_7, z8_8) zc8 zs8 hc8) (cwV 0 hg (gd_V k108 k109 k110 k64 k107) rfl rfl rfl (by decide +kernel) ⟨Nat.le_of_ble_eq_true rfl, Nat.le_of_ble_eq_true rfl⟩) ⟨dz_blind, va_recv hKc hPc (ci := 2) (q0 := 0) rfl rfl, fun U hU hW => ⟨rfl, dz_Nw hW hN, by rw [hU], by rw [hU]; exact hPc, va_K.moved hW.alike hKc, hDc.weaken (fun _ _ _ _ => trivial)⟩⟩ rfl rfl hl.1 rfl (lv_room (Nat.le_of_ble_eq_true rfl)) d_Stacks_addHandler_25 ⟨dz_Gc hG, dz_Gs hG⟩) hS (fun q _ h => hFc q h) hFc (fun u8 t8 H1 locs ht hvm hw hB hz1 hk1 hS => ?_)
      obtain ⟨a8_0, a8_1, a8_2, a8_3⟩ := u8
      obtain ⟨hP1, hK1, hD1⟩ := hB
      rw [ht] at hP1
      obtain ⟨hP, hD⟩ := va_join (wr := [(r_S_floors, .inl (cI, n_S_floors, .inl f_S_floors))]) (w1 := [(o_Stacks, .inr (2, [.ref r_S_values, .int S_top, .ref r_S_bases, .ref r_S_floors, .ref r_S_returns, .ref r_S_closures, .int S_frames, .ref a8_1, .ref a8_3, .ref a8_2, .ref a8_0, .int S_handlers])), (a8_1, .inl (cI, z8_3, .inl z8_4)), (a8_3, .inl (cI, z8_7, .inl z8_8)), (a8_2, .inl (cI, z8_5, .inl z8_6)), (a8_0, .inl (cI, z8_1, .inl z8_2))]) hP hD [0, 2, 3, 4, 5] [1] rfl rfl (by decide) (by decide) hk1 hFc hP1 hD1
      generalize H1 = H at hP hS ⊢
      have hP : va_P (dC, dI) classes [(r_S_floors, .inl (cI, n_S_floors, .inl f_S_floors)), (o_Stacks, .inr (2, [.ref r_S_values, .int S_top, .ref r_S_bases, .ref r_S_floors, .ref r_S_returns, .ref r_S_closures, .int S_frames, .ref a8_1, .ref a8_3, .ref a8_2, .ref a8_0, .int S_handlers])), (a8_1, .inl (cI, z8_3, .inl z8_4)), (a8_3, .inl (cI, z8_7, .inl z8_8)), (a8_2, .inl (cI, z8_5, .inl z8_6)), (a8_0, .inl (cI, z8_1, .inl z8_2))] H := hP
      have hD : va_D A [(r_S_floors, .inl (cI, n_S_floors, .inl f_S_floors)), (o_Stacks, .inr (2, [.ref r_S_values, .int S_top, .ref r_S_bases, .ref r_S_floors, .ref r_S_returns, .ref r_S_closures, .int S_frames, .ref a8_1, .ref a8_3, .ref a8_2, .ref a8_0, .int S_handlers])), (a8_1, .inl (cI, z8_3, .inl z8_4)), (a8_3, .inl (cI, z8_7, .inl z8_8)), (a8_2, .inl (cI, z8_5, .inl z8_6)), (a8_0, .inl (cI, z8_1, .inl z8_2))] := hD
      refine lv_aload_n hx hb d_Stacks_addHandler_28 rfl (lv_at hl 0 rfl) ?_
      refine va_get (D := (dC, dI)) (ci := 2) (v := .ref a8_1) (C := R_Stacks) (T := F_Stacks) (N := 12) hx hb hg i_Stacks hown hK hP 1 rfl rfl 7 (by decide) (hg _ k99) (fun _ h9 => h9) rfl d_Stacks_addHandler_29 ?_
      refine lv_aload_n hx hb d_Stacks_addHandler_32 rfl (lv_at hl 0 rfl) ?_
      refine va_get (D := (dC, dI)) (ci := 2) (v := .int S_handlers) (C := R_Stacks) (T := F_Stacks) (N := 12) hx hb hg i_Stacks hown hK hP 1 rfl rfl 11 (by decide) (hg _ k55) (fun _ h9 => h9) rfl d_Stacks_addHandler_33 ?_
      refine lv_aload_n hx hb d_Stacks_addHandler_36 rfl (lv_at hl 0 rfl) ?_
      refine va_get (D := (dC, dI)) (ci := 2) (v := .int S_frames) (C := R_Stacks) (T := F_Stacks) (N := 12) hx hb hg i_Stacks hown hK hP 1 rfl rfl 6 (by decide) (hg _ k54) (fun _ h9 => h9) rfl d_Stacks_addHandler_37 ?_
      refine lv_iconst (v := 1) hx hb d_Stacks_addHandler_40 (by decide) ?_
      refine lv_isub hx hb d_Stacks_addHandler_41 ?_
      obtain ⟨i9, h⟩ := dz_oi h
      refine va_iast (D := (dC, dI)) hx hb hK hP hD hS 2 0 rfl rfl i9 d_Stacks_addHandler_42 (fun H locs hP hD hS => ?_)
      have hP : va_P (dC, dI) classes [(r_S_floors, .inl (cI, n_S_floors, .inl f_S_floors)), (o_Stacks, .inr (2, [.ref r_S_values, .int S_top, .ref r_S_bases, .ref r_S_floors, .ref r_S_returns, .ref r_S_closures, .int S_frames, .ref a8_1, .ref a8_3, .ref a8_2, .ref a8_0, .int S_handlers])), (a8_1, .inl (cI, z8_3, .inl (upd z8_4 S_handlers.toNatClampNeg (S_frames - 1)))), (a8_3, .inl (cI, z8_7, .inl z8_8)), (a8_2, .inl (cI, z8_5, .inl z8_6)), (a8_0, .inl (cI, z8_1, .inl z8_2))] H := hP
      have hD : va_D A [(r_S_floors, .inl (cI, n_S_floors, .inl f_S_floors)), (o_Stacks, .inr (2, [.ref r_S_values, .int S_top, .ref r_S_bases, .ref r_S_floors, .ref r_S_returns, .ref r_S_closures, .int S_frames, .ref a8_1, .ref a8_3, .ref a8_2, .ref a8_0, .int S_handlers])), (a8_1, .inl (cI, z8_3, .inl (upd z8_4 S_handlers.toNatClampNeg (S_frames - 1)))), (a8_3, .inl (cI, z8_7, .inl z8_8)), (a8_2, .inl (cI, z8_5, .inl z8_6)), (a8_0, .inl (cI, z8_1, .inl z8_2))] := hD
      refine lv_aload_n hx hb d_Stacks_addHandler_43 rfl (lv_at hl 0 rfl) ?_
      refine va_get (D := (dC, dI)) (ci := 2) (v := .ref a8_3) (C := R_Stacks) (T := F_Stacks) (N := 12) hx hb hg i_Stacks hown hK hP 1 rfl rfl 8 (by decide) (hg _ k100) (fun _ h9 => h9) rfl d_Stacks_addHandler_44 ?_
      refine lv_aload_n hx hb d_Stacks_addHandler_47 rfl (lv_at hl 0 rfl) ?_
      refine va_get (D := (dC, dI)) (ci := 2) (v := .int S_handlers) (C := R_Stacks) (T := F_Stacks) (N := 12) hx hb hg i_Stacks hown hK hP 1 rfl rfl 11 (by decide) (hg _ k55) (fun _ h9 => h9) rfl d_Stacks_addHandler_48 ?_
      refine lv_iload_n hx hb d_Stacks_addHandler_51 rfl (lv_at hl 1 rfl) ?_
      obtain ⟨i10, h⟩ := dz_oi h
      refine va_iast (D := (dC, dI)) hx hb hK hP hD hS 3 0 rfl rfl i10 d_Stacks_addHandler_52 (fun H locs hP hD hS => ?_)
      have hP : va_P (dC, dI) classes [(r_S_floors, .inl (cI, n_S_floors, .inl f_S_floors)), (o_Stacks, .inr (2, [.ref r_S_values, .int S_top, .ref r_S_bases, .ref r_S_floors, .ref r_S_returns, .ref r_S_closures, .int S_frames, .ref a8_1, .ref a8_3, .ref a8_2, .ref a8_0, .int S_handlers])), (a8_1, .inl (cI, z8_3, .inl (upd z8_4 S_handlers.toNatClampNeg (S_frames - 1)))), (a8_3, .inl (cI, z8_7, .inl (upd z8_8 S_handlers.toNatClampNeg p0))), (a8_2, .inl (cI, z8_5, .inl z8_6)), (a8_0, .inl (cI, z8_1, .inl z8_2))] H := hP
      have hD : va_D A [(r_S_floors, .inl (cI, n_S_floors, .inl f_S_floors)), (o_Stacks, .inr (2, [.ref r_S_values, .int S_top, .ref r_S_bases, .ref r_S_floors, .ref r_S_returns, .ref r_S_closures, .int S_frames, .ref a8_1, .ref a8_3, .ref a8_2, .ref a8_0, .int S_handlers])), (a8_1, .inl (cI, z8_3, .inl (upd z8_4 S_handlers.toNatClampNeg (S_frames - 1)))), (a8_3, .inl (cI, z8_7, .inl (upd z8_8 S_handlers.toNatClampNeg p0))), (a8_2, .inl (cI, z8_5, .inl z8_6)), (a8_0, .inl (cI, z8_1, .inl z8_2))] := hD
      refine lv_aload_n hx hb d_Stacks_addHandler_53 rfl (lv_at hl 0 rfl) ?_
      refine va_get (D := (dC, dI)) (ci := 2) (v := .ref a8_2) (C := R_Stacks) (T := F_Stacks) (N := 12) hx hb hg i_Stacks hown hK hP 1 rfl rfl 9 (by decide) (hg _ k101) (fun _ h9 => h9) rfl d_Stacks_addHandler_54 ?_
      refine lv_aload_n hx hb d_Stacks_addHandler_57 rfl (lv_at hl 0 rfl) ?_
      refine va_get (D := (dC, dI)) (ci := 2) (v := .int S_handlers) (C := R_Stacks) (T := F_Stacks) (N := 12) hx hb hg i_Stacks hown hK hP 1 rfl rfl 11 (by decide) (hg _ k55) (fun _ h9 => h9) rfl d_Stacks_addHandler_58 ?_
      refine lv_aload_n hx hb d_Stacks_addHandler_61 rfl (lv_at hl 0 rfl) ?_
      obtain ⟨z11_1, hc11, h⟩ := dz_ob h
      try dsimp only at h
      have hPc := hP.sub (ws' := [(o_Stacks, .inr (2, [.ref r_S_values, .int S_top, .ref r_S_bases, .ref r_S_floors, .ref r_S_returns, .ref r_S_closures, .int S_frames, .ref a8_1, .ref a8_3, .ref a8_2, .ref a8_0, .int S_handlers])), (r_S_floors, .inl (cI, n_S_floors, .inl f_S_floors))]) [1, 0] rfl
      have hKc := hK.sub (tys' := [(cI, .int)]) [0] rfl
      refine vp_callSi (va_Run.run (va_runV (As := []) (rest := [.int S_handlers, .ref a8_2]) ⟨hx, hb, hml, hown, hg⟩ (c_Stacks_height l dC dI N cI o_Stacks r_S_values r_S_bases r_S_floors r_S_returns r_S_closures a8_1 a8_3 a8_2 a8_0 S_top S_frames S_handlers n_S_floors f_S_floors z11_1 hc11) (cwV 0 hg (gd_V k104 k105 k106 k64 k103) rfl rfl rfl (by decide +kernel) ⟨Nat.le_of_ble_eq_true rfl, Nat.le_of_ble_eq_true rfl⟩) ⟨dz_blindR, va_recv hKc hPc (ci := 2) (q0 := 0) rfl rfl, fun U hU hW => ⟨rfl, dz_Nw hW hN, by rw [hU]; exact hPc, va_K.moved hW.alike hKc⟩⟩ rfl rfl hl.1 rfl (lv_room (Nat.le_of_ble_eq_true rfl)) d_Stacks_addHandler_62 ⟨dz_Gc hG, dz_Gs hG⟩)) (fun r11 hw => ?_)
      have hw : z11_1 = r11 := hw.symm
      subst hw
      obtain ⟨i12, h⟩ := dz_oi h
      refine va_iast (D := (dC, dI)) hx hb hK hP hD hS 4 0 rfl rfl i12 d_Stacks_addHandler_65 (fun H locs hP hD hS => ?_)
      have hP : va_P (dC, dI) classes [(r_S_floors, .inl (cI, n_S_floors, .inl f_S_floors)), (o_Stacks, .inr (2, [.ref r_S_values, .int S_top, .ref r_S_bases, .ref r_S_floors, .ref r_S_returns, .ref r_S_closures, .int S_frames, .ref a8_1, .ref a8_3, .ref a8_2, .ref a8_0, .int S_handlers])), (a8_1, .inl (cI, z8_3, .inl (upd z8_4 S_handlers.toNatClampNeg (S_frames - 1)))), (a8_3, .inl (cI, z8_7, .inl (upd z8_8 S_handlers.toNatClampNeg p0))), (a8_2, .inl (cI, z8_5, .inl (upd z8_6 S_handlers.toNatClampNeg z11_1))), (a8_0, .inl (cI, z8_1, .inl z8_2))] H := hP
      have hD : va_D A [(r_S_floors, .inl (cI, n_S_floors, .inl f_S_floors)), (o_Stacks, .inr (2, [.ref r_S_values, .int S_top, .ref r_S_bases, .ref r_S_floors, .ref r_S_returns, .ref r_S_closures, .int S_frames, .ref a8_1, .ref a8_3, .ref a8_2, .ref a8_0, .int S_handlers])), (a8_1, .inl (cI, z8_3, .inl (upd z8_4 S_handlers.toNatClampNeg (S_frames - 1)))), (a8_3, .inl (cI, z8_7, .inl (upd z8_8 S_handlers.toNatClampNeg p0))), (a8_2, .inl (cI, z8_5, .inl (upd z8_6 S_handlers.toNatClampNeg z11_1))), (a8_0, .inl (cI, z8_1, .inl z8_2))] := hD
      refine lv_aload_n hx hb d_Stacks_addHandler_66 rfl (lv_at hl 0 rfl) ?_
      refine va_get (D := (dC, dI)) (ci := 2) (v := .ref a8_0) (C := R_Stacks) (T := F_Stacks) (N := 12) hx hb hg i_Stacks hown hK hP 1 rfl rfl 10 (by decide) (hg _ k102) (fun _ h9 => h9) rfl d_Stacks_addHandler_67 ?_
      refine lv_aload_n hx hb d_Stacks_addHandler_70 rfl (lv_at hl 0 rfl) ?_
      refine va_get (D := (dC, dI)) (ci := 2) (v := .int S_handlers) (C := R_Stacks) (T := F_Stacks) (N := 12) hx hb hg i_Stacks hown hK hP 1 rfl rfl 11 (by decide) (hg _ k55) (fun _ h9 => h9) rfl d_Stacks_addHandler_71 ?_
      refine lv_iload_n hx hb d_Stacks_addHandler_74 rfl (lv_at hl 2 rfl) ?_
      obtain ⟨i13, h⟩ := dz_oi h
      refine va_iast (D := (dC, dI)) hx hb hK hP hD hS 5 0 rfl rfl i13 d_Stacks_addHandler_75 (fun H locs hP hD hS => ?_)
      have hP : va_P (dC, dI) classes [(r_S_floors, .inl (cI, n_S_floors, .inl f_S_floors)), (o_Stacks, .inr (2, [.ref r_S_values, .int S_top, .ref r_S_bases, .ref r_S_floors, .ref r_S_returns, .ref r_S_closures, .int S_frames, .ref a8_1, .ref a8_3, .ref a8_2, .ref a8_0, .int S_handlers])), (a8_1, .inl (cI, z8_3, .inl (upd z8_4 S_handlers.toNatClampNeg (S_frames - 1)))), (a8_3, .inl (cI, z8_7, .inl (upd z8_8 S_handlers.toNatClampNeg p0))), (a8_2, .inl (cI, z8_5, .inl (upd z8_6 S_handlers.toNatClampNeg z11_1))), (a8_0, .inl (cI, z8_1, .inl (upd z8_2 S_handlers.toNatClampNeg p1)))] H := hP
      have hD : va_D A [(r_S_floors, .inl (cI, n_S_floors, .inl f_S_floors)), (o_Stacks, .inr (2, [.ref r_S_values, .int S_top, .ref r_S_bases, .ref r_S_floors, .ref r_S_returns, .ref r_S_closures, .int S_frames, .ref a8_1, .ref a8_3, .ref a8_2, .ref a8_0, .int S_handlers])), (a8_1, .inl (cI, z8_3, .inl (upd z8_4 S_handlers.toNatClampNeg (S_frames - 1)))), (a8_3, .inl (cI, z8_7, .inl (upd z8_8 S_handlers.toNatClampNeg p0))), (a8_2, .inl (cI, z8_5, .inl (upd z8_6 S_handlers.toNatClampNeg z11_1))), (a8_0, .inl (cI, z8_1, .inl (upd z8_2 S_handlers.toNatClampNeg p1)))] := hD
      refine lv_aload_n hx hb d_Stacks_addHandler_76 rfl (lv_at hl 0 rfl) ?_
      refine lv_dup hx hb d_Stacks_addHandler_77 rfl ?_
      refine va_get (D := (dC, dI)) (ci := 2) (v := .int S_handlers) (C := R_Stacks) (T := F_Stacks) (N := 12) hx hb hg i_Stacks hown hK hP 1 rfl rfl 11 (by decide) (hg _ k55) (fun _ h9 => h9) rfl d_Stacks_addHandler_78 ?_
      refine lv_iconst (v := 1) hx hb d_Stacks_addHandler_81 (by decide) ?_
      refine lv_iadd hx hb d_Stacks_addHandler_82 ?_
      refine va_put (D := (dC, dI)) (ci := 2) (v := .int (S_handlers + 1)) (ty := .int) (C := R_Stacks) (T := F_Stacks) (N := 12) hx hb hg i_Stacks t_Stacks t_Stacks_ok n_Stacks hown hK hP hD hS 1 rfl rfl 11 (by decide) (hg _ k55) (fun _ h9 => h9) rfl (by decide +kernel) rfl rfl (Nat.le_of_ble_eq_true rfl) d_Stacks_addHandler_83 (fun H locs hP hD hS => ?_)
      have hP : va_P (dC, dI) classes [(r_S_floors, .inl (cI, n_S_floors, .inl f_S_floors)), (o_Stacks, .inr (2, [.ref r_S_values, .int S_top, .ref r_S_bases, .ref r_S_floors, .ref r_S_returns, .ref r_S_closures, .int S_frames, .ref a8_1, .ref a8_3, .ref a8_2, .ref a8_0, .int (S_handlers + 1)])), (a8_1, .inl (cI, z8_3, .inl (upd z8_4 S_handlers.toNatClampNeg (S_frames - 1)))), (a8_3, .inl (cI, z8_7, .inl (upd z8_8 S_handlers.toNatClampNeg p0))), (a8_2, .inl (cI, z8_5, .inl (upd z8_6 S_handlers.toNatClampNeg z11_1))), (a8_0, .inl (cI, z8_1, .inl (upd z8_2 S_handlers.toNatClampNeg p1)))] H := hP
      have hD : va_D A [(r_S_floors, .inl (cI, n_S_floors, .inl f_S_floors)), (o_Stacks, .inr (2, [.ref r_S_values, .int S_top, .ref r_S_bases, .ref r_S_floors, .ref r_S_returns, .ref r_S_closures, .int S_frames, .ref a8_1, .ref a8_3, .ref a8_2, .ref a8_0, .int (S_handlers + 1)])), (a8_1, .inl (cI, z8_3, .inl (upd z8_4 S_handlers.toNatClampNeg (S_frames - 1)))), (a8_3, .inl (cI, z8_7, .inl (upd z8_8 S_handlers.toNatClampNeg p0))), (a8_2, .inl (cI, z8_5, .inl (upd z8_6 S_handlers.toNatClampNeg z11_1))), (a8_0, .inl (cI, z8_1, .inl (upd z8_2 S_handlers.toNatClampNeg p1)))] := hD
      refine lv_iconst (v := 5) hx hb d_Stacks_addHandler_86 (by decide) ?_
      obtain rfl := Option.some.inj h
      have hP9 := hP.sub (ws' := [(o_Stacks, .inr (2, [.ref r_S_values, .int S_top, .ref r_S_bases, .ref r_S_floors, .ref r_S_returns, .ref r_S_closures, .int S_frames, .ref a8_1, .ref a8_3, .ref a8_2, .ref a8_0, .int (S_handlers + 1)])), (r_S_floors, .inl (cI, n_S_floors, .inl f_S_floors)), (a8_1, .inl (cI, z8_3, .inl (upd z8_4 S_handlers.toNatClampNeg (S_frames - 1)))), (a8_3, .inl (cI, z8_7, .inl (upd z8_8 S_handlers.toNatClampNeg p0))), (a8_2, .inl (cI, z8_5, .inl (upd z8_6 S_handlers.toNatClampNeg z11_1))), (a8_0, .inl (cI, z8_1, .inl (upd z8_2 S_handlers.toNatClampNeg p1)))]) [1, 0, 2, 3, 4, 5] rfl
      have hD9 := hD.sub (ws' := [(o_Stacks, .inr (2, [.ref r_S_values, .int S_top, .ref r_S_bases, .ref r_S_floors, .ref r_S_returns, .ref r_S_closures, .int S_frames, .ref a8_1, .ref a8_3, .ref a8_2, .ref a8_0, .int (S_handlers + 1)])), (r_S_floors, .inl (cI, n_S_floors, .inl f_S_floors)), (a8_1, .inl (cI, z8_3, .inl (upd z8_4 S_handlers.toNatClampNeg (S_frames - 1)))), (a8_3, .inl (cI, z8_7, .inl (upd z8_8 S_handlers.toNatClampNeg p0))), (a8_2, .inl (cI, z8_5, .inl (upd z8_6 S_handlers.toNatClampNeg z11_1))), (a8_0, .inl (cI, z8_1, .inl (upd z8_2 S_handlers.toNatClampNeg p1)))]) [1, 0, 2, 3, 4, 5] (by decide) rfl
      have hK9 := hK.sub (tys' := [(cI, .int)]) [0] rfl
      refine W.widen (dz_Gc hG) (dz_Gs hG) ?_
      obtain ⟨rfl, -, -⟩ := hG
      exact W.iret (v := 5) hx hb hr (fun t ht hW => ⟨⟨5, (a8_0, a8_1, a8_2, a8_3), rfl, rfl, by rw [ht]; exact hP9, va_K.moved hW.alike hK9, hD9⟩, hS.F ht⟩) hS.2.2 d_Stacks_addHandler_87
  · rw [if_neg c1] at h
    refine lv_iconst (v := 3) hx hb d_Stacks_addHandler_10 (by decide) ?_
    obtain rfl := Option.some.inj h
    have hP9 := hP.sub (ws' := [(o_Stacks, .inr (2, [.ref r_S_values, .int S_top, .ref r_S_bases, .ref r_S_floors, .ref r_S_returns, .ref r_S_closures, .int S_frames, .ref r_S_handlerFrames, .ref r_S_handlerPlaces, .ref r_S_handlerHeights, .ref r_S_handlerDepths, .int S_handlers])), (r_S_floors, .inl (cI, n_S_floors, .inl f_S_floors)), (r_S_handlerFrames, .inl (cI, n_S_handlerFrames, .inl f_S_handlerFrames)), (r_S_handlerPlaces, .inl (cI, n_S_handlerPlaces, .inl f_S_handlerPlaces)), (r_S_handlerHeights, .inl (cI, n_S_handlerHeights, .inl f_S_handlerHeights)), (r_S_handlerDepths, .inl (cI, n_S_handlerDepths, .inl f_S_handlerDepths))]) [0, 1, 2, 3, 4, 5] rfl
    have hD9 := hD.sub (ws' := [(o_Stacks, .inr (2, [.ref r_S_values, .int S_top, .ref r_S_bases, .ref r_S_floors, .ref r_S_returns, .ref r_S_closures, .int S_frames, .ref r_S_handlerFrames, .ref r_S_handlerPlaces, .ref r_S_handlerHeights, .ref r_S_handlerDepths, .int S_handlers])), (r_S_floors, .inl (cI, n_S_floors, .inl f_S_floors)), (r_S_handlerFrames, .inl (cI, n_S_handlerFrames, .inl f_S_handlerFrames)), (r_S_handlerPlaces, .inl (cI, n_S_handlerPlaces, .inl f_S_handlerPlaces)), (r_S_handlerHeights, .inl (cI, n_S_handlerHeights, .inl f_S_handlerHeights)), (r_S_handlerDepths, .inl (cI, n_S_handlerDepths, .inl f_S_handlerDepths))]) [0, 1, 2, 3, 4, 5] (by decide) rfl
    have hK9 := hK.sub (tys' := [(cI, .int)]) [0] rfl
    refine W.widen (dz_Gc hG) (dz_Gs hG) ?_
    obtain ⟨rfl, -, -⟩ := hG
    exact W.iret (v := 3) hx hb hr (fun t ht hW => ⟨⟨3, (r_S_handlerDepths, r_S_handlerFrames, r_S_handlerHeights, r_S_handlerPlaces), rfl, rfl, by rw [ht]; exact hP9, va_K.moved hW.alike hK9, hD9⟩, hS.F ht⟩) hS.2.2 d_Stacks_addHandler_11

set_option maxHeartbeats 4000000 in
set_option maxRecDepth 100000 in
theorem c_Stacks_unwind (l : Launch) (dC : Nat → ClassId) (dI : Nat → Nat → Nat) (N : Nat) (cI : ClassId) (cL : ClassId) (o_Stacks : Nat) (r_S_values : Nat) (r_S_bases : Nat) (r_S_floors : Nat) (r_S_returns : Nat) (r_S_closures : Nat) (r_S_handlerFrames : Nat) (r_S_handlerPlaces : Nat) (r_S_handlerHeights : Nat) (r_S_handlerDepths : Nat) (S_top : Int32) (S_frames : Int32) (S_handlers : Int32) (n_S_values : Nat) (f_S_values : Nat → Int64) (n_S_bases : Nat) (f_S_bases : Nat → Int32) (n_S_floors : Nat) (f_S_floors : Nat → Int32) (n_S_handlerFrames : Nat) (f_S_handlerFrames : Nat → Int32) (n_S_handlerHeights : Nat) (f_S_handlerHeights : Nat → Int32) (p0 : Int64) (p1 : Int32) (sz : Nat) (z : Int32 × (Nat → Int64) × Int32 × Int32 × Int32) (h : m_Stacks_unwind N S_top S_frames S_handlers n_S_values f_S_values n_S_bases f_S_bases n_S_floors f_S_floors n_S_handlerFrames f_S_handlerFrames n_S_handlerHeights f_S_handlerHeights p0 p1 = some z) : Met l y_Stacks_unwind (.code y_Stacks_unwind b_Stacks_unwind 7 (some .boolean) :: lw_g) ({ frames := 0, cells := 0, slots := 0, locals := 0 }) (va_Pc [.ref o_Stacks, .long p0, .int p1] (fun U => dz_N U ∧ U.heap.size = sz ∧ va_P (dC, dI) classes [(o_Stacks, .inr (2, [.ref r_S_values, .int S_top, .ref r_S_bases, .ref r_S_floors, .ref r_S_returns, .ref r_S_closures, .int S_frames, .ref r_S_handlerFrames, .ref r_S_handlerPlaces, .ref r_S_handlerHeights, .ref r_S_handlerDepths, .int S_handlers])), (r_S_values, .inl (cL, n_S_values, .inr (.inl f_S_values))), (r_S_bases, .inl (cI, n_S_bases, .inl f_S_bases)), (r_S_floors, .inl (cI, n_S_floors, .inl f_S_floors)), (r_S_handlerFrames, .inl (cI, n_S_handlerFrames, .inl f_S_handlerFrames)), (r_S_handlerHeights, .inl (cI, n_S_handlerHeights, .inl f_S_handlerHeights))] U.heap ∧ va_K (dC, dI) classes [(cI, .int), (cL, .long)] U ∧ va_D (fun _ => True) [(o_Stacks, .inr (2, [.ref r_S_values, .int S_top, .ref r_S_bases, .ref r_S_floors, .ref r_S_returns, .ref r_S_closures, .int S_frames, .ref r_S_handlerFrames, .ref r_S_handlerPlaces, .ref r_S_handlerHeights, .ref r_S_handlerDepths, .int S_handlers])), (r_S_values, .inl (cL, n_S_values, .inr (.inl f_S_values))), (r_S_bases, .inl (cI, n_S_bases, .inl f_S_bases)), (r_S_floors, .inl (cI, n_S_floors, .inl f_S_floors)), (r_S_handlerFrames, .inl (cI, n_S_handlerFrames, .inl f_S_handlerFrames)), (r_S_handlerHeights, .inl (cI, n_S_handlerHeights, .inl f_S_handlerHeights))])) (va_Qi (fun (r : Int32) (_ : Unit) => r = z.1 ∧ narrow .boolean (.int z.1) = .int z.1 ∧ fits .boolean (.int z.1) = true) (fun (u : Unit) t => va_P (dC, dI) classes [(o_Stacks, .inr (2, [.ref r_S_values, .int z.2.2.2.2, .ref r_S_bases, .ref r_S_floors, .ref r_S_returns, .ref r_S_closures, .int z.2.2.1, .ref r_S_handlerFrames, .ref r_S_handlerPlaces, .ref r_S_handlerHeights, .ref r_S_handlerDepths, .int z.2.2.2.1])), (r_S_values, .inl (cL, n_S_values, .inr (.inl z.2.1))), (r_S_bases, .inl (cI, n_S_bases, .inl f_S_bases)), (r_S_floors, .inl (cI, n_S_floors, .inl f_S_floors)), (r_S_handlerFrames, .inl (cI, n_S_handlerFrames, .inl f_S_handlerFrames)), (r_S_handlerHeights, .inl (cI, n_S_handlerHeights, .inl f_S_handlerHeights))] t.heap ∧ va_K (dC, dI) classes [(cI, .int), (cL, .long)] t ∧ va_D (va_A [(o_Stacks, .inr (2, [.ref r_S_values, .int S_top, .ref r_S_bases, .ref r_S_floors, .ref r_S_returns, .ref r_S_closures, .int S_frames, .ref r_S_handlerFrames, .ref r_S_handlerPlaces, .ref r_S_handlerHeights, .ref r_S_handlerDepths, .int S_handlers])), (r_S_values, .inl (cL, n_S_values, .inr (.inl f_S_values))), (r_S_bases, .inl (cI, n_S_bases, .inl f_S_bases)), (r_S_floors, .inl (cI, n_S_floors, .inl f_S_floors)), (r_S_handlerFrames, .inl (cI, n_S_handlerFrames, .inl f_S_handlerFrames)), (r_S_handlerHeights, .inl (cI, n_S_handlerHeights, .inl f_S_handlerHeights))] sz) [(o_Stacks, .inr (2, [.ref r_S_values, .int z.2.2.2.2, .ref r_S_bases, .ref r_S_floors, .ref r_S_returns, .ref r_S_closures, .int z.2.2.1, .ref r_S_handlerFrames, .ref r_S_handlerPlaces, .ref r_S_handlerHeights, .ref r_S_handlerDepths, .int z.2.2.2.1])), (r_S_values, .inl (cL, n_S_values, .inr (.inl z.2.1))), (r_S_bases, .inl (cI, n_S_bases, .inl f_S_bases)), (r_S_floors, .inl (cI, n_S_floors, .inl f_S_floors)), (r_S_handlerFrames, .inl (cI, n_S_handlerFrames, .inl f_S_handlerFrames)), (r_S_handlerHeights, .inl (cI, n_S_handlerHeights, .inl f_S_handlerHeights))]) (va_A [(o_Stacks, .inr (2, [.ref r_S_values, .int S_top, .ref r_S_bases, .ref r_S_floors, .ref r_S_returns, .ref r_S_closures, .int S_frames, .ref r_S_handlerFrames, .ref r_S_handlerPlaces, .ref r_S_handlerHeights, .ref r_S_handlerDepths, .int S_handlers])), (r_S_values, .inl (cL, n_S_values, .inr (.inl f_S_values))), (r_S_bases, .inl (cI, n_S_bases, .inl f_S_bases)), (r_S_floors, .inl (cI, n_S_floors, .inl f_S_floors)), (r_S_handlerFrames, .inl (cI, n_S_handlerFrames, .inl f_S_handlerFrames)), (r_S_handlerHeights, .inl (cI, n_S_handlerHeights, .inl f_S_handlerHeights))] sz)) 0 0 (va_A [(o_Stacks, .inr (2, [.ref r_S_values, .int S_top, .ref r_S_bases, .ref r_S_floors, .ref r_S_returns, .ref r_S_closures, .int S_frames, .ref r_S_handlerFrames, .ref r_S_handlerPlaces, .ref r_S_handlerHeights, .ref r_S_handlerDepths, .int S_handlers])), (r_S_values, .inl (cL, n_S_values, .inr (.inl f_S_values))), (r_S_bases, .inl (cI, n_S_bases, .inl f_S_bases)), (r_S_floors, .inl (cI, n_S_floors, .inl f_S_floors)), (r_S_handlerFrames, .inl (cI, n_S_handlerFrames, .inl f_S_handlerFrames)), (r_S_handlerHeights, .inl (cI, n_S_handlerHeights, .inl f_S_handlerHeights))] sz) := by
  refine Met.ofW (cc := b_Stacks_unwind) (maxL := 7) (ret := (some .boolean)) (by decide +kernel) rfl ?_
  intro p e s m args below meth c s₁ B hml hv
  obtain ⟨rfl, hN, hsz, hP, hK, hD0⟩ := hv
  have hx := B.exec
  have hb := B.bytes
  have hr := B.returns
  have hg : ∀ w ∈ lw_g, w.before _ s = true := fun w hw => atoms_spec (ws := .code y_Stacks_unwind b_Stacks_unwind 7 (some .boolean) :: lw_g) B.pre w (List.mem_cons_of_mem _ hw)
  have hown : s.vm.findClass R_Stacks = some m.cls := findClass_of_methodNamed B.named
  have hlocks := B.notSynchronized
  clear B
  subst hsz
  have hD := hD0.self (sz := s.heap.size)
  generalize hAe : va_A [(o_Stacks, .inr (2, [.ref r_S_values, .int S_top, .ref r_S_bases, .ref r_S_floors, .ref r_S_returns, .ref r_S_closures, .int S_frames, .ref r_S_handlerFrames, .ref r_S_handlerPlaces, .ref r_S_handlerHeights, .ref r_S_handlerDepths, .int S_handlers])), (r_S_values, .inl (cL, n_S_values, .inr (.inl f_S_values))), (r_S_bases, .inl (cI, n_S_bases, .inl f_S_bases)), (r_S_floors, .inl (cI, n_S_floors, .inl f_S_floors)), (r_S_handlerFrames, .inl (cI, n_S_handlerFrames, .inl f_S_handlerFrames)), (r_S_handlerHeights, .inl (cI, n_S_handlerHeights, .inl f_S_handlerHeights))] s.heap.size = A at hD ⊢
  have hA : ∀ q : Nat, s.heap.size ≤ q → A q := fun q h => by rw [← hAe]; exact Or.inr h
  have hS : va_S A s.heap s.heap [] := va_S.rf
  have hP : va_P (dC, dI) classes [(o_Stacks, .inr (2, [.ref r_S_values, .int S_top, .ref r_S_bases, .ref r_S_floors, .ref r_S_returns, .ref r_S_closures, .int S_frames, .ref r_S_handlerFrames, .ref r_S_handlerPlaces, .ref r_S_handlerHeights, .ref r_S_handlerDepths, .int S_handlers])), (r_S_values, .inl (cL, n_S_values, .inr (.inl f_S_values))), (r_S_bases, .inl (cI, n_S_bases, .inl f_S_bases)), (r_S_floors, .inl (cI, n_S_floors, .inl f_S_floors)), (r_S_handlerFrames, .inl (cI, n_S_handlerFrames, .inl f_S_handlerFrames)), (r_S_handlerHeights, .inl (cI, n_S_handlerHeights, .inl f_S_handlerHeights))] s.heap := hP
  have hl := lv_entry ([.ref o_Stacks, .long p0, .int p1]) (n := 7) (Nat.le_of_ble_eq_true rfl)
  rw [lg_entry_eq]
  generalize (lg_sl ([.ref o_Stacks, .long p0, .int p1]) ++ List.replicate (7 - (lg_sl ([.ref o_Stacks, .long p0, .int p1])).length) Slot.unset).toArray = ls at hl ⊢
  have hl : lv_has ls 7 [(0, .ref o_Stacks), (1, .long p0), (3, .int p1)] := hl
  unfold m_Stacks_unwind at h
  refine lv_aload_n hx hb d_Stacks_unwind_0 rfl (lv_at hl 0 rfl) ?_
  refine va_get (D := (dC, dI)) (ci := 2) (v := .ref r_S_handlerFrames) (C := R_Stacks) (T := F_Stacks) (N := 12) hx hb hg i_Stacks hown hK hP 0 rfl rfl 7 (by decide) (hg _ k99) (fun _ h9 => h9) rfl d_Stacks_unwind_1 ?_
  refine lv_aload_n hx hb d_Stacks_unwind_4 rfl (lv_at hl 0 rfl) ?_
  refine va_get (D := (dC, dI)) (ci := 2) (v := .int S_handlers) (C := R_Stacks) (T := F_Stacks) (N := 12) hx hb hg i_Stacks hown hK hP 0 rfl rfl 11 (by decide) (hg _ k55) (fun _ h9 => h9) rfl d_Stacks_unwind_5 ?_
  refine lv_iconst (v := 1) hx hb d_Stacks_unwind_8 (by decide) ?_
  refine lv_isub hx hb d_Stacks_unwind_9 ?_
  obtain ⟨i1, h⟩ := dz_oi h
  refine va_iald (D := (dC, dI)) hx hb hK hP 4 0 rfl rfl i1 d_Stacks_unwind_10 ?_
  refine lv_istore (lv' := [(4, .int (f_S_handlerFrames (S_handlers - 1).toNatClampNeg)), (0, .ref o_Stacks), (1, .long p0), (3, .int p1)]) hx hb d_Stacks_unwind_11 hl (by decide) rfl (fun ls hl => ?_)
  refine lv_iload hx hb d_Stacks_unwind_13 (lv_at hl 0 rfl) ?_
  refine lv_aload_n hx hb d_Stacks_unwind_15 rfl (lv_at hl 1 rfl) ?_
  refine va_get (D := (dC, dI)) (ci := 2) (v := .int S_frames) (C := R_Stacks) (T := F_Stacks) (N := 12) hx hb hg i_Stacks hown hK hP 0 rfl rfl 6 (by decide) (hg _ k54) (fun _ h9 => h9) rfl d_Stacks_unwind_16 ?_
  refine lv_iconst (v := 1) hx hb d_Stacks_unwind_19 (by decide) ?_
  refine lv_isub hx hb d_Stacks_unwind_20 ?_
  refine lv_icmp_ne (tgt := 33) hx hb d_Stacks_unwind_21 (by decide) (fun c2 => ?_) (fun c2 => ?_)
  · rw [if_neg c2] at h
    refine lv_aload_n hx hb d_Stacks_unwind_33 rfl (lv_at hl 1 rfl) ?_
    refine va_get (D := (dC, dI)) (ci := 2) (v := .ref r_S_bases) (C := R_Stacks) (T := F_Stacks) (N := 12) hx hb hg i_Stacks hown hK hP 0 rfl rfl 2 (by decide) (hg _ k56) (fun _ h9 => h9) rfl d_Stacks_unwind_34 ?_
    refine lv_iload hx hb d_Stacks_unwind_37 (lv_at hl 0 rfl) ?_
    refine lv_iconst (v := 1) hx hb d_Stacks_unwind_39 (by decide) ?_
    refine lv_iadd hx hb d_Stacks_unwind_40 ?_
    obtain ⟨i3, h⟩ := dz_oi h
    refine va_iald (D := (dC, dI)) hx hb hK hP 2 0 rfl rfl i3 d_Stacks_unwind_41 ?_
    obtain ⟨x4, ex4, h⟩ := dz_lt h
    refine dz_topi ex4 ?_
    refine lv_istore (lv' := [(5, .int x4), (4, .int (f_S_handlerFrames (S_handlers - 1).toNatClampNeg)), (0, .ref o_Stacks), (1, .long p0), (3, .int p1)]) hx hb d_Stacks_unwind_42 hl (by decide) rfl (fun ls hl => ?_)
    refine lv_aload_n hx hb d_Stacks_unwind_44 rfl (lv_at hl 2 rfl) ?_
    refine va_get (D := (dC, dI)) (ci := 2) (v := .ref r_S_floors) (C := R_Stacks) (T := F_Stacks) (N := 12) hx hb hg i_Stacks hown hK hP 0 rfl rfl 3 (by decide) (hg _ k57) (fun _ h9 => h9) rfl d_Stacks_unwind_45 ?_
    refine lv_iload hx hb d_Stacks_unwind_48 (lv_at hl 1 rfl) ?_
    obtain ⟨i5, h⟩ := dz_oi h
    refine va_iald (D := (dC, dI)) hx hb hK hP 3 0 rfl rfl i5 d_Stacks_unwind_50 ?_
    obtain ⟨x6, ex6, h⟩ := dz_lt h
    refine dz_topi ex6 ?_
    refine lv_aload_n hx hb d_Stacks_unwind_51 rfl (lv_at hl 2 rfl) ?_
    refine va_get (D := (dC, dI)) (ci := 2) (v := .ref r_S_handlerHeights) (C := R_Stacks) (T := F_Stacks) (N := 12) hx hb hg i_Stacks hown hK hP 0 rfl rfl 9 (by decide) (hg _ k101) (fun _ h9 => h9) rfl d_Stacks_unwind_52 ?_
    refine lv_aload_n hx hb d_Stacks_unwind_55 rfl (lv_at hl 2 rfl) ?_
    refine va_get (D := (dC, dI)) (ci := 2) (v := .int S_handlers) (C := R_Stacks) (T := F_Stacks) (N := 12) hx hb hg i_Stacks hown hK hP 0 rfl rfl 11 (by decide) (hg _ k55) (fun _ h9 => h9) rfl d_Stacks_unwind_56 ?_
    refine lv_iconst (v := 1) hx hb d_Stacks_unwind_59 (by decide) ?_
    refine lv_isub hx hb d_Stacks_unwind_60 ?_
    obtain ⟨i7, h⟩ := dz_oi h
    refine va_iald (D := (dC, dI)) hx hb hK hP 5 0 rfl rfl i7 d_Stacks_unwind_61 ?_
    refine lv_iadd hx hb d_Stacks_unwind_62 ?_
    refine lv_istore (lv' := [(6, .int (x6 + (f_S_handlerHeights (S_handlers - 1).toNatClampNeg))), (5, .int x4), (4, .int (f_S_handlerFrames (S_handlers - 1).toNatClampNeg)), (0, .ref o_Stacks), (1, .long p0), (3, .int p1)]) hx hb d_Stacks_unwind_63 hl (by decide) rfl (fun ls hl => ?_)
    refine lv_iload hx hb d_Stacks_unwind_65 (lv_at hl 0 rfl) ?_
    refine lv_iload hx hb d_Stacks_unwind_67 (lv_at hl 1 rfl) ?_
    refine lv_icmp_le (tgt := 74) hx hb d_Stacks_unwind_69 (by decide) (fun c8 => ?_) (fun c8 => ?_)
    · rw [if_pos c8] at h
      refine lv_aload_n hx hb d_Stacks_unwind_74 rfl (lv_at hl 3 rfl) ?_
      refine lv_dup hx hb d_Stacks_unwind_75 rfl ?_
      refine va_get (D := (dC, dI)) (ci := 2) (v := .int S_handlers) (C := R_Stacks) (T := F_Stacks) (N := 12) hx hb hg i_Stacks hown hK hP 0 rfl rfl 11 (by decide) (hg _ k55) (fun _ h9 => h9) rfl d_Stacks_unwind_76 ?_
      refine lv_iconst (v := 1) hx hb d_Stacks_unwind_79 (by decide) ?_
      refine lv_isub hx hb d_Stacks_unwind_80 ?_
      refine va_put (D := (dC, dI)) (ci := 2) (v := .int (S_handlers - 1)) (ty := .int) (C := R_Stacks) (T := F_Stacks) (N := 12) hx hb hg i_Stacks t_Stacks t_Stacks_ok n_Stacks hown hK hP hD hS 0 rfl rfl 11 (by decide) (hg _ k55) (fun _ h9 => h9) rfl (by decide +kernel) rfl rfl (Nat.le_of_ble_eq_true rfl) d_Stacks_unwind_81 (fun H locs hP hD hS => ?_)
      have hP : va_P (dC, dI) classes [(o_Stacks, .inr (2, [.ref r_S_values, .int S_top, .ref r_S_bases, .ref r_S_floors, .ref r_S_returns, .ref r_S_closures, .int S_frames, .ref r_S_handlerFrames, .ref r_S_handlerPlaces, .ref r_S_handlerHeights, .ref r_S_handlerDepths, .int (S_handlers - 1)])), (r_S_values, .inl (cL, n_S_values, .inr (.inl f_S_values))), (r_S_bases, .inl (cI, n_S_bases, .inl f_S_bases)), (r_S_floors, .inl (cI, n_S_floors, .inl f_S_floors)), (r_S_handlerFrames, .inl (cI, n_S_handlerFrames, .inl f_S_handlerFrames)), (r_S_handlerHeights, .inl (cI, n_S_handlerHeights, .inl f_S_handlerHeights))] H := hP
      have hD : va_D A [(o_Stacks, .inr (2, [.ref r_S_values, .int S_top, .ref r_S_bases, .ref r_S_floors, .ref r_S_returns, .ref r_S_closures, .int S_frames, .ref r_S_handlerFrames, .ref r_S_handlerPlaces, .ref r_S_handlerHeights, .ref r_S_handlerDepths, .int (S_handlers - 1)])), (r_S_values, .inl (cL, n_S_values, .inr (.inl f_S_values))), (r_S_bases, .inl (cI, n_S_bases, .inl f_S_bases)), (r_S_floors, .inl (cI, n_S_floors, .inl f_S_floors)), (r_S_handlerFrames, .inl (cI, n_S_handlerFrames, .inl f_S_handlerFrames)), (r_S_handlerHeights, .inl (cI, n_S_handlerHeights, .inl f_S_handlerHeights))] := hD
      refine lv_aload_n hx hb d_Stacks_unwind_84 rfl (lv_at hl 3 rfl) ?_
      refine lv_iload hx hb d_Stacks_unwind_85 (lv_at hl 2 rfl) ?_
      refine lv_iconst (v := 1) hx hb d_Stacks_unwind_87 (by decide) ?_
      refine lv_iadd hx hb d_Stacks_unwind_88 ?_
      refine va_put (D := (dC, dI)) (ci := 2) (v := .int ((f_S_handlerFrames (S_handlers - 1).toNatClampNeg) + 1)) (ty := .int) (C := R_Stacks) (T := F_Stacks) (N := 12) hx hb hg i_Stacks t_Stacks t_Stacks_ok n_Stacks hown hK hP hD hS 0 rfl rfl 6 (by decide) (hg _ k54) (fun _ h9 => h9) rfl (by decide +kernel) rfl rfl (Nat.le_of_ble_eq_true rfl) d_Stacks_unwind_89 (fun H locs hP hD hS => ?_)
      have hP : va_P (dC, dI) classes [(o_Stacks, .inr (2, [.ref r_S_values, .int S_top, .ref r_S_bases, .ref r_S_floors, .ref r_S_returns, .ref r_S_closures, .int ((f_S_handlerFrames (S_handlers - 1).toNatClampNeg) + 1), .ref r_S_handlerFrames, .ref r_S_handlerPlaces, .ref r_S_handlerHeights, .ref r_S_handlerDepths, .int (S_handlers - 1)])), (r_S_values, .inl (cL, n_S_values, .inr (.inl f_S_values))), (r_S_bases, .inl (cI, n_S_bases, .inl f_S_bases)), (r_S_floors, .inl (cI, n_S_floors, .inl f_S_floors)), (r_S_handlerFrames, .inl (cI, n_S_handlerFrames, .inl f_S_handlerFrames)), (r_S_handlerHeights, .inl (cI, n_S_handlerHeights, .inl f_S_handlerHeights))] H := hP
      have hD : va_D A [(o_Stacks, .inr (2, [.ref r_S_values, .int S_top, .ref r_S_bases, .ref r_S_floors, .ref r_S_returns, .ref r_S_closures, .int ((f_S_handlerFrames (S_handlers - 1).toNatClampNeg) + 1), .ref r_S_handlerFrames, .ref r_S_handlerPlaces, .ref r_S_handlerHeights, .ref r_S_handlerDepths, .int (S_handlers - 1)])), (r_S_values, .inl (cL, n_S_values, .inr (.inl f_S_values))), (r_S_bases, .inl (cI, n_S_bases, .inl f_S_bases)), (r_S_floors, .inl (cI, n_S_floors, .inl f_S_floors)), (r_S_handlerFrames, .inl (cI, n_S_handlerFrames, .inl f_S_handlerFrames)), (r_S_handlerHeights, .inl (cI, n_S_handlerHeights, .inl f_S_handlerHeights))] := hD
      refine lv_aload_n hx hb d_Stacks_unwind_92 rfl (lv_at hl 3 rfl) ?_
      refine lv_iload hx hb d_Stacks_unwind_93 (lv_at hl 0 rfl) ?_
      refine va_put (D := (dC, dI)) (ci := 2) (v := .int (x6 + (f_S_handlerHeights (S_handlers - 1).toNatClampNeg))) (ty := .int) (C := R_Stacks) (T := F_Stacks) (N := 12) hx hb hg i_Stacks t_Stacks t_Stacks_ok n_Stacks hown hK hP hD hS 0 rfl rfl 1 (by decide) (hg _ k53) (fun _ h9 => h9) rfl (by decide +kernel) rfl rfl (Nat.le_of_ble_eq_true rfl) d_Stacks_unwind_95 (fun H locs hP hD hS => ?_)
      have hP : va_P (dC, dI) classes [(o_Stacks, .inr (2, [.ref r_S_values, .int (x6 + (f_S_handlerHeights (S_handlers - 1).toNatClampNeg)), .ref r_S_bases, .ref r_S_floors, .ref r_S_returns, .ref r_S_closures, .int ((f_S_handlerFrames (S_handlers - 1).toNatClampNeg) + 1), .ref r_S_handlerFrames, .ref r_S_handlerPlaces, .ref r_S_handlerHeights, .ref r_S_handlerDepths, .int (S_handlers - 1)])), (r_S_values, .inl (cL, n_S_values, .inr (.inl f_S_values))), (r_S_bases, .inl (cI, n_S_bases, .inl f_S_bases)), (r_S_floors, .inl (cI, n_S_floors, .inl f_S_floors)), (r_S_handlerFrames, .inl (cI, n_S_handlerFrames, .inl f_S_handlerFrames)), (r_S_handlerHeights, .inl (cI, n_S_handlerHeights, .inl f_S_handlerHeights))] H := hP
      have hD : va_D A [(o_Stacks, .inr (2, [.ref r_S_values, .int (x6 + (f_S_handlerHeights (S_handlers - 1).toNatClampNeg)), .ref r_S_bases, .ref r_S_floors, .ref r_S_returns, .ref r_S_closures, .int ((f_S_handlerFrames (S_handlers - 1).toNatClampNeg) + 1), .ref r_S_handlerFrames, .ref r_S_handlerPlaces, .ref r_S_handlerHeights, .ref r_S_handlerDepths, .int (S_handlers - 1)])), (r_S_values, .inl (cL, n_S_values, .inr (.inl f_S_values))), (r_S_bases, .inl (cI, n_S_bases, .inl f_S_bases)), (r_S_floors, .inl (cI, n_S_floors, .inl f_S_floors)), (r_S_handlerFrames, .inl (cI, n_S_handlerFrames, .inl f_S_handlerFrames)), (r_S_handlerHeights, .inl (cI, n_S_handlerHeights, .inl f_S_handlerHeights))] := hD
      refine lv_aload_n hx hb d_Stacks_unwind_98 rfl (lv_at hl 3 rfl) ?_
      refine va_get (D := (dC, dI)) (ci := 2) (v := .ref r_S_values) (C := R_Stacks) (T := F_Stacks) (N := 12) hx hb hg i_Stacks hown hK hP 0 rfl rfl 0 (by decide) (hg _ k65) (fun _ h9 => h9) rfl d_Stacks_unwind_99 ?_
      refine lv_aload_n hx hb d_Stacks_unwind_102 rfl (lv_at hl 3 rfl) ?_
      refine lv_dup hx hb d_Stacks_unwind_103 rfl ?_
      refine va_get (D := (dC, dI)) (ci := 2) (v := .int (x6 + (f_S_handlerHeights (S_handlers - 1).toNatClampNeg))) (C := R_Stacks) (T := F_Stacks) (N := 12) hx hb hg i_Stacks hown hK hP 0 rfl rfl 1 (by decide) (hg _ k53) (fun _ h9 => h9) rfl d_Stacks_unwind_104 ?_
      refine lv_dup_x1 hx hb d_Stacks_unwind_107 rfl rfl ?_
      refine lv_iconst (v := 1) hx hb d_Stacks_unwind_108 (by decide) ?_
      refine lv_iadd hx hb d_Stacks_unwind_109 ?_
      refine va_put (D := (dC, dI)) (ci := 2) (v := .int ((x6 + (f_S_handlerHeights (S_handlers - 1).toNatClampNeg)) + 1)) (ty := .int) (C := R_Stacks) (T := F_Stacks) (N := 12) hx hb hg i_Stacks t_Stacks t_Stacks_ok n_Stacks hown hK hP hD hS 0 rfl rfl 1 (by decide) (hg _ k53) (fun _ h9 => h9) rfl (by decide +kernel) rfl rfl (Nat.le_of_ble_eq_true rfl) d_Stacks_unwind_110 (fun H locs hP hD hS => ?_)
      have hP : va_P (dC, dI) classes [(o_Stacks, .inr (2, [.ref r_S_values, .int ((x6 + (f_S_handlerHeights (S_handlers - 1).toNatClampNeg)) + 1), .ref r_S_bases, .ref r_S_floors, .ref r_S_returns, .ref r_S_closures, .int ((f_S_handlerFrames (S_handlers - 1).toNatClampNeg) + 1), .ref r_S_handlerFrames, .ref r_S_handlerPlaces, .ref r_S_handlerHeights, .ref r_S_handlerDepths, .int (S_handlers - 1)])), (r_S_values, .inl (cL, n_S_values, .inr (.inl f_S_values))), (r_S_bases, .inl (cI, n_S_bases, .inl f_S_bases)), (r_S_floors, .inl (cI, n_S_floors, .inl f_S_floors)), (r_S_handlerFrames, .inl (cI, n_S_handlerFrames, .inl f_S_handlerFrames)), (r_S_handlerHeights, .inl (cI, n_S_handlerHeights, .inl f_S_handlerHeights))] H := hP
      have hD : va_D A [(o_Stacks, .inr (2, [.ref r_S_values, .int ((x6 + (f_S_handlerHeights (S_handlers - 1).toNatClampNeg)) + 1), .ref r_S_bases, .ref r_S_floors, .ref r_S_returns, .ref r_S_closures, .int ((f_S_handlerFrames (S_handlers - 1).toNatClampNeg) + 1), .ref r_S_handlerFrames, .ref r_S_handlerPlaces, .ref r_S_handlerHeights, .ref r_S_handlerDepths, .int (S_handlers - 1)])), (r_S_values, .inl (cL, n_S_values, .inr (.inl f_S_values))), (r_S_bases, .inl (cI, n_S_bases, .inl f_S_bases)), (r_S_floors, .inl (cI, n_S_floors, .inl f_S_floors)), (r_S_handlerFrames, .inl (cI, n_S_handlerFrames, .inl f_S_handlerFrames)), (r_S_handlerHeights, .inl (cI, n_S_handlerHeights, .inl f_S_handlerHeights))] := hD
      refine lv_lload_n hx hb d_Stacks_unwind_113 rfl (lv_at hl 4 rfl) ?_
      obtain ⟨i9, h⟩ := dz_oi h
      refine va_last (D := (dC, dI)) hx hb hK hP hD hS 1 1 rfl rfl i9 d_Stacks_unwind_114 (fun H locs hP hD hS => ?_)
      have hP : va_P (dC, dI) classes [(o_Stacks, .inr (2, [.ref r_S_values, .int ((x6 + (f_S_handlerHeights (S_handlers - 1).toNatClampNeg)) + 1), .ref r_S_bases, .ref r_S_floors, .ref r_S_returns, .ref r_S_closures, .int ((f_S_handlerFrames (S_handlers - 1).toNatClampNeg) + 1), .ref r_S_handlerFrames, .ref r_S_handlerPlaces, .ref r_S_handlerHeights, .ref r_S_handlerDepths, .int (S_handlers - 1)])), (r_S_values, .inl (cL, n_S_values, .inr (.inl (vp_updL f_S_values (x6 + (f_S_handlerHeights (S_handlers - 1).toNatClampNeg)).toNatClampNeg p0)))), (r_S_bases, .inl (cI, n_S_bases, .inl f_S_bases)), (r_S_floors, .inl (cI, n_S_floors, .inl f_S_floors)), (r_S_handlerFrames, .inl (cI, n_S_handlerFrames, .inl f_S_handlerFrames)), (r_S_handlerHeights, .inl (cI, n_S_handlerHeights, .inl f_S_handlerHeights))] H := hP
      have hD : va_D A [(o_Stacks, .inr (2, [.ref r_S_values, .int ((x6 + (f_S_handlerHeights (S_handlers - 1).toNatClampNeg)) + 1), .ref r_S_bases, .ref r_S_floors, .ref r_S_returns, .ref r_S_closures, .int ((f_S_handlerFrames (S_handlers - 1).toNatClampNeg) + 1), .ref r_S_handlerFrames, .ref r_S_handlerPlaces, .ref r_S_handlerHeights, .ref r_S_handlerDepths, .int (S_handlers - 1)])), (r_S_values, .inl (cL, n_S_values, .inr (.inl (vp_updL f_S_values (x6 + (f_S_handlerHeights (S_handlers - 1).toNatClampNeg)).toNatClampNeg p0)))), (r_S_bases, .inl (cI, n_S_bases, .inl f_S_bases)), (r_S_floors, .inl (cI, n_S_floors, .inl f_S_floors)), (r_S_handlerFrames, .inl (cI, n_S_handlerFrames, .inl f_S_handlerFrames)), (r_S_handlerHeights, .inl (cI, n_S_handlerHeights, .inl f_S_handlerHeights))] := hD
      refine lv_iconst (v := 1) hx hb d_Stacks_unwind_115 (by decide) ?_
      obtain rfl := Option.some.inj h
      have hP9 := hP.sub (ws' := [(o_Stacks, .inr (2, [.ref r_S_values, .int ((x6 + (f_S_handlerHeights (S_handlers - 1).toNatClampNeg)) + 1), .ref r_S_bases, .ref r_S_floors, .ref r_S_returns, .ref r_S_closures, .int ((f_S_handlerFrames (S_handlers - 1).toNatClampNeg) + 1), .ref r_S_handlerFrames, .ref r_S_handlerPlaces, .ref r_S_handlerHeights, .ref r_S_handlerDepths, .int (S_handlers - 1)])), (r_S_values, .inl (cL, n_S_values, .inr (.inl (vp_updL f_S_values (x6 + (f_S_handlerHeights (S_handlers - 1).toNatClampNeg)).toNatClampNeg p0)))), (r_S_bases, .inl (cI, n_S_bases, .inl f_S_bases)), (r_S_floors, .inl (cI, n_S_floors, .inl f_S_floors)), (r_S_handlerFrames, .inl (cI, n_S_handlerFrames, .inl f_S_handlerFrames)), (r_S_handlerHeights, .inl (cI, n_S_handlerHeights, .inl f_S_handlerHeights))]) [0, 1, 2, 3, 4, 5] rfl
      have hD9 := hD.sub (ws' := [(o_Stacks, .inr (2, [.ref r_S_values, .int ((x6 + (f_S_handlerHeights (S_handlers - 1).toNatClampNeg)) + 1), .ref r_S_bases, .ref r_S_floors, .ref r_S_returns, .ref r_S_closures, .int ((f_S_handlerFrames (S_handlers - 1).toNatClampNeg) + 1), .ref r_S_handlerFrames, .ref r_S_handlerPlaces, .ref r_S_handlerHeights, .ref r_S_handlerDepths, .int (S_handlers - 1)])), (r_S_values, .inl (cL, n_S_values, .inr (.inl (vp_updL f_S_values (x6 + (f_S_handlerHeights (S_handlers - 1).toNatClampNeg)).toNatClampNeg p0)))), (r_S_bases, .inl (cI, n_S_bases, .inl f_S_bases)), (r_S_floors, .inl (cI, n_S_floors, .inl f_S_floors)), (r_S_handlerFrames, .inl (cI, n_S_handlerFrames, .inl f_S_handlerFrames)), (r_S_handlerHeights, .inl (cI, n_S_handlerHeights, .inl f_S_handlerHeights))]) [0, 1, 2, 3, 4, 5] (by decide) rfl
      have hK9 := hK.sub (tys' := [(cI, .int), (cL, .long)]) [0, 1] rfl
      exact W.zret (v := 1) (ty := .boolean) hx hb hr (show narrow .boolean (.int 1) = .int 1 from rfl) (fun t ht hW => ⟨⟨1, (), rfl, ⟨rfl, (show narrow .boolean (.int 1) = .int 1 from rfl), (show fits .boolean (.int 1) = true from rfl)⟩, by rw [ht]; exact hP9, va_K.moved hW.alike hK9, hD9⟩, hS.F ht⟩) hS.2.2 d_Stacks_unwind_116
    · rw [if_neg c8] at h
      refine lv_iconst (v := 0) hx hb d_Stacks_unwind_72 (by decide) ?_
      obtain rfl := Option.some.inj h
      have hP9 := hP.sub (ws' := [(o_Stacks, .inr (2, [.ref r_S_values, .int S_top, .ref r_S_bases, .ref r_S_floors, .ref r_S_returns, .ref r_S_closures, .int S_frames, .ref r_S_handlerFrames, .ref r_S_handlerPlaces, .ref r_S_handlerHeights, .ref r_S_handlerDepths, .int S_handlers])), (r_S_values, .inl (cL, n_S_values, .inr (.inl f_S_values))), (r_S_bases, .inl (cI, n_S_bases, .inl f_S_bases)), (r_S_floors, .inl (cI, n_S_floors, .inl f_S_floors)), (r_S_handlerFrames, .inl (cI, n_S_handlerFrames, .inl f_S_handlerFrames)), (r_S_handlerHeights, .inl (cI, n_S_handlerHeights, .inl f_S_handlerHeights))]) [0, 1, 2, 3, 4, 5] rfl
      have hD9 := hD.sub (ws' := [(o_Stacks, .inr (2, [.ref r_S_values, .int S_top, .ref r_S_bases, .ref r_S_floors, .ref r_S_returns, .ref r_S_closures, .int S_frames, .ref r_S_handlerFrames, .ref r_S_handlerPlaces, .ref r_S_handlerHeights, .ref r_S_handlerDepths, .int S_handlers])), (r_S_values, .inl (cL, n_S_values, .inr (.inl f_S_values))), (r_S_bases, .inl (cI, n_S_bases, .inl f_S_bases)), (r_S_floors, .inl (cI, n_S_floors, .inl f_S_floors)), (r_S_handlerFrames, .inl (cI, n_S_handlerFrames, .inl f_S_handlerFrames)), (r_S_handlerHeights, .inl (cI, n_S_handlerHeights, .inl f_S_handlerHeights))]) [0, 1, 2, 3, 4, 5] (by decide) rfl
      have hK9 := hK.sub (tys' := [(cI, .int), (cL, .long)]) [0, 1] rfl
      exact W.zret (v := 0) (ty := .boolean) hx hb hr (show narrow .boolean (.int 0) = .int 0 from rfl) (fun t ht hW => ⟨⟨0, (), rfl, ⟨rfl, (show narrow .boolean (.int 0) = .int 0 from rfl), (show fits .boolean (.int 0) = true from rfl)⟩, by rw [ht]; exact hP9, va_K.moved hW.alike hK9, hD9⟩, hS.F ht⟩) hS.2.2 d_Stacks_unwind_73
  · rw [if_pos c2] at h
    refine lv_aload_n hx hb d_Stacks_unwind_24 rfl (lv_at hl 1 rfl) ?_
    refine va_get (D := (dC, dI)) (ci := 2) (v := .int S_top) (C := R_Stacks) (T := F_Stacks) (N := 12) hx hb hg i_Stacks hown hK hP 0 rfl rfl 1 (by decide) (hg _ k53) (fun _ h9 => h9) rfl d_Stacks_unwind_25 ?_
    refine lv_iload_n hx hb d_Stacks_unwind_28 rfl (lv_at hl 3 rfl) ?_
    refine lv_isub hx hb d_Stacks_unwind_29 ?_
    refine lv_goto (tgt := 42) hx hb d_Stacks_unwind_30 (by decide) ?_
    refine lv_istore (lv' := [(5, .int (S_top - p1)), (4, .int (f_S_handlerFrames (S_handlers - 1).toNatClampNeg)), (0, .ref o_Stacks), (1, .long p0), (3, .int p1)]) hx hb d_Stacks_unwind_42 hl (by decide) rfl (fun ls hl => ?_)
    refine lv_aload_n hx hb d_Stacks_unwind_44 rfl (lv_at hl 2 rfl) ?_
    refine va_get (D := (dC, dI)) (ci := 2) (v := .ref r_S_floors) (C := R_Stacks) (T := F_Stacks) (N := 12) hx hb hg i_Stacks hown hK hP 0 rfl rfl 3 (by decide) (hg _ k57) (fun _ h9 => h9) rfl d_Stacks_unwind_45 ?_
    refine lv_iload hx hb d_Stacks_unwind_48 (lv_at hl 1 rfl) ?_
    obtain ⟨i10, h⟩ := dz_oi h
    refine va_iald (D := (dC, dI)) hx hb hK hP 3 0 rfl rfl i10 d_Stacks_unwind_50 ?_
    obtain ⟨x11, ex11, h⟩ := dz_lt h
    refine dz_topi ex11 ?_
    refine lv_aload_n hx hb d_Stacks_unwind_51 rfl (lv_at hl 2 rfl) ?_
    refine va_get (D := (dC, dI)) (ci := 2) (v := .ref r_S_handlerHeights) (C := R_Stacks) (T := F_Stacks) (N := 12) hx hb hg i_Stacks hown hK hP 0 rfl rfl 9 (by decide) (hg _ k101) (fun _ h9 => h9) rfl d_Stacks_unwind_52 ?_
    refine lv_aload_n hx hb d_Stacks_unwind_55 rfl (lv_at hl 2 rfl) ?_
    refine va_get (D := (dC, dI)) (ci := 2) (v := .int S_handlers) (C := R_Stacks) (T := F_Stacks) (N := 12) hx hb hg i_Stacks hown hK hP 0 rfl rfl 11 (by decide) (hg _ k55) (fun _ h9 => h9) rfl d_Stacks_unwind_56 ?_
    refine lv_iconst (v := 1) hx hb d_Stacks_unwind_59 (by decide) ?_
    refine lv_isub hx hb d_Stacks_unwind_60 ?_
    obtain ⟨i12, h⟩ := dz_oi h
    refine va_iald (D := (dC, dI)) hx hb hK hP 5 0 rfl rfl i12 d_Stacks_unwind_61 ?_
    refine lv_iadd hx hb d_Stacks_unwind_62 ?_
    refine lv_istore (lv' := [(6, .int (x11 + (f_S_handlerHeights (S_handlers - 1).toNatClampNeg))), (5, .int (S_top - p1)), (4, .int (f_S_handlerFrames (S_handlers - 1).toNatClampNeg)), (0, .ref o_Stacks), (1, .long p0), (3, .int p1)]) hx hb d_Stacks_unwind_63 hl (by decide) rfl (fun ls hl => ?_)
    refine lv_iload hx hb d_Stacks_unwind_65 (lv_at hl 0 rfl) ?_
    refine lv_iload hx hb d_Stacks_unwind_67 (lv_at hl 1 rfl) ?_
    refine lv_icmp_le (tgt := 74) hx hb d_Stacks_unwind_69 (by decide) (fun c13 => ?_) (fun c13 => ?_)
    · rw [if_pos c13] at h
      refine lv_aload_n hx hb d_Stacks_unwind_74 rfl (lv_at hl 3 rfl) ?_
      refine lv_dup hx hb d_Stacks_unwind_75 rfl ?_
      refine va_get (D := (dC, dI)) (ci := 2) (v := .int S_handlers) (C := R_Stacks) (T := F_Stacks) (N := 12) hx hb hg i_Stacks hown hK hP 0 rfl rfl 11 (by decide) (hg _ k55) (fun _ h9 => h9) rfl d_Stacks_unwind_76 ?_
      refine lv_iconst (v := 1) hx hb d_Stacks_unwind_79 (by decide) ?_
      refine lv_isub hx hb d_Stacks_unwind_80 ?_
      refine va_put (D := (dC, dI)) (ci := 2) (v := .int (S_handlers - 1)) (ty := .int) (C := R_Stacks) (T := F_Stacks) (N := 12) hx hb hg i_Stacks t_Stacks t_Stacks_ok n_Stacks hown hK hP hD hS 0 rfl rfl 11 (by decide) (hg _ k55) (fun _ h9 => h9) rfl (by decide +kernel) rfl rfl (Nat.le_of_ble_eq_true rfl) d_Stacks_unwind_81 (fun H locs hP hD hS => ?_)
      have hP : va_P (dC, dI) classes [(o_Stacks, .inr (2, [.ref r_S_values, .int S_top, .ref r_S_bases, .ref r_S_floors, .ref r_S_returns, .ref r_S_closures, .int S_frames, .ref r_S_handlerFrames, .ref r_S_handlerPlaces, .ref r_S_handlerHeights, .ref r_S_handlerDepths, .int (S_handlers - 1)])), (r_S_values, .inl (cL, n_S_values, .inr (.inl f_S_values))), (r_S_bases, .inl (cI, n_S_bases, .inl f_S_bases)), (r_S_floors, .inl (cI, n_S_floors, .inl f_S_floors)), (r_S_handlerFrames, .inl (cI, n_S_handlerFrames, .inl f_S_handlerFrames)), (r_S_handlerHeights, .inl (cI, n_S_handlerHeights, .inl f_S_handlerHeights))] H := hP
      have hD : va_D A [(o_Stacks, .inr (2, [.ref r_S_values, .int S_top, .ref r_S_bases, .ref r_S_floors, .ref r_S_returns, .ref r_S_closures, .int S_frames, .ref r_S_handlerFrames, .ref r_S_handlerPlaces, .ref r_S_handlerHeights, .ref r_S_handlerDepths, .int (S_handlers - 1)])), (r_S_values, .inl (cL, n_S_values, .inr (.inl f_S_values))), (r_S_bases, .inl (cI, n_S_bases, .inl f_S_bases)), (r_S_floors, .inl (cI, n_S_floors, .inl f_S_floors)), (r_S_handlerFrames, .inl (cI, n_S_handlerFrames, .inl f_S_handlerFrames)), (r_S_handlerHeights, .inl (cI, n_S_handlerHeights, .inl f_S_handlerHeights))] := hD
      refine lv_aload_n hx hb d_Stacks_unwind_84 rfl (lv_at hl 3 rfl) ?_
      refine lv_iload hx hb d_Stacks_unwind_85 (lv_at hl 2 rfl) ?_
      refine lv_iconst (v := 1) hx hb d_Stacks_unwind_87 (by decide) ?_
      refine lv_iadd hx hb d_Stacks_unwind_88 ?_
      refine va_put (D := (dC, dI)) (ci := 2) (v := .int ((f_S_handlerFrames (S_handlers - 1).toNatClampNeg) + 1)) (ty := .int) (C := R_Stacks) (T := F_Stacks) (N := 12) hx hb hg i_Stacks t_Stacks t_Stacks_ok n_Stacks hown hK hP hD hS 0 rfl rfl 6 (by decide) (hg _ k54) (fun _ h9 => h9) rfl (by decide +kernel) rfl rfl (Nat.le_of_ble_eq_true rfl) d_Stacks_unwind_89 (fun H locs hP hD hS => ?_)
      have hP : va_P (dC, dI) classes [(o_Stacks, .inr (2, [.ref r_S_values, .int S_top, .ref r_S_bases, .ref r_S_floors, .ref r_S_returns, .ref r_S_closures, .int ((f_S_handlerFrames (S_handlers - 1).toNatClampNeg) + 1), .ref r_S_handlerFrames, .ref r_S_handlerPlaces, .ref r_S_handlerHeights, .ref r_S_handlerDepths, .int (S_handlers - 1)])), (r_S_values, .inl (cL, n_S_values, .inr (.inl f_S_values))), (r_S_bases, .inl (cI, n_S_bases, .inl f_S_bases)), (r_S_floors, .inl (cI, n_S_floors, .inl f_S_floors)), (r_S_handlerFrames, .inl (cI, n_S_handlerFrames, .inl f_S_handlerFrames)), (r_S_handlerHeights, .inl (cI, n_S_handlerHeights, .inl f_S_handlerHeights))] H := hP
      have hD : va_D A [(o_Stacks, .inr (2, [.ref r_S_values, .int S_top, .ref r_S_bases, .ref r_S_floors, .ref r_S_returns, .ref r_S_closures, .int ((f_S_handlerFrames (S_handlers - 1).toNatClampNeg) + 1), .ref r_S_handlerFrames, .ref r_S_handlerPlaces, .ref r_S_handlerHeights, .ref r_S_handlerDepths, .int (S_handlers - 1)])), (r_S_values, .inl (cL, n_S_values, .inr (.inl f_S_values))), (r_S_bases, .inl (cI, n_S_bases, .inl f_S_bases)), (r_S_floors, .inl (cI, n_S_floors, .inl f_S_floors)), (r_S_handlerFrames, .inl (cI, n_S_handlerFrames, .inl f_S_handlerFrames)), (r_S_handlerHeights, .inl (cI, n_S_handlerHeights, .inl f_S_handlerHeights))] := hD
      refine lv_aload_n hx hb d_Stacks_unwind_92 rfl (lv_at hl 3 rfl) ?_
      refine lv_iload hx hb d_Stacks_unwind_93 (lv_at hl 0 rfl) ?_
      refine va_put (D := (dC, dI)) (ci := 2) (v := .int (x11 + (f_S_handlerHeights (S_handlers - 1).toNatClampNeg))) (ty := .int) (C := R_Stacks) (T := F_Stacks) (N := 12) hx hb hg i_Stacks t_Stacks t_Stacks_ok n_Stacks hown hK hP hD hS 0 rfl rfl 1 (by decide) (hg _ k53) (fun _ h9 => h9) rfl (by decide +kernel) rfl rfl (Nat.le_of_ble_eq_true rfl) d_Stacks_unwind_95 (fun H locs hP hD hS => ?_)
      have hP : va_P (dC, dI) classes [(o_Stacks, .inr (2, [.ref r_S_values, .int (x11 + (f_S_handlerHeights (S_handlers - 1).toNatClampNeg)), .ref r_S_bases, .ref r_S_floors, .ref r_S_returns, .ref r_S_closures, .int ((f_S_handlerFrames (S_handlers - 1).toNatClampNeg) + 1), .ref r_S_handlerFrames, .ref r_S_handlerPlaces, .ref r_S_handlerHeights, .ref r_S_handlerDepths, .int (S_handlers - 1)])), (r_S_values, .inl (cL, n_S_values, .inr (.inl f_S_values))), (r_S_bases, .inl (cI, n_S_bases, .inl f_S_bases)), (r_S_floors, .inl (cI, n_S_floors, .inl f_S_floors)), (r_S_handlerFrames, .inl (cI, n_S_handlerFrames, .inl f_S_handlerFrames)), (r_S_handlerHeights, .inl (cI, n_S_handlerHeights, .inl f_S_handlerHeights))] H := hP
      have hD : va_D A [(o_Stacks, .inr (2, [.ref r_S_values, .int (x11 + (f_S_handlerHeights (S_handlers - 1).toNatClampNeg)), .ref r_S_bases, .ref r_S_floors, .ref r_S_returns, .ref r_S_closures, .int ((f_S_handlerFrames (S_handlers - 1).toNatClampNeg) + 1), .ref r_S_handlerFrames, .ref r_S_handlerPlaces, .ref r_S_handlerHeights, .ref r_S_handlerDepths, .int (S_handlers - 1)])), (r_S_values, .inl (cL, n_S_values, .inr (.inl f_S_values))), (r_S_bases, .inl (cI, n_S_bases, .inl f_S_bases)), (r_S_floors, .inl (cI, n_S_floors, .inl f_S_floors)), (r_S_handlerFrames, .inl (cI, n_S_handlerFrames, .inl f_S_handlerFrames)), (r_S_handlerHeights, .inl (cI, n_S_handlerHeights, .inl f_S_handlerHeights))] := hD
      refine lv_aload_n hx hb d_Stacks_unwind_98 rfl (lv_at hl 3 rfl) ?_
      refine va_get (D := (dC, dI)) (ci := 2) (v := .ref r_S_values) (C := R_Stacks) (T := F_Stacks) (N := 12) hx hb hg i_Stacks hown hK hP 0 rfl rfl 0 (by decide) (hg _ k65) (fun _ h9 => h9) rfl d_Stacks_unwind_99 ?_
      refine lv_aload_n hx hb d_Stacks_unwind_102 rfl (lv_at hl 3 rfl) ?_
      refine lv_dup hx hb d_Stacks_unwind_103 rfl ?_
      refine va_get (D := (dC, dI)) (ci := 2) (v := .int (x11 + (f_S_handlerHeights (S_handlers - 1).toNatClampNeg))) (C := R_Stacks) (T := F_Stacks) (N := 12) hx hb hg i_Stacks hown hK hP 0 rfl rfl 1 (by decide) (hg _ k53) (fun _ h9 => h9) rfl d_Stacks_unwind_104 ?_
      refine lv_dup_x1 hx hb d_Stacks_unwind_107 rfl rfl ?_
      refine lv_iconst (v := 1) hx hb d_Stacks_unwind_108 (by decide) ?_
      refine lv_iadd hx hb d_Stacks_unwind_109 ?_
      refine va_put (D := (dC, dI)) (ci := 2) (v := .int ((x11 + (f_S_handlerHeights (S_handlers - 1).toNatClampNeg)) + 1)) (ty := .int) (C := R_Stacks) (T := F_Stacks) (N := 12) hx hb hg i_Stacks t_Stacks t_Stacks_ok n_Stacks hown hK hP hD hS 0 rfl rfl 1 (by decide) (hg _ k53) (fun _ h9 => h9) rfl (by decide +kernel) rfl rfl (Nat.le_of_ble_eq_true rfl) d_Stacks_unwind_110 (fun H locs hP hD hS => ?_)
      have hP : va_P (dC, dI) classes [(o_Stacks, .inr (2, [.ref r_S_values, .int ((x11 + (f_S_handlerHeights (S_handlers - 1).toNatClampNeg)) + 1), .ref r_S_bases, .ref r_S_floors, .ref r_S_returns, .ref r_S_closures, .int ((f_S_handlerFrames (S_handlers - 1).toNatClampNeg) + 1), .ref r_S_handlerFrames, .ref r_S_handlerPlaces, .ref r_S_handlerHeights, .ref r_S_handlerDepths, .int (S_handlers - 1)])), (r_S_values, .inl (cL, n_S_values, .inr (.inl f_S_values))), (r_S_bases, .inl (cI, n_S_bases, .inl f_S_bases)), (r_S_floors, .inl (cI, n_S_floors, .inl f_S_floors)), (r_S_handlerFrames, .inl (cI, n_S_handlerFrames, .inl f_S_handlerFrames)), (r_S_handlerHeights, .inl (cI, n_S_handlerHeights, .inl f_S_handlerHeights))] H := hP
      have hD : va_D A [(o_Stacks, .inr (2, [.ref r_S_values, .int ((x11 + (f_S_handlerHeights (S_handlers - 1).toNatClampNeg)) + 1), .ref r_S_bases, .ref r_S_floors, .ref r_S_returns, .ref r_S_closures, .int ((f_S_handlerFrames (S_handlers - 1).toNatClampNeg) + 1), .ref r_S_handlerFrames, .ref r_S_handlerPlaces, .ref r_S_handlerHeights, .ref r_S_handlerDepths, .int (S_handlers - 1)])), (r_S_values, .inl (cL, n_S_values, .inr (.inl f_S_values))), (r_S_bases, .inl (cI, n_S_bases, .inl f_S_bases)), (r_S_floors, .inl (cI, n_S_floors, .inl f_S_floors)), (r_S_handlerFrames, .inl (cI, n_S_handlerFrames, .inl f_S_handlerFrames)), (r_S_handlerHeights, .inl (cI, n_S_handlerHeights, .inl f_S_handlerHeights))] := hD
      refine lv_lload_n hx hb d_Stacks_unwind_113 rfl (lv_at hl 4 rfl) ?_
      obtain ⟨i14, h⟩ := dz_oi h
      refine va_last (D := (dC, dI)) hx hb hK hP hD hS 1 1 rfl rfl i14 d_Stacks_unwind_114 (fun H locs hP hD hS => ?_)
      have hP : va_P (dC, dI) classes [(o_Stacks, .inr (2, [.ref r_S_values, .int ((x11 + (f_S_handlerHeights (S_handlers - 1).toNatClampNeg)) + 1), .ref r_S_bases, .ref r_S_floors, .ref r_S_returns, .ref r_S_closures, .int ((f_S_handlerFrames (S_handlers - 1).toNatClampNeg) + 1), .ref r_S_handlerFrames, .ref r_S_handlerPlaces, .ref r_S_handlerHeights, .ref r_S_handlerDepths, .int (S_handlers - 1)])), (r_S_values, .inl (cL, n_S_values, .inr (.inl (vp_updL f_S_values (x11 + (f_S_handlerHeights (S_handlers - 1).toNatClampNeg)).toNatClampNeg p0)))), (r_S_bases, .inl (cI, n_S_bases, .inl f_S_bases)), (r_S_floors, .inl (cI, n_S_floors, .inl f_S_floors)), (r_S_handlerFrames, .inl (cI, n_S_handlerFrames, .inl f_S_handlerFrames)), (r_S_handlerHeights, .inl (cI, n_S_handlerHeights, .inl f_S_handlerHeights))] H := hP
      have hD : va_D A [(o_Stacks, .inr (2, [.ref r_S_values, .int ((x11 + (f_S_handlerHeights (S_handlers - 1).toNatClampNeg)) + 1), .ref r_S_bases, .ref r_S_floors, .ref r_S_returns, .ref r_S_closures, .int ((f_S_handlerFrames (S_handlers - 1).toNatClampNeg) + 1), .ref r_S_handlerFrames, .ref r_S_handlerPlaces, .ref r_S_handlerHeights, .ref r_S_handlerDepths, .int (S_handlers - 1)])), (r_S_values, .inl (cL, n_S_values, .inr (.inl (vp_updL f_S_values (x11 + (f_S_handlerHeights (S_handlers - 1).toNatClampNeg)).toNatClampNeg p0)))), (r_S_bases, .inl (cI, n_S_bases, .inl f_S_bases)), (r_S_floors, .inl (cI, n_S_floors, .inl f_S_floors)), (r_S_handlerFrames, .inl (cI, n_S_handlerFrames, .inl f_S_handlerFrames)), (r_S_handlerHeights, .inl (cI, n_S_handlerHeights, .inl f_S_handlerHeights))] := hD
      refine lv_iconst (v := 1) hx hb d_Stacks_unwind_115 (by decide) ?_
      obtain rfl := Option.some.inj h
      have hP9 := hP.sub (ws' := [(o_Stacks, .inr (2, [.ref r_S_values, .int ((x11 + (f_S_handlerHeights (S_handlers - 1).toNatClampNeg)) + 1), .ref r_S_bases, .ref r_S_floors, .ref r_S_returns, .ref r_S_closures, .int ((f_S_handlerFrames (S_handlers - 1).toNatClampNeg) + 1), .ref r_S_handlerFrames, .ref r_S_handlerPlaces, .ref r_S_handlerHeights, .ref r_S_handlerDepths, .int (S_handlers - 1)])), (r_S_values, .inl (cL, n_S_values, .inr (.inl (vp_updL f_S_values (x11 + (f_S_handlerHeights (S_handlers - 1).toNatClampNeg)).toNatClampNeg p0)))), (r_S_bases, .inl (cI, n_S_bases, .inl f_S_bases)), (r_S_floors, .inl (cI, n_S_floors, .inl f_S_floors)), (r_S_handlerFrames, .inl (cI, n_S_handlerFrames, .inl f_S_handlerFrames)), (r_S_handlerHeights, .inl (cI, n_S_handlerHeights, .inl f_S_handlerHeights))]) [0, 1, 2, 3, 4, 5] rfl
      have hD9 := hD.sub (ws' := [(o_Stacks, .inr (2, [.ref r_S_values, .int ((x11 + (f_S_handlerHeights (S_handlers - 1).toNatClampNeg)) + 1), .ref r_S_bases, .ref r_S_floors, .ref r_S_returns, .ref r_S_closures, .int ((f_S_handlerFrames (S_handlers - 1).toNatClampNeg) + 1), .ref r_S_handlerFrames, .ref r_S_handlerPlaces, .ref r_S_handlerHeights, .ref r_S_handlerDepths, .int (S_handlers - 1)])), (r_S_values, .inl (cL, n_S_values, .inr (.inl (vp_updL f_S_values (x11 + (f_S_handlerHeights (S_handlers - 1).toNatClampNeg)).toNatClampNeg p0)))), (r_S_bases, .inl (cI, n_S_bases, .inl f_S_bases)), (r_S_floors, .inl (cI, n_S_floors, .inl f_S_floors)), (r_S_handlerFrames, .inl (cI, n_S_handlerFrames, .inl f_S_handlerFrames)), (r_S_handlerHeights, .inl (cI, n_S_handlerHeights, .inl f_S_handlerHeights))]) [0, 1, 2, 3, 4, 5] (by decide) rfl
      have hK9 := hK.sub (tys' := [(cI, .int), (cL, .long)]) [0, 1] rfl
      exact W.zret (v := 1) (ty := .boolean) hx hb hr (show narrow .boolean (.int 1) = .int 1 from rfl) (fun t ht hW => ⟨⟨1, (), rfl, ⟨rfl, (show narrow .boolean (.int 1) = .int 1 from rfl), (show fits .boolean (.int 1) = true from rfl)⟩, by rw [ht]; exact hP9, va_K.moved hW.alike hK9, hD9⟩, hS.F ht⟩) hS.2.2 d_Stacks_unwind_116
    · rw [if_neg c13] at h
      refine lv_iconst (v := 0) hx hb d_Stacks_unwind_72 (by decide) ?_
      obtain rfl := Option.some.inj h
      have hP9 := hP.sub (ws' := [(o_Stacks, .inr (2, [.ref r_S_values, .int S_top, .ref r_S_bases, .ref r_S_floors, .ref r_S_returns, .ref r_S_closures, .int S_frames, .ref r_S_handlerFrames, .ref r_S_handlerPlaces, .ref r_S_handlerHeights, .ref r_S_handlerDepths, .int S_handlers])), (r_S_values, .inl (cL, n_S_values, .inr (.inl f_S_values))), (r_S_bases, .inl (cI, n_S_bases, .inl f_S_bases)), (r_S_floors, .inl (cI, n_S_floors, .inl f_S_floors)), (r_S_handlerFrames, .inl (cI, n_S_handlerFrames, .inl f_S_handlerFrames)), (r_S_handlerHeights, .inl (cI, n_S_handlerHeights, .inl f_S_handlerHeights))]) [0, 1, 2, 3, 4, 5] rfl
      have hD9 := hD.sub (ws' := [(o_Stacks, .inr (2, [.ref r_S_values, .int S_top, .ref r_S_bases, .ref r_S_floors, .ref r_S_returns, .ref r_S_closures, .int S_frames, .ref r_S_handlerFrames, .ref r_S_handlerPlaces, .ref r_S_handlerHeights, .ref r_S_handlerDepths, .int S_handlers])), (r_S_values, .inl (cL, n_S_values, .inr (.inl f_S_values))), (r_S_bases, .inl (cI, n_S_bases, .inl f_S_bases)), (r_S_floors, .inl (cI, n_S_floors, .inl f_S_floors)), (r_S_handlerFrames, .inl (cI, n_S_handlerFrames, .inl f_S_handlerFrames)), (r_S_handlerHeights, .inl (cI, n_S_handlerHeights, .inl f_S_handlerHeights))]) [0, 1, 2, 3, 4, 5] (by decide) rfl
      have hK9 := hK.sub (tys' := [(cI, .int), (cL, .long)]) [0, 1] rfl
      exact W.zret (v := 0) (ty := .boolean) hx hb hr (show narrow .boolean (.int 0) = .int 0 from rfl) (fun t ht hW => ⟨⟨0, (), rfl, ⟨rfl, (show narrow .boolean (.int 0) = .int 0 from rfl), (show fits .boolean (.int 0) = true from rfl)⟩, by rw [ht]; exact hP9, va_K.moved hW.alike hK9, hD9⟩, hS.F ht⟩) hS.2.2 d_Stacks_unwind_73

set_option maxHeartbeats 4000000 in
set_option maxRecDepth 100000 in
theorem l_Stacks_setLocals_1 {p : Program} {l : Launch} {e : Env} {s : State} {m : MethodId} {args : Array Value} {below : List Frame} {meth : Method} {c : Code} {Q : State → Prop} {A : Nat → Prop} (dC : Nat → ClassId) (dI : Nat → Nat → Nat) (N : Nat) (cI : ClassId) (cL : ClassId) (o_Stacks : Nat) (r_S_values : Nat) (r_S_bases : Nat) (r_S_floors : Nat) (r_S_returns : Nat) (r_S_closures : Nat) (r_S_handlerFrames : Nat) (r_S_handlerPlaces : Nat) (r_S_handlerHeights : Nat) (r_S_handlerDepths : Nat) (S_top : Int32) (S_frames : Int32) (S_handlers : Int32) (n_S_values : Nat) (n_S_bases : Nat) (f_S_bases : Nat → Int32) (n_S_floors : Nat) (f_S_floors : Nat → Int32) (p0 : Int32) {α : Type} {Z1 : α} {Zc Zs : Nat} (hx : p.tables.exec = Jvm.exec) (hb : c.code = b_Stacks_setLocals) (hml : c.maxLocals = 5) (hown : s.vm.findClass R_Stacks = some m.cls) (hg : ∀ w ∈ lw_g, w.before args s = true) (hN : dz_N s) (hK : va_K (dC, dI) classes [(cI, .int), (cL, .long)] s) (hA : ∀ q : Nat, s.heap.size ≤ q → A q) {k1_84 : Int32 → (Nat → Int64) → Option (α × Nat × Nat)} (hk1_84 : ∀ (v1_4 : Int32) (w1_f_f_S_values : (Nat → Int64))   (z : α × Nat × Nat) (cc cs : Nat) (H : Heap) (locs : List Loc) (ls : Array Slot), k1_84 v1_4 w1_f_f_S_values = some z → dz_G Z1 Zc Zs z cc cs → va_P (dC, dI) classes [(o_Stacks, .inr (2, [.ref r_S_values, .int S_top, .ref r_S_bases, .ref r_S_floors, .ref r_S_returns, .ref r_S_closures, .int S_frames, .ref r_S_handlerFrames, .ref r_S_handlerPlaces, .ref r_S_handlerHeights, .ref r_S_handlerDepths, .int S_handlers])), (r_S_values, .inl (cL, n_S_values, .inr (.inl w1_f_f_S_values))), (r_S_bases, .inl (cI, n_S_bases, .inl f_S_bases)), (r_S_floors, .inl (cI, n_S_floors, .inl f_S_floors))] H → va_D A [(o_Stacks, .inr (2, [.ref r_S_values, .int S_top, .ref r_S_bases, .ref r_S_floors, .ref r_S_returns, .ref r_S_closures, .int S_frames, .ref r_S_handlerFrames, .ref r_S_handlerPlaces, .ref r_S_handlerHeights, .ref r_S_handlerDepths, .int S_handlers])), (r_S_values, .inl (cL, n_S_values, .inr (.inl w1_f_f_S_values))), (r_S_bases, .inl (cI, n_S_bases, .inl f_S_bases)), (r_S_floors, .inl (cI, n_S_floors, .inl f_S_floors))] → va_S A s.heap H locs → lv_has ls 5 [(4, .int v1_4), (3, .int ((f_S_bases (S_frames - 1).toNatClampNeg) + p0)), (2, .int (f_S_bases (S_frames - 1).toNatClampNeg)), (0, .ref o_Stacks), (1, .int p0)] → W p l e ({ frames := 3, cells := Zc, slots := Zs, locals := 103 } : Room) s m args below meth c H locs cc cs Q (F0 m 84 ls [])) : ∀ (n1 : Nat) (v1_4 : Int32) (w1_f_f_S_values : (Nat → Int64))  (z : α × Nat × Nat) (cc cs : Nat) (H : Heap) (locs : List Loc) (ls : Array Slot), lm_Stacks_setLocals_1 N S_frames n_S_values f_S_bases p0 k1_84 n1 v1_4 w1_f_f_S_values = some z → dz_G Z1 Zc Zs z cc cs → va_P (dC, dI) classes [(o_Stacks, .inr (2, [.ref r_S_values, .int S_top, .ref r_S_bases, .ref r_S_floors, .ref r_S_returns, .ref r_S_closures, .int S_frames, .ref r_S_handlerFrames, .ref r_S_handlerPlaces, .ref r_S_handlerHeights, .ref r_S_handlerDepths, .int S_handlers])), (r_S_values, .inl (cL, n_S_values, .inr (.inl w1_f_f_S_values))), (r_S_bases, .inl (cI, n_S_bases, .inl f_S_bases)), (r_S_floors, .inl (cI, n_S_floors, .inl f_S_floors))] H → va_D A [(o_Stacks, .inr (2, [.ref r_S_values, .int S_top, .ref r_S_bases, .ref r_S_floors, .ref r_S_returns, .ref r_S_closures, .int S_frames, .ref r_S_handlerFrames, .ref r_S_handlerPlaces, .ref r_S_handlerHeights, .ref r_S_handlerDepths, .int S_handlers])), (r_S_values, .inl (cL, n_S_values, .inr (.inl w1_f_f_S_values))), (r_S_bases, .inl (cI, n_S_bases, .inl f_S_bases)), (r_S_floors, .inl (cI, n_S_floors, .inl f_S_floors))] → va_S A s.heap H locs → lv_has ls 5 [(4, .int v1_4), (3, .int ((f_S_bases (S_frames - 1).toNatClampNeg) + p0)), (2, .int (f_S_bases (S_frames - 1).toNatClampNeg)), (0, .ref o_Stacks), (1, .int p0)] → W p l e ({ frames := 3, cells := Zc, slots := Zs, locals := 103 } : Room) s m args below meth c H locs cc cs Q (F0 m 64 ls []) := by
  intro n1
  induction n1 with
  | zero =>
    intro v1_4 w1_f_f_S_values z cc cs H locs ls h hG hP hD hS hl
    rw [lm_Stacks_setLocals_1] at h
    cases h
  | succ n1 ih1 =>
    intro v1_4 w1_f_f_S_values z cc cs H locs ls h hG hP hD hS hl
    rw [lm_Stacks_setLocals_1] at h
    refine lv_iload hx hb d_Stacks_setLocals_64 (lv_at hl 0 rfl) ?_
    refine lv_iload_n hx hb d_Stacks_setLocals_66 rfl (lv_at hl 1 rfl) ?_
    refine lv_icmp_ge (tgt := 84) hx hb d_Stacks_setLocals_67 (by decide) (fun c7 => ?_) (fun c7 => ?_)
    · rw [if_pos c7] at h
      exact hk1_84 v1_4 w1_f_f_S_values _ _ _ _ _ _ h hG (hP.sub [0, 1, 2, 3] rfl) (hD.sub [0, 1, 2, 3] (by decide) rfl) hS (lv_sub hl [0, 1, 2, 3, 4] rfl)
    · rw [if_neg c7] at h
      refine lv_aload_n hx hb d_Stacks_setLocals_70 rfl (lv_at hl 3 rfl) ?_
      refine va_get (D := (dC, dI)) (ci := 2) (v := .ref r_S_values) (C := R_Stacks) (T := F_Stacks) (N := 12) hx hb hg i_Stacks hown hK hP 0 rfl rfl 0 (by decide) (hg _ k65) (fun _ h9 => h9) rfl d_Stacks_setLocals_71 ?_
      refine lv_iload hx hb d_Stacks_setLocals_74 (lv_at hl 0 rfl) ?_
      refine lv_lconst (v := 0) hx hb d_Stacks_setLocals_76 (by decide) ?_
      obtain ⟨i8, h⟩ := dz_oi h
      refine va_last (D := (dC, dI)) hx hb hK hP hD hS 1 1 rfl rfl i8 d_Stacks_setLocals_77 (fun H locs hP hD hS => ?_)
      have hP : va_P (dC, dI) classes [(o_Stacks, .inr (2, [.ref r_S_values, .int S_top, .ref r_S_bases, .ref r_S_floors, .ref r_S_returns, .ref r_S_closures, .int S_frames, .ref r_S_handlerFrames, .ref r_S_handlerPlaces, .ref r_S_handlerHeights, .ref r_S_handlerDepths, .int S_handlers])), (r_S_values, .inl (cL, n_S_values, .inr (.inl (vp_updL w1_f_f_S_values v1_4.toNatClampNeg 0)))), (r_S_bases, .inl (cI, n_S_bases, .inl f_S_bases)), (r_S_floors, .inl (cI, n_S_floors, .inl f_S_floors))] H := hP
      have hD : va_D A [(o_Stacks, .inr (2, [.ref r_S_values, .int S_top, .ref r_S_bases, .ref r_S_floors, .ref r_S_returns, .ref r_S_closures, .int S_frames, .ref r_S_handlerFrames, .ref r_S_handlerPlaces, .ref r_S_handlerHeights, .ref r_S_handlerDepths, .int S_handlers])), (r_S_values, .inl (cL, n_S_values, .inr (.inl (vp_updL w1_f_f_S_values v1_4.toNatClampNeg 0)))), (r_S_bases, .inl (cI, n_S_bases, .inl f_S_bases)), (r_S_floors, .inl (cI, n_S_floors, .inl f_S_floors))] := hD
      refine lv_iinc (v := v1_4 + 1) (lv' := [(4, .int (v1_4 + 1)), (3, .int ((f_S_bases (S_frames - 1).toNatClampNeg) + p0)), (2, .int (f_S_bases (S_frames - 1).toNatClampNeg)), (0, .ref o_Stacks), (1, .int p0)]) hx hb d_Stacks_setLocals_78 hl (k := 0) rfl rfl (by decide) rfl (fun ls hl => ?_)
      refine lv_goto (tgt := 64) hx hb d_Stacks_setLocals_81 (by decide) ?_
      exact ih1 (v1_4 + 1) (vp_updL w1_f_f_S_values v1_4.toNatClampNeg 0) _ _ _ _ _ _ h hG (hP.sub [0, 1, 2, 3] rfl) (hD.sub [0, 1, 2, 3] (by decide) rfl) hS (lv_sub hl [0, 1, 2, 3, 4] rfl)
set_option maxHeartbeats 4000000 in
set_option maxRecDepth 100000 in
theorem l_Stacks_setLocals_2 {p : Program} {l : Launch} {e : Env} {s : State} {m : MethodId} {args : Array Value} {below : List Frame} {meth : Method} {c : Code} {Q : State → Prop} {A : Nat → Prop} (dC : Nat → ClassId) (dI : Nat → Nat → Nat) (N : Nat) (cI : ClassId) (cL : ClassId) (o_Stacks : Nat) (r_S_bases : Nat) (r_S_floors : Nat) (r_S_returns : Nat) (r_S_closures : Nat) (r_S_handlerFrames : Nat) (r_S_handlerPlaces : Nat) (r_S_handlerHeights : Nat) (r_S_handlerDepths : Nat) (S_top : Int32) (S_frames : Int32) (S_handlers : Int32) (n_S_bases : Nat) (f_S_bases : Nat → Int32) (n_S_floors : Nat) (f_S_floors : Nat → Int32) (p0 : Int32) (z10_1 : Nat) (a10_0 : Nat) {α : Type} {Z1 : α} {Zc Zs : Nat} (hx : p.tables.exec = Jvm.exec) (hb : c.code = b_Stacks_setLocals) (hml : c.maxLocals = 5) (hown : s.vm.findClass R_Stacks = some m.cls) (hg : ∀ w ∈ lw_g, w.before args s = true) (hN : dz_N s) (hK : va_K (dC, dI) classes [(cI, .int), (cL, .long)] s) (hA : ∀ q : Nat, s.heap.size ≤ q → A q) {k2_84 : Int32 → (Nat → Int64) → Option (α × Nat × Nat)} (hk2_84 : ∀ (v2_4 : Int32) (w2_f_f_S_values : (Nat → Int64))   (z : α × Nat × Nat) (cc cs : Nat) (H : Heap) (locs : List Loc) (ls : Array Slot), k2_84 v2_4 w2_f_f_S_values = some z → dz_G Z1 Zc Zs z cc cs → va_P (dC, dI) classes [(r_S_bases, .inl (cI, n_S_bases, .inl f_S_bases)), (r_S_floors, .inl (cI, n_S_floors, .inl f_S_floors)), (o_Stacks, .inr (2, [.ref a10_0, .int S_top, .ref r_S_bases, .ref r_S_floors, .ref r_S_returns, .ref r_S_closures, .int S_frames, .ref r_S_handlerFrames, .ref r_S_handlerPlaces, .ref r_S_handlerHeights, .ref r_S_handlerDepths, .int S_handlers])), (a10_0, .inl (cL, z10_1, .inr (.inl w2_f_f_S_values)))] H → va_D A [(r_S_bases, .inl (cI, n_S_bases, .inl f_S_bases)), (r_S_floors, .inl (cI, n_S_floors, .inl f_S_floors)), (o_Stacks, .inr (2, [.ref a10_0, .int S_top, .ref r_S_bases, .ref r_S_floors, .ref r_S_returns, .ref r_S_closures, .int S_frames, .ref r_S_handlerFrames, .ref r_S_handlerPlaces, .ref r_S_handlerHeights, .ref r_S_handlerDepths, .int S_handlers])), (a10_0, .inl (cL, z10_1, .inr (.inl w2_f_f_S_values)))] → va_S A s.heap H locs → lv_has ls 5 [(4, .int v2_4), (3, .int ((f_S_bases (S_frames - 1).toNatClampNeg) + p0)), (2, .int (f_S_bases (S_frames - 1).toNatClampNeg)), (0, .ref o_Stacks), (1, .int p0)] → W p l e ({ frames := 3, cells := Zc, slots := Zs, locals := 103 } : Room) s m args below meth c H locs cc cs Q (F0 m 84 ls [])) : ∀ (n2 : Nat) (v2_4 : Int32) (w2_f_f_S_values : (Nat → Int64))  (z : α × Nat × Nat) (cc cs : Nat) (H : Heap) (locs : List Loc) (ls : Array Slot), lm_Stacks_setLocals_2 N S_frames f_S_bases p0 z10_1 k2_84 n2 v2_4 w2_f_f_S_values = some z → dz_G Z1 Zc Zs z cc cs → va_P (dC, dI) classes [(r_S_bases, .inl (cI, n_S_bases, .inl f_S_bases)), (r_S_floors, .inl (cI, n_S_floors, .inl f_S_floors)), (o_Stacks, .inr (2, [.ref a10_0, .int S_top, .ref r_S_bases, .ref r_S_floors, .ref r_S_returns, .ref r_S_closures, .int S_frames, .ref r_S_handlerFrames, .ref r_S_handlerPlaces, .ref r_S_handlerHeights, .ref r_S_handlerDepths, .int S_handlers])), (a10_0, .inl (cL, z10_1, .inr (.inl w2_f_f_S_values)))] H → va_D A [(r_S_bases, .inl (cI, n_S_bases, .inl f_S_bases)), (r_S_floors, .inl (cI, n_S_floors, .inl f_S_floors)), (o_Stacks, .inr (2, [.ref a10_0, .int S_top, .ref r_S_bases, .ref r_S_floors, .ref r_S_returns, .ref r_S_closures, .int S_frames, .ref r_S_handlerFrames, .ref r_S_handlerPlaces, .ref r_S_handlerHeights, .ref r_S_handlerDepths, .int S_handlers])), (a10_0, .inl (cL, z10_1, .inr (.inl w2_f_f_S_values)))] → va_S A s.heap H locs → lv_has ls 5 [(4, .int v2_4), (3, .int ((f_S_bases (S_frames - 1).toNatClampNeg) + p0)), (2, .int (f_S_bases (S_frames - 1).toNatClampNeg)), (0, .ref o_Stacks), (1, .int p0)] → W p l e ({ frames := 3, cells := Zc, slots := Zs, locals := 103 } : Room) s m args below meth c H locs cc cs Q (F0 m 64 ls []) := by
  intro n2
  induction n2 with
  | zero =>
    intro v2_4 w2_f_f_S_values z cc cs H locs ls h hG hP hD hS hl
    rw [lm_Stacks_setLocals_2] at h
    cases h
  | succ n2 ih2 =>
    intro v2_4 w2_f_f_S_values z cc cs H locs ls h hG hP hD hS hl
    rw [lm_Stacks_setLocals_2] at h
    refine lv_iload hx hb d_Stacks_setLocals_64 (lv_at hl 0 rfl) ?_
    refine lv_iload_n hx hb d_Stacks_setLocals_66 rfl (lv_at hl 1 rfl) ?_
    refine lv_icmp_ge (tgt := 84) hx hb d_Stacks_setLocals_67 (by decide) (fun c12 => ?_) (fun c12 => ?_)
    · rw [if_pos c12] at h
      exact hk2_84 v2_4 w2_f_f_S_values _ _ _ _ _ _ h hG (hP.sub [0, 1, 2, 3] rfl) (hD.sub [0, 1, 2, 3] (by decide) rfl) hS (lv_sub hl [0, 1, 2, 3, 4] rfl)
    · rw [if_neg c12] at h
      refine lv_aload_n hx hb d_Stacks_setLocals_70 rfl (lv_at hl 3 rfl) ?_
      refine va_get (D := (dC, dI)) (ci := 2) (v := .ref a10_0) (C := R_Stacks) (T := F_Stacks) (N := 12) hx hb hg i_Stacks hown hK hP 2 rfl rfl 0 (by decide) (hg _ k65) (fun _ h9 => h9) rfl d_Stacks_setLocals_71 ?_
      refine lv_iload hx hb d_Stacks_setLocals_74 (lv_at hl 0 rfl) ?_
      refine lv_lconst (v := 0) hx hb d_Stacks_setLocals_76 (by decide) ?_
      obtain ⟨i13, h⟩ := dz_oi h
      refine va_last (D := (dC, dI)) hx hb hK hP hD hS 3 1 rfl rfl i13 d_Stacks_setLocals_77 (fun H locs hP hD hS => ?_)
      have hP : va_P (dC, dI) classes [(r_S_bases, .inl (cI, n_S_bases, .inl f_S_bases)), (r_S_floors, .inl (cI, n_S_floors, .inl f_S_floors)), (o_Stacks, .inr (2, [.ref a10_0, .int S_top, .ref r_S_bases, .ref r_S_floors, .ref r_S_returns, .ref r_S_closures, .int S_frames, .ref r_S_handlerFrames, .ref r_S_handlerPlaces, .ref r_S_handlerHeights, .ref r_S_handlerDepths, .int S_handlers])), (a10_0, .inl (cL, z10_1, .inr (.inl (vp_updL w2_f_f_S_values v2_4.toNatClampNeg 0))))] H := hP
      have hD : va_D A [(r_S_bases, .inl (cI, n_S_bases, .inl f_S_bases)), (r_S_floors, .inl (cI, n_S_floors, .inl f_S_floors)), (o_Stacks, .inr (2, [.ref a10_0, .int S_top, .ref r_S_bases, .ref r_S_floors, .ref r_S_returns, .ref r_S_closures, .int S_frames, .ref r_S_handlerFrames, .ref r_S_handlerPlaces, .ref r_S_handlerHeights, .ref r_S_handlerDepths, .int S_handlers])), (a10_0, .inl (cL, z10_1, .inr (.inl (vp_updL w2_f_f_S_values v2_4.toNatClampNeg 0))))] := hD
      refine lv_iinc (v := v2_4 + 1) (lv' := [(4, .int (v2_4 + 1)), (3, .int ((f_S_bases (S_frames - 1).toNatClampNeg) + p0)), (2, .int (f_S_bases (S_frames - 1).toNatClampNeg)), (0, .ref o_Stacks), (1, .int p0)]) hx hb d_Stacks_setLocals_78 hl (k := 0) rfl rfl (by decide) rfl (fun ls hl => ?_)
      refine lv_goto (tgt := 64) hx hb d_Stacks_setLocals_81 (by decide) ?_
      exact ih2 (v2_4 + 1) (vp_updL w2_f_f_S_values v2_4.toNatClampNeg 0) _ _ _ _ _ _ h hG (hP.sub [0, 1, 2, 3] rfl) (hD.sub [0, 1, 2, 3] (by decide) rfl) hS (lv_sub hl [0, 1, 2, 3, 4] rfl)
set_option maxHeartbeats 4000000 in
set_option maxRecDepth 100000 in
theorem c_Stacks_setLocals (l : Launch) (dC : Nat → ClassId) (dI : Nat → Nat → Nat) (N : Nat) (cI : ClassId) (cL : ClassId) (o_Stacks : Nat) (r_S_values : Nat) (r_S_bases : Nat) (r_S_floors : Nat) (r_S_returns : Nat) (r_S_closures : Nat) (r_S_handlerFrames : Nat) (r_S_handlerPlaces : Nat) (r_S_handlerHeights : Nat) (r_S_handlerDepths : Nat) (S_top : Int32) (S_frames : Int32) (S_handlers : Int32) (n_S_values : Nat) (f_S_values : Nat → Int64) (n_S_bases : Nat) (f_S_bases : Nat → Int32) (n_S_floors : Nat) (f_S_floors : Nat → Int32) (p0 : Int32) (sz : Nat) (Z1 : Int32 × (Nat → Int32) × Int32 × Nat × (Nat → Int64)) (Zc Zs : Nat) (h : m_Stacks_setLocals N S_top S_frames S_handlers n_S_values f_S_values n_S_bases f_S_bases n_S_floors f_S_floors p0 = some (Z1, Zc, Zs)) : Met l y_Stacks_setLocals (.code y_Stacks_setLocals b_Stacks_setLocals 5 (some .int) :: lw_g) ({ frames := 3, cells := Zc, slots := Zs, locals := 103 }) (va_Pc [.ref o_Stacks, .int p0] (fun U => dz_N U ∧ U.heap.size = sz ∧ va_P (dC, dI) classes [(o_Stacks, .inr (2, [.ref r_S_values, .int S_top, .ref r_S_bases, .ref r_S_floors, .ref r_S_returns, .ref r_S_closures, .int S_frames, .ref r_S_handlerFrames, .ref r_S_handlerPlaces, .ref r_S_handlerHeights, .ref r_S_handlerDepths, .int S_handlers])), (r_S_values, .inl (cL, n_S_values, .inr (.inl f_S_values))), (r_S_bases, .inl (cI, n_S_bases, .inl f_S_bases)), (r_S_floors, .inl (cI, n_S_floors, .inl f_S_floors))] U.heap ∧ va_K (dC, dI) classes [(cI, .int), (cL, .long)] U ∧ va_D (fun _ => True) [(o_Stacks, .inr (2, [.ref r_S_values, .int S_top, .ref r_S_bases, .ref r_S_floors, .ref r_S_returns, .ref r_S_closures, .int S_frames, .ref r_S_handlerFrames, .ref r_S_handlerPlaces, .ref r_S_handlerHeights, .ref r_S_handlerDepths, .int S_handlers])), (r_S_values, .inl (cL, n_S_values, .inr (.inl f_S_values))), (r_S_bases, .inl (cI, n_S_bases, .inl f_S_bases)), (r_S_floors, .inl (cI, n_S_floors, .inl f_S_floors))])) (va_Qi (fun (r : Int32) (_ : Nat) => r = Z1.1) (fun (u : Nat) t => va_P (dC, dI) classes [(o_Stacks, .inr (2, [.ref u, .int Z1.2.2.1, .ref r_S_bases, .ref r_S_floors, .ref r_S_returns, .ref r_S_closures, .int S_frames, .ref r_S_handlerFrames, .ref r_S_handlerPlaces, .ref r_S_handlerHeights, .ref r_S_handlerDepths, .int S_handlers])), (u, .inl (cL, Z1.2.2.2.1, .inr (.inl Z1.2.2.2.2))), (r_S_bases, .inl (cI, n_S_bases, .inl f_S_bases)), (r_S_floors, .inl (cI, n_S_floors, .inl Z1.2.1))] t.heap ∧ va_K (dC, dI) classes [(cI, .int), (cL, .long)] t ∧ va_D (va_A [(o_Stacks, .inr (2, [.ref r_S_values, .int S_top, .ref r_S_bases, .ref r_S_floors, .ref r_S_returns, .ref r_S_closures, .int S_frames, .ref r_S_handlerFrames, .ref r_S_handlerPlaces, .ref r_S_handlerHeights, .ref r_S_handlerDepths, .int S_handlers])), (r_S_values, .inl (cL, n_S_values, .inr (.inl f_S_values))), (r_S_bases, .inl (cI, n_S_bases, .inl f_S_bases)), (r_S_floors, .inl (cI, n_S_floors, .inl f_S_floors))] sz) [(o_Stacks, .inr (2, [.ref u, .int Z1.2.2.1, .ref r_S_bases, .ref r_S_floors, .ref r_S_returns, .ref r_S_closures, .int S_frames, .ref r_S_handlerFrames, .ref r_S_handlerPlaces, .ref r_S_handlerHeights, .ref r_S_handlerDepths, .int S_handlers])), (u, .inl (cL, Z1.2.2.2.1, .inr (.inl Z1.2.2.2.2))), (r_S_bases, .inl (cI, n_S_bases, .inl f_S_bases)), (r_S_floors, .inl (cI, n_S_floors, .inl Z1.2.1))]) (va_A [(o_Stacks, .inr (2, [.ref r_S_values, .int S_top, .ref r_S_bases, .ref r_S_floors, .ref r_S_returns, .ref r_S_closures, .int S_frames, .ref r_S_handlerFrames, .ref r_S_handlerPlaces, .ref r_S_handlerHeights, .ref r_S_handlerDepths, .int S_handlers])), (r_S_values, .inl (cL, n_S_values, .inr (.inl f_S_values))), (r_S_bases, .inl (cI, n_S_bases, .inl f_S_bases)), (r_S_floors, .inl (cI, n_S_floors, .inl f_S_floors))] sz)) Zc Zs (va_A [(o_Stacks, .inr (2, [.ref r_S_values, .int S_top, .ref r_S_bases, .ref r_S_floors, .ref r_S_returns, .ref r_S_closures, .int S_frames, .ref r_S_handlerFrames, .ref r_S_handlerPlaces, .ref r_S_handlerHeights, .ref r_S_handlerDepths, .int S_handlers])), (r_S_values, .inl (cL, n_S_values, .inr (.inl f_S_values))), (r_S_bases, .inl (cI, n_S_bases, .inl f_S_bases)), (r_S_floors, .inl (cI, n_S_floors, .inl f_S_floors))] sz) := by
  refine Met.ofW (cc := b_Stacks_setLocals) (maxL := 5) (ret := (some .int)) (by decide +kernel) rfl ?_
  intro p e s m args below meth c s₁ B hml hv
  obtain ⟨rfl, hN, hsz, hP, hK, hD0⟩ := hv
  have hx := B.exec
  have hb := B.bytes
  have hr := B.returns
  have hg : ∀ w ∈ lw_g, w.before _ s = true := fun w hw => atoms_spec (ws := .code y_Stacks_setLocals b_Stacks_setLocals 5 (some .int) :: lw_g) B.pre w (List.mem_cons_of_mem _ hw)
  have hown : s.vm.findClass R_Stacks = some m.cls := findClass_of_methodNamed B.named
  have hlocks := B.notSynchronized
  clear B
  subst hsz
  have hD := hD0.self (sz := s.heap.size)
  generalize hAe : va_A [(o_Stacks, .inr (2, [.ref r_S_values, .int S_top, .ref r_S_bases, .ref r_S_floors, .ref r_S_returns, .ref r_S_closures, .int S_frames, .ref r_S_handlerFrames, .ref r_S_handlerPlaces, .ref r_S_handlerHeights, .ref r_S_handlerDepths, .int S_handlers])), (r_S_values, .inl (cL, n_S_values, .inr (.inl f_S_values))), (r_S_bases, .inl (cI, n_S_bases, .inl f_S_bases)), (r_S_floors, .inl (cI, n_S_floors, .inl f_S_floors))] s.heap.size = A at hD ⊢
  have hA : ∀ q : Nat, s.heap.size ≤ q → A q := fun q h => by rw [← hAe]; exact Or.inr h
  have hS : va_S A s.heap s.heap [] := va_S.rf
  have hP : va_P (dC, dI) classes [(o_Stacks, .inr (2, [.ref r_S_values, .int S_top, .ref r_S_bases, .ref r_S_floors, .ref r_S_returns, .ref r_S_closures, .int S_frames, .ref r_S_handlerFrames, .ref r_S_handlerPlaces, .ref r_S_handlerHeights, .ref r_S_handlerDepths, .int S_handlers])), (r_S_values, .inl (cL, n_S_values, .inr (.inl f_S_values))), (r_S_bases, .inl (cI, n_S_bases, .inl f_S_bases)), (r_S_floors, .inl (cI, n_S_floors, .inl f_S_floors))] s.heap := hP
  have hl := lv_entry ([.ref o_Stacks, .int p0]) (n := 5) (Nat.le_of_ble_eq_true rfl)
  rw [lg_entry_eq]
  generalize (lg_sl ([.ref o_Stacks, .int p0]) ++ List.replicate (5 - (lg_sl ([.ref o_Stacks, .int p0])).length) Slot.unset).toArray = ls at hl ⊢
  have hl : lv_has ls 5 [(0, .ref o_Stacks), (1, .int p0)] := hl
  unfold m_Stacks_setLocals at h
  have hG : dz_G Z1 Zc Zs (Z1, Zc, Zs) 0 0 := ⟨rfl, (Nat.zero_add _).symm, (Nat.zero_add _).symm⟩
  generalize (Z1, Zc, Zs) = z at h hG
  refine lv_iload_n hx hb d_Stacks_setLocals_0 rfl (lv_at hl 1 rfl) ?_
  refine lv_if_lt (tgt := 11) hx hb d_Stacks_setLocals_1 (by decide) (fun c1 => ?_) (fun c1 => ?_)
  · rw [if_pos c1] at h
    refine lv_iconst (v := 4) hx hb d_Stacks_setLocals_11 (by decide) ?_
    obtain rfl := Option.some.inj h
    have hP9 := hP.sub (ws' := [(o_Stacks, .inr (2, [.ref r_S_values, .int S_top, .ref r_S_bases, .ref r_S_floors, .ref r_S_returns, .ref r_S_closures, .int S_frames, .ref r_S_handlerFrames, .ref r_S_handlerPlaces, .ref r_S_handlerHeights, .ref r_S_handlerDepths, .int S_handlers])), (r_S_values, .inl (cL, n_S_values, .inr (.inl f_S_values))), (r_S_bases, .inl (cI, n_S_bases, .inl f_S_bases)), (r_S_floors, .inl (cI, n_S_floors, .inl f_S_floors))]) [0, 1, 2, 3] rfl
    have hD9 := hD.sub (ws' := [(o_Stacks, .inr (2, [.ref r_S_values, .int S_top, .ref r_S_bases, .ref r_S_floors, .ref r_S_returns, .ref r_S_closures, .int S_frames, .ref r_S_handlerFrames, .ref r_S_handlerPlaces, .ref r_S_handlerHeights, .ref r_S_handlerDepths, .int S_handlers])), (r_S_values, .inl (cL, n_S_values, .inr (.inl f_S_values))), (r_S_bases, .inl (cI, n_S_bases, .inl f_S_bases)), (r_S_floors, .inl (cI, n_S_floors, .inl f_S_floors))]) [0, 1, 2, 3] (by decide) rfl
    have hK9 := hK.sub (tys' := [(cI, .int), (cL, .long)]) [0, 1] rfl
    refine W.widen (dz_Gc hG) (dz_Gs hG) ?_
    obtain ⟨rfl, -, -⟩ := hG
    exact W.iret (v := 4) hx hb hr (fun t ht hW => ⟨⟨4, r_S_values, rfl, rfl, by rw [ht]; exact hP9, va_K.moved hW.alike hK9, hD9⟩, hS.F ht⟩) hS.2.2 d_Stacks_setLocals_12
  · rw [if_neg c1] at h
    refine lv_iload_n hx hb d_Stacks_setLocals_4 rfl (lv_at hl 1 rfl) ?_
    refine lv_sipush (v := 16383) hx hb d_Stacks_setLocals_5 (by decide) ?_
    refine lv_icmp_le (tgt := 13) hx hb d_Stacks_setLocals_8 (by decide) (fun c2 => ?_) (fun c2 => ?_)
    · rw [if_pos c2] at h
      refine lv_aload_n hx hb d_Stacks_setLocals_13 rfl (lv_at hl 0 rfl) ?_
      refine va_get (D := (dC, dI)) (ci := 2) (v := .ref r_S_bases) (C := R_Stacks) (T := F_Stacks) (N := 12) hx hb hg i_Stacks hown hK hP 0 rfl rfl 2 (by decide) (hg _ k56) (fun _ h9 => h9) rfl d_Stacks_setLocals_14 ?_
      refine lv_aload_n hx hb d_Stacks_setLocals_17 rfl (lv_at hl 0 rfl) ?_
      refine va_get (D := (dC, dI)) (ci := 2) (v := .int S_frames) (C := R_Stacks) (T := F_Stacks) (N := 12) hx hb hg i_Stacks hown hK hP 0 rfl rfl 6 (by decide) (hg _ k54) (fun _ h9 => h9) rfl d_Stacks_setLocals_18 ?_
      refine lv_iconst (v := 1) hx hb d_Stacks_setLocals_21 (by decide) ?_
      refine lv_isub hx hb d_Stacks_setLocals_22 ?_
      obtain ⟨i3, h⟩ := dz_oi h
      refine va_iald (D := (dC, dI)) hx hb hK hP 2 0 rfl rfl i3 d_Stacks_setLocals_23 ?_
      refine lv_istore_n (lv' := [(2, .int (f_S_bases (S_frames - 1).toNatClampNeg)), (0, .ref o_Stacks), (1, .int p0)]) hx hb d_Stacks_setLocals_24 rfl hl (by decide) rfl (fun ls hl => ?_)
      refine lv_iload_n hx hb d_Stacks_setLocals_25 rfl (lv_at hl 0 rfl) ?_
      refine lv_iload_n hx hb d_Stacks_setLocals_26 rfl (lv_at hl 2 rfl) ?_
      refine lv_iadd hx hb d_Stacks_setLocals_27 ?_
      refine lv_istore_n (lv' := [(3, .int ((f_S_bases (S_frames - 1).toNatClampNeg) + p0)), (2, .int (f_S_bases (S_frames - 1).toNatClampNeg)), (0, .ref o_Stacks), (1, .int p0)]) hx hb d_Stacks_setLocals_28 rfl hl (by decide) rfl (fun ls hl => ?_)
      refine lv_iload_n hx hb d_Stacks_setLocals_29 rfl (lv_at hl 0 rfl) ?_
      refine lv_ldc (v := 65536) hx hb hown (hg _ k66) d_Stacks_setLocals_30 ?_
      refine lv_icmp_le (tgt := 37) hx hb d_Stacks_setLocals_32 (by decide) (fun c4 => ?_) (fun c4 => ?_)
      · rw [if_pos c4] at h
        refine lv_iload_n hx hb d_Stacks_setLocals_37 rfl (lv_at hl 0 rfl) ?_
        refine lv_aload_n hx hb d_Stacks_setLocals_38 rfl (lv_at hl 2 rfl) ?_
        refine va_get (D := (dC, dI)) (ci := 2) (v := .ref r_S_values) (C := R_Stacks) (T := F_Stacks) (N := 12) hx hb hg i_Stacks hown hK hP 0 rfl rfl 0 (by decide) (hg _ k65) (fun _ h9 => h9) rfl d_Stacks_setLocals_39 ?_
        refine va_alen (D := (dC, dI)) (v := Int32.ofNat n_S_values) hx hb hK hP 1 1 rfl rfl rfl d_Stacks_setLocals_42 ?_
        refine lv_icmp_le (tgt := 51) hx hb d_Stacks_setLocals_43 (by decide) (fun c5 => ?_) (fun c5 => ?_)
        · rw [if_pos c5] at h
          refine lv_aload_n hx hb d_Stacks_setLocals_51 rfl (lv_at hl 2 rfl) ?_
          refine va_get (D := (dC, dI)) (ci := 2) (v := .ref r_S_floors) (C := R_Stacks) (T := F_Stacks) (N := 12) hx hb hg i_Stacks hown hK hP 0 rfl rfl 3 (by decide) (hg _ k57) (fun _ h9 => h9) rfl d_Stacks_setLocals_52 ?_
          refine lv_aload_n hx hb d_Stacks_setLocals_55 rfl (lv_at hl 2 rfl) ?_
          refine va_get (D := (dC, dI)) (ci := 2) (v := .int S_frames) (C := R_Stacks) (T := F_Stacks) (N := 12) hx hb hg i_Stacks hown hK hP 0 rfl rfl 6 (by decide) (hg _ k54) (fun _ h9 => h9) rfl d_Stacks_setLocals_56 ?_
          refine lv_iconst (v := 1) hx hb d_Stacks_setLocals_59 (by decide) ?_
          refine lv_isub hx hb d_Stacks_setLocals_60 ?_
          obtain ⟨i6, h⟩ := dz_oi h
          refine va_iald (D := (dC, dI)) hx hb hK hP 3 0 rfl rfl i6 d_Stacks_setLocals_61 ?_
          refine lv_istore (lv' := [(4, .int (f_S_floors (S_frames - 1).toNatClampNeg)), (3, .int ((f_S_bases (S_frames - 1).toNatClampNeg) + p0)), (2, .int (f_S_bases (S_frames - 1).toNatClampNeg)), (0, .ref o_Stacks), (1, .int p0)]) hx hb d_Stacks_setLocals_62 hl (by decide) rfl (fun ls hl => ?_)
          refine l_Stacks_setLocals_1 dC dI N cI cL o_Stacks r_S_values r_S_bases r_S_floors r_S_returns r_S_closures r_S_handlerFrames r_S_handlerPlaces r_S_handlerHeights r_S_handlerDepths S_top S_frames S_handlers n_S_values n_S_bases f_S_bases n_S_floors f_S_floors p0 hx hb hml hown hg hN hK hA (fun v1_4 w1_f_f_S_values z cc cs H locs ls h hG hP hD hS hl => ?_) N (f_S_floors (S_frames - 1).toNatClampNeg) f_S_values _ _ _ _ _ _ h hG (hP.sub [0, 1, 2, 3] rfl) (hD.sub [0, 1, 2, 3] (by decide) rfl) hS (lv_sub hl [0, 1, 2, 3, 4] rfl)
          refine lv_aload_n hx hb d_Stacks_setLocals_84 rfl (lv_at hl 3 rfl) ?_
          refine va_get (D := (dC, dI)) (ci := 2) (v := .ref r_S_floors) (C := R_Stacks) (T := F_Stacks) (N := 12) hx hb hg i_Stacks hown hK hP 0 rfl rfl 3 (by decide) (hg _ k57) (fun _ h9 => h9) rfl d_Stacks_setLocals_85 ?_
          refine lv_aload_n hx hb d_Stacks_setLocals_88 rfl (lv_at hl 3 rfl) ?_
          refine va_get (D := (dC, dI)) (ci := 2) (v := .int S_frames) (C := R_Stacks) (T := F_Stacks) (N := 12) hx hb hg i_Stacks hown hK hP 0 rfl rfl 6 (by decide) (hg _ k54) (fun _ h9 => h9) rfl d_Stacks_setLocals_89 ?_
          refine lv_iconst (v := 1) hx hb d_Stacks_setLocals_92 (by decide) ?_
          refine lv_isub hx hb d_Stacks_setLocals_93 ?_
          refine lv_iload_n hx hb d_Stacks_setLocals_94 rfl (lv_at hl 1 rfl) ?_
          obtain ⟨i9, h⟩ := dz_oi h
          refine va_iast (D := (dC, dI)) hx hb hK hP hD hS 3 0 rfl rfl i9 d_Stacks_setLocals_95 (fun H locs hP hD hS => ?_)
          have hP : va_P (dC, dI) classes [(o_Stacks, .inr (2, [.ref r_S_values, .int S_top, .ref r_S_bases, .ref r_S_floors, .ref r_S_returns, .ref r_S_closures, .int S_frames, .ref r_S_handlerFrames, .ref r_S_handlerPlaces, .ref r_S_handlerHeights, .ref r_S_handlerDepths, .int S_handlers])), (r_S_values, .inl (cL, n_S_values, .inr (.inl w1_f_f_S_values))), (r_S_bases, .inl (cI, n_S_bases, .inl f_S_bases)), (r_S_floors, .inl (cI, n_S_floors, .inl (upd f_S_floors (S_frames - 1).toNatClampNeg ((f_S_bases (S_frames - 1).toNatClampNeg) + p0))))] H := hP
          have hD : va_D A [(o_Stacks, .inr (2, [.ref r_S_values, .int S_top, .ref r_S_bases, .ref r_S_floors, .ref r_S_returns, .ref r_S_closures, .int S_frames, .ref r_S_handlerFrames, .ref r_S_handlerPlaces, .ref r_S_handlerHeights, .ref r_S_handlerDepths, .int S_handlers])), (r_S_values, .inl (cL, n_S_values, .inr (.inl w1_f_f_S_values))), (r_S_bases, .inl (cI, n_S_bases, .inl f_S_bases)), (r_S_floors, .inl (cI, n_S_floors, .inl (upd f_S_floors (S_frames - 1).toNatClampNeg ((f_S_bases (S_frames - 1).toNatClampNeg) + p0))))] := hD
          refine lv_aload_n hx hb d_Stacks_setLocals_96 rfl (lv_at hl 3 rfl) ?_
          refine lv_iload_n hx hb d_Stacks_setLocals_97 rfl (lv_at hl 1 rfl) ?_
          refine va_put (D := (dC, dI)) (ci := 2) (v := .int ((f_S_bases (S_frames - 1).toNatClampNeg) + p0)) (ty := .int) (C := R_Stacks) (T := F_Stacks) (N := 12) hx hb hg i_Stacks t_Stacks t_Stacks_ok n_Stacks hown hK hP hD hS 0 rfl rfl 1 (by decide) (hg _ k53) (fun _ h9 => h9) rfl (by decide +kernel) rfl rfl (Nat.le_of_ble_eq_true rfl) d_Stacks_setLocals_98 (fun H locs hP hD hS => ?_)
          have hP : va_P (dC, dI) classes [(o_Stacks, .inr (2, [.ref r_S_values, .int ((f_S_bases (S_frames - 1).toNatClampNeg) + p0), .ref r_S_bases, .ref r_S_floors, .ref r_S_returns, .ref r_S_closures, .int S_frames, .ref r_S_handlerFrames, .ref r_S_handlerPlaces, .ref r_S_handlerHeights, .ref r_S_handlerDepths, .int S_handlers])), (r_S_values, .inl (cL, n_S_values, .inr (.inl w1_f_f_S_values))), (r_S_bases, .inl (cI, n_S_bases, .inl f_S_bases)), (r_S_floors, .inl (cI, n_S_floors, .inl (upd f_S_floors (S_frames - 1).toNatClampNeg ((f_S_bases (S_frames - 1).toNatClampNeg) + p0))))] H := hP
          have hD : va_D A [(o_Stacks, .inr (2, [.ref r_S_values, .int ((f_S_bases (S_frames - 1).toNatClampNeg) + p0), .ref r_S_bases, .ref r_S_floors, .ref r_S_returns, .ref r_S_closures, .int S_frames, .ref r_S_handlerFrames, .ref r_S_handlerPlaces, .ref r_S_handlerHeights, .ref r_S_handlerDepths, .int S_handlers])), (r_S_values, .inl (cL, n_S_values, .inr (.inl w1_f_f_S_values))), (r_S_bases, .inl (cI, n_S_bases, .inl f_S_bases)), (r_S_floors, .inl (cI, n_S_floors, .inl (upd f_S_floors (S_frames - 1).toNatClampNeg ((f_S_bases (S_frames - 1).toNatClampNeg) + p0))))] := hD
          refine lv_iconst (v := 5) hx hb d_Stacks_setLocals_101 (by decide) ?_
          obtain rfl := Option.some.inj h
          have hP9 := hP.sub (ws' := [(o_Stacks, .inr (2, [.ref r_S_values, .int ((f_S_bases (S_frames - 1).toNatClampNeg) + p0), .ref r_S_bases, .ref r_S_floors, .ref r_S_returns, .ref r_S_closures, .int S_frames, .ref r_S_handlerFrames, .ref r_S_handlerPlaces, .ref r_S_handlerHeights, .ref r_S_handlerDepths, .int S_handlers])), (r_S_values, .inl (cL, n_S_values, .inr (.inl w1_f_f_S_values))), (r_S_bases, .inl (cI, n_S_bases, .inl f_S_bases)), (r_S_floors, .inl (cI, n_S_floors, .inl (upd f_S_floors (S_frames - 1).toNatClampNeg ((f_S_bases (S_frames - 1).toNatClampNeg) + p0))))]) [0, 1, 2, 3] rfl
          have hD9 := hD.sub (ws' := [(o_Stacks, .inr (2, [.ref r_S_values, .int ((f_S_bases (S_frames - 1).toNatClampNeg) + p0), .ref r_S_bases, .ref r_S_floors, .ref r_S_returns, .ref r_S_closures, .int S_frames, .ref r_S_handlerFrames, .ref r_S_handlerPlaces, .ref r_S_handlerHeights, .ref r_S_handlerDepths, .int S_handlers])), (r_S_values, .inl (cL, n_S_values, .inr (.inl w1_f_f_S_values))), (r_S_bases, .inl (cI, n_S_bases, .inl f_S_bases)), (r_S_floors, .inl (cI, n_S_floors, .inl (upd f_S_floors (S_frames - 1).toNatClampNeg ((f_S_bases (S_frames - 1).toNatClampNeg) + p0))))]) [0, 1, 2, 3] (by decide) rfl
          have hK9 := hK.sub (tys' := [(cI, .int), (cL, .long)]) [0, 1] rfl
          refine W.widen (dz_Gc hG) (dz_Gs hG) ?_
          obtain ⟨rfl, -, -⟩ := hG
          exact W.iret (v := 5) hx hb hr (fun t ht hW => ⟨⟨5, r_S_values, rfl, rfl, by rw [ht]; exact hP9, va_K.moved hW.alike hK9, hD9⟩, hS.F ht⟩) hS.2.2 d_Stacks_setLocals_102
        · rw [if_neg c5] at h
          refine lv_aload_n hx hb d_Stacks_setLocals_46 rfl (lv_at hl 2 rfl) ?_
          refine lv_iload_n hx hb d_Stacks_setLocals_47 rfl (lv_at hl 0 rfl) ?_
          obtain ⟨⟨⟨z10_1, z10_2⟩, zc10, zs10⟩, hc10, h⟩ := dz_ob h
          try dsimp only at h
          obtain ⟨z, h, hG⟩ := dz_tkG h hG
          have hPc := hP.sub (ws' := [(o_Stacks, .inr (2, [.ref r_S_values, .int S_top, .ref r_S_bases, .ref r_S_floors, .ref r_S_returns, .ref r_S_closures, .int S_frames, .ref r_S_handlerFrames, .ref r_S_handlerPlaces, .ref r_S_handlerHeights, .ref r_S_handlerDepths, .int S_handlers])), (r_S_values, .inl (cL, n_S_values, .inr (.inl f_S_values)))]) [0, 1] rfl
          have hKc := hK.sub (tys' := [(cL, .long)]) [1] rfl
          have hDc := hD.sub (ws' := [(o_Stacks, .inr (2, [.ref r_S_values, .int S_top, .ref r_S_bases, .ref r_S_floors, .ref r_S_returns, .ref r_S_closures, .int S_frames, .ref r_S_handlerFrames, .ref r_S_handlerPlaces, .ref r_S_handlerHeights, .ref r_S_handlerDepths, .int S_handlers])), (r_S_values, .inl (cL, n_S_values, .inr (.inl f_S_values)))]) [0, 1] (by decide) rfl
          have hFc := va_free (wc := [(o_Stacks, .inr (2, [.ref r_S_values, .int S_top, .ref r_S_bases, .ref r_S_floors, .ref r_S_returns, .ref r_S_closures, .int S_frames, .ref r_S_handlerFrames, .ref r_S_handlerPlaces, .ref r_S_handlerHeights, .ref r_S_handlerDepths, .int S_handlers])), (r_S_values, .inl (cL, n_S_values, .inr (.inl f_S_values)))]) hD hS hA [0, 1] rfl
          refine va_callv (va_runV (As := [.int ((f_S_bases (S_frames - 1).toNatClampNeg) + p0)]) (rest := []) ⟨hx, hb, hml, hown, hg⟩ (c_Stacks_widen l dC dI N cL o_Stacks r_S_values r_S_bases r_S_floors r_S_returns r_S_closures r_S_handlerFrames r_S_handlerPlaces r_S_handlerHeights r_S_handlerDepths S_top S_frames S_handlers n_S_values f_S_values ((f_S_bases (S_frames - 1).toNatClampNeg) + p0) s.heap.size (z10_1, z10_2) zc10 zs10 hc10) (cwV 1 hg (gd_V k75 k76 k77 k64 k74) rfl rfl rfl (by decide +kernel) ⟨Nat.le_of_ble_eq_true rfl, Nat.le_of_ble_eq_true rfl⟩) ⟨dz_blind, va_recv hKc hPc (ci := 2) (q0 := 0) rfl rfl, fun U hU hW => ⟨rfl, dz_Nw hW hN, by rw [hU], by rw [hU]; exact hPc, va_K.moved hW.alike hKc, hDc.weaken (fun _ _ _ _ => trivial)⟩⟩ rfl rfl hl.1 rfl (lv_room (Nat.le_of_ble_eq_true rfl)) d_Stacks_setLocals_48 ⟨dz_Gc hG, dz_Gs hG⟩) hS (fun q _ h => hFc q h) hFc (fun u10 t10 H1 locs ht hvm hw hB hz1 hk1 hS => ?_)
          obtain ⟨a10_0, rfl⟩ : ∃ z, z = u10 := ⟨_, rfl⟩
          obtain ⟨hP1, hK1, hD1⟩ := hB
          rw [ht] at hP1
          obtain ⟨hP, hD⟩ := va_join (wr := [(r_S_bases, .inl (cI, n_S_bases, .inl f_S_bases)), (r_S_floors, .inl (cI, n_S_floors, .inl f_S_floors))]) (w1 := [(o_Stacks, .inr (2, [.ref a10_0, .int S_top, .ref r_S_bases, .ref r_S_floors, .ref r_S_returns, .ref r_S_closures, .int S_frames, .ref r_S_handlerFrames, .ref r_S_handlerPlaces, .ref r_S_handlerHeights, .ref r_S_handlerDepths, .int S_handlers])), (a10_0, .inl (cL, z10_1, .inr (.inl z10_2)))]) hP hD [0, 1] [2, 3] rfl rfl (by decide) (by decide) hk1 hFc hP1 hD1
          generalize H1 = H at hP hS ⊢
          have hP : va_P (dC, dI) classes [(r_S_bases, .inl (cI, n_S_bases, .inl f_S_bases)), (r_S_floors, .inl (cI, n_S_floors, .inl f_S_floors)), (o_Stacks, .inr (2, [.ref a10_0, .int S_top, .ref r_S_bases, .ref r_S_floors, .ref r_S_returns, .ref r_S_closures, .int S_frames, .ref r_S_handlerFrames, .ref r_S_handlerPlaces, .ref r_S_handlerHeights, .ref r_S_handlerDepths, .int S_handlers])), (a10_0, .inl (cL, z10_1, .inr (.inl z10_2)))] H := hP
          have hD : va_D A [(r_S_bases, .inl (cI, n_S_bases, .inl f_S_bases)), (r_S_floors, .inl (cI, n_S_floors, .inl f_S_floors)), (o_Stacks, .inr (2, [.ref a10_0, .int S_top, .ref r_S_bases, .ref r_S_floors, .ref r_S_returns, .ref r_S_closures, .int S_frames, .ref r_S_handlerFrames, .ref r_S_handlerPlaces, .ref r_S_handlerHeights, .ref r_S_handlerDepths, .int S_handlers])), (a10_0, .inl (cL, z10_1, .inr (.inl z10_2)))] := hD
          refine lv_aload_n hx hb d_Stacks_setLocals_51 rfl (lv_at hl 2 rfl) ?_
          refine va_get (D := (dC, dI)) (ci := 2) (v := .ref r_S_floors) (C := R_Stacks) (T := F_Stacks) (N := 12) hx hb hg i_Stacks hown hK hP 2 rfl rfl 3 (by decide) (hg _ k57) (fun _ h9 => h9) rfl d_Stacks_setLocals_52 ?_
          refine lv_aload_n hx hb d_Stacks_setLocals_55 rfl (lv_at hl 2 rfl) ?_
          refine va_get (D := (dC, dI)) (ci := 2) (v := .int S_frames) (C := R_Stacks) (T := F_Stacks) (N := 12) hx hb hg i_Stacks hown hK hP 2 rfl rfl 6 (by decide) (hg _ k54) (fun _ h9 => h9) rfl d_Stacks_setLocals_56 ?_
          refine lv_iconst (v := 1) hx hb d_Stacks_setLocals_59 (by decide) ?_
          refine lv_isub hx hb d_Stacks_setLocals_60 ?_
          obtain ⟨i11, h⟩ := dz_oi h
          refine va_iald (D := (dC, dI)) hx hb hK hP 1 0 rfl rfl i11 d_Stacks_setLocals_61 ?_
          refine lv_istore (lv' := [(4, .int (f_S_floors (S_frames - 1).toNatClampNeg)), (3, .int ((f_S_bases (S_frames - 1).toNatClampNeg) + p0)), (2, .int (f_S_bases (S_frames - 1).toNatClampNeg)), (0, .ref o_Stacks), (1, .int p0)]) hx hb d_Stacks_setLocals_62 hl (by decide) rfl (fun ls hl => ?_)
          refine l_Stacks_setLocals_2 dC dI N cI cL o_Stacks r_S_bases r_S_floors r_S_returns r_S_closures r_S_handlerFrames r_S_handlerPlaces r_S_handlerHeights r_S_handlerDepths S_top S_frames S_handlers n_S_bases f_S_bases n_S_floors f_S_floors p0 z10_1 a10_0 hx hb hml hown hg hN hK hA (fun v2_4 w2_f_f_S_values z cc cs H locs ls h hG hP hD hS hl => ?_) N (f_S_floors (S_frames - 1).toNatClampNeg) z10_2 _ _ _ _ _ _ h hG (hP.sub [0, 1, 2, 3] rfl) (hD.sub [0, 1, 2, 3] (by decide) rfl) hS (lv_sub hl [0, 1, 2, 3, 4] rfl)
          refine lv_aload_n hx hb d_Stacks_setLocals_84 rfl (lv_at hl 3 rfl) ?_
          refine va_get (D := (dC, dI)) (ci := 2) (v := .ref r_S_floors) (C := R_Stacks) (T := F_Stacks) (N := 12) hx hb hg i_Stacks hown hK hP 2 rfl rfl 3 (by decide) (hg _ k57) (fun _ h9 => h9) rfl d_Stacks_setLocals_85 ?_
          refine lv_aload_n hx hb d_Stacks_setLocals_88 rfl (lv_at hl 3 rfl) ?_
          refine va_get (D := (dC, dI)) (ci := 2) (v := .int S_frames) (C := R_Stacks) (T := F_Stacks) (N := 12) hx hb hg i_Stacks hown hK hP 2 rfl rfl 6 (by decide) (hg _ k54) (fun _ h9 => h9) rfl d_Stacks_setLocals_89 ?_
          refine lv_iconst (v := 1) hx hb d_Stacks_setLocals_92 (by decide) ?_
          refine lv_isub hx hb d_Stacks_setLocals_93 ?_
          refine lv_iload_n hx hb d_Stacks_setLocals_94 rfl (lv_at hl 1 rfl) ?_
          obtain ⟨i14, h⟩ := dz_oi h
          refine va_iast (D := (dC, dI)) hx hb hK hP hD hS 1 0 rfl rfl i14 d_Stacks_setLocals_95 (fun H locs hP hD hS => ?_)
          have hP : va_P (dC, dI) classes [(r_S_bases, .inl (cI, n_S_bases, .inl f_S_bases)), (r_S_floors, .inl (cI, n_S_floors, .inl (upd f_S_floors (S_frames - 1).toNatClampNeg ((f_S_bases (S_frames - 1).toNatClampNeg) + p0)))), (o_Stacks, .inr (2, [.ref a10_0, .int S_top, .ref r_S_bases, .ref r_S_floors, .ref r_S_returns, .ref r_S_closures, .int S_frames, .ref r_S_handlerFrames, .ref r_S_handlerPlaces, .ref r_S_handlerHeights, .ref r_S_handlerDepths, .int S_handlers])), (a10_0, .inl (cL, z10_1, .inr (.inl w2_f_f_S_values)))] H := hP
          have hD : va_D A [(r_S_bases, .inl (cI, n_S_bases, .inl f_S_bases)), (r_S_floors, .inl (cI, n_S_floors, .inl (upd f_S_floors (S_frames - 1).toNatClampNeg ((f_S_bases (S_frames - 1).toNatClampNeg) + p0)))), (o_Stacks, .inr (2, [.ref a10_0, .int S_top, .ref r_S_bases, .ref r_S_floors, .ref r_S_returns, .ref r_S_closures, .int S_frames, .ref r_S_handlerFrames, .ref r_S_handlerPlaces, .ref r_S_handlerHeights, .ref r_S_handlerDepths, .int S_handlers])), (a10_0, .inl (cL, z10_1, .inr (.inl w2_f_f_S_values)))] := hD
          refine lv_aload_n hx hb d_Stacks_setLocals_96 rfl (lv_at hl 3 rfl) ?_
          refine lv_iload_n hx hb d_Stacks_setLocals_97 rfl (lv_at hl 1 rfl) ?_
          refine va_put (D := (dC, dI)) (ci := 2) (v := .int ((f_S_bases (S_frames - 1).toNatClampNeg) + p0)) (ty := .int) (C := R_Stacks) (T := F_Stacks) (N := 12) hx hb hg i_Stacks t_Stacks t_Stacks_ok n_Stacks hown hK hP hD hS 2 rfl rfl 1 (by decide) (hg _ k53) (fun _ h9 => h9) rfl (by decide +kernel) rfl rfl (Nat.le_of_ble_eq_true rfl) d_Stacks_setLocals_98 (fun H locs hP hD hS => ?_)
          have hP : va_P (dC, dI) classes [(r_S_bases, .inl (cI, n_S_bases, .inl f_S_bases)), (r_S_floors, .inl (cI, n_S_floors, .inl (upd f_S_floors (S_frames - 1).toNatClampNeg ((f_S_bases (S_frames - 1).toNatClampNeg) + p0)))), (o_Stacks, .inr (2, [.ref a10_0, .int ((f_S_bases (S_frames - 1).toNatClampNeg) + p0), .ref r_S_bases, .ref r_S_floors, .ref r_S_returns, .ref r_S_closures, .int S_frames, .ref r_S_handlerFrames, .ref r_S_handlerPlaces, .ref r_S_handlerHeights, .ref r_S_handlerDepths, .int S_handlers])), (a10_0, .inl (cL, z10_1, .inr (.inl w2_f_f_S_values)))] H := hP
          have hD : va_D A [(r_S_bases, .inl (cI, n_S_bases, .inl f_S_bases)), (r_S_floors, .inl (cI, n_S_floors, .inl (upd f_S_floors (S_frames - 1).toNatClampNeg ((f_S_bases (S_frames - 1).toNatClampNeg) + p0)))), (o_Stacks, .inr (2, [.ref a10_0, .int ((f_S_bases (S_frames - 1).toNatClampNeg) + p0), .ref r_S_bases, .ref r_S_floors, .ref r_S_returns, .ref r_S_closures, .int S_frames, .ref r_S_handlerFrames, .ref r_S_handlerPlaces, .ref r_S_handlerHeights, .ref r_S_handlerDepths, .int S_handlers])), (a10_0, .inl (cL, z10_1, .inr (.inl w2_f_f_S_values)))] := hD
          refine lv_iconst (v := 5) hx hb d_Stacks_setLocals_101 (by decide) ?_
          obtain rfl := Option.some.inj h
          have hP9 := hP.sub (ws' := [(o_Stacks, .inr (2, [.ref a10_0, .int ((f_S_bases (S_frames - 1).toNatClampNeg) + p0), .ref r_S_bases, .ref r_S_floors, .ref r_S_returns, .ref r_S_closures, .int S_frames, .ref r_S_handlerFrames, .ref r_S_handlerPlaces, .ref r_S_handlerHeights, .ref r_S_handlerDepths, .int S_handlers])), (a10_0, .inl (cL, z10_1, .inr (.inl w2_f_f_S_values))), (r_S_bases, .inl (cI, n_S_bases, .inl f_S_bases)), (r_S_floors, .inl (cI, n_S_floors, .inl (upd f_S_floors (S_frames - 1).toNatClampNeg ((f_S_bases (S_frames - 1).toNatClampNeg) + p0))))]) [2, 3, 0, 1] rfl
          have hD9 := hD.sub (ws' := [(o_Stacks, .inr (2, [.ref a10_0, .int ((f_S_bases (S_frames - 1).toNatClampNeg) + p0), .ref r_S_bases, .ref r_S_floors, .ref r_S_returns, .ref r_S_closures, .int S_frames, .ref r_S_handlerFrames, .ref r_S_handlerPlaces, .ref r_S_handlerHeights, .ref r_S_handlerDepths, .int S_handlers])), (a10_0, .inl (cL, z10_1, .inr (.inl w2_f_f_S_values))), (r_S_bases, .inl (cI, n_S_bases, .inl f_S_bases)), (r_S_floors, .inl (cI, n_S_floors, .inl (upd f_S_floors (S_frames - 1).toNatClampNeg ((f_S_bases (S_frames - 1).toNatClampNeg) + p0))))]) [2, 3, 0, 1] (by decide) rfl
          have hK9 := hK.sub (tys' := [(cI, .int), (cL, .long)]) [0, 1] rfl
          refine W.widen (dz_Gc hG) (dz_Gs hG) ?_
          obtain ⟨rfl, -, -⟩ := hG
          exact W.iret (v := 5) hx hb hr (fun t ht hW => ⟨⟨5, a10_0, rfl, rfl, by rw [ht]; exact hP9, va_K.moved hW.alike hK9, hD9⟩, hS.F ht⟩) hS.2.2 d_Stacks_setLocals_102
      · rw [if_neg c4] at h
        refine lv_iconst (v := 3) hx hb d_Stacks_setLocals_35 (by decide) ?_
        obtain rfl := Option.some.inj h
        have hP9 := hP.sub (ws' := [(o_Stacks, .inr (2, [.ref r_S_values, .int S_top, .ref r_S_bases, .ref r_S_floors, .ref r_S_returns, .ref r_S_closures, .int S_frames, .ref r_S_handlerFrames, .ref r_S_handlerPlaces, .ref r_S_handlerHeights, .ref r_S_handlerDepths, .int S_handlers])), (r_S_values, .inl (cL, n_S_values, .inr (.inl f_S_values))), (r_S_bases, .inl (cI, n_S_bases, .inl f_S_bases)), (r_S_floors, .inl (cI, n_S_floors, .inl f_S_floors))]) [0, 1, 2, 3] rfl
        have hD9 := hD.sub (ws' := [(o_Stacks, .inr (2, [.ref r_S_values, .int S_top, .ref r_S_bases, .ref r_S_floors, .ref r_S_returns, .ref r_S_closures, .int S_frames, .ref r_S_handlerFrames, .ref r_S_handlerPlaces, .ref r_S_handlerHeights, .ref r_S_handlerDepths, .int S_handlers])), (r_S_values, .inl (cL, n_S_values, .inr (.inl f_S_values))), (r_S_bases, .inl (cI, n_S_bases, .inl f_S_bases)), (r_S_floors, .inl (cI, n_S_floors, .inl f_S_floors))]) [0, 1, 2, 3] (by decide) rfl
        have hK9 := hK.sub (tys' := [(cI, .int), (cL, .long)]) [0, 1] rfl
        refine W.widen (dz_Gc hG) (dz_Gs hG) ?_
        obtain ⟨rfl, -, -⟩ := hG
        exact W.iret (v := 3) hx hb hr (fun t ht hW => ⟨⟨3, r_S_values, rfl, rfl, by rw [ht]; exact hP9, va_K.moved hW.alike hK9, hD9⟩, hS.F ht⟩) hS.2.2 d_Stacks_setLocals_36
    · rw [if_neg c2] at h
      refine lv_iconst (v := 4) hx hb d_Stacks_setLocals_11 (by decide) ?_
      obtain rfl := Option.some.inj h
      have hP9 := hP.sub (ws' := [(o_Stacks, .inr (2, [.ref r_S_values, .int S_top, .ref r_S_bases, .ref r_S_floors, .ref r_S_returns, .ref r_S_closures, .int S_frames, .ref r_S_handlerFrames, .ref r_S_handlerPlaces, .ref r_S_handlerHeights, .ref r_S_handlerDepths, .int S_handlers])), (r_S_values, .inl (cL, n_S_values, .inr (.inl f_S_values))), (r_S_bases, .inl (cI, n_S_bases, .inl f_S_bases)), (r_S_floors, .inl (cI, n_S_floors, .inl f_S_floors))]) [0, 1, 2, 3] rfl
      have hD9 := hD.sub (ws' := [(o_Stacks, .inr (2, [.ref r_S_values, .int S_top, .ref r_S_bases, .ref r_S_floors, .ref r_S_returns, .ref r_S_closures, .int S_frames, .ref r_S_handlerFrames, .ref r_S_handlerPlaces, .ref r_S_handlerHeights, .ref r_S_handlerDepths, .int S_handlers])), (r_S_values, .inl (cL, n_S_values, .inr (.inl f_S_values))), (r_S_bases, .inl (cI, n_S_bases, .inl f_S_bases)), (r_S_floors, .inl (cI, n_S_floors, .inl f_S_floors))]) [0, 1, 2, 3] (by decide) rfl
      have hK9 := hK.sub (tys' := [(cI, .int), (cL, .long)]) [0, 1] rfl
      refine W.widen (dz_Gc hG) (dz_Gs hG) ?_
      obtain ⟨rfl, -, -⟩ := hG
      exact W.iret (v := 4) hx hb hr (fun t ht hW => ⟨⟨4, r_S_values, rfl, rfl, by rw [ht]; exact hP9, va_K.moved hW.alike hK9, hD9⟩, hS.F ht⟩) hS.2.2 d_Stacks_setLocals_12

set_option maxHeartbeats 4000000 in
set_option maxRecDepth 100000 in
theorem c_Stacks_swap (l : Launch) (dC : Nat → ClassId) (dI : Nat → Nat → Nat) (N : Nat) (cL : ClassId) (o_Stacks : Nat) (r_S_values : Nat) (r_S_bases : Nat) (r_S_floors : Nat) (r_S_returns : Nat) (r_S_closures : Nat) (r_S_handlerFrames : Nat) (r_S_handlerPlaces : Nat) (r_S_handlerHeights : Nat) (r_S_handlerDepths : Nat) (S_top : Int32) (S_frames : Int32) (S_handlers : Int32) (n_S_values : Nat) (f_S_values : Nat → Int64) (sz : Nat) (z : Int32 × (Nat → Int64)) (h : m_Stacks_swap N S_top S_frames S_handlers n_S_values f_S_values = some z) : Met l y_Stacks_swap (.code y_Stacks_swap b_Stacks_swap 3 (some .int) :: lw_g) ({ frames := 0, cells := 0, slots := 0, locals := 0 }) (va_Pc [.ref o_Stacks] (fun U => dz_N U ∧ U.heap.size = sz ∧ va_P (dC, dI) classes [(o_Stacks, .inr (2, [.ref r_S_values, .int S_top, .ref r_S_bases, .ref r_S_floors, .ref r_S_returns, .ref r_S_closures, .int S_frames, .ref r_S_handlerFrames, .ref r_S_handlerPlaces, .ref r_S_handlerHeights, .ref r_S_handlerDepths, .int S_handlers])), (r_S_values, .inl (cL, n_S_values, .inr (.inl f_S_values)))] U.heap ∧ va_K (dC, dI) classes [(cL, .long)] U ∧ va_D (fun _ => True) [(o_Stacks, .inr (2, [.ref r_S_values, .int S_top, .ref r_S_bases, .ref r_S_floors, .ref r_S_returns, .ref r_S_closures, .int S_frames, .ref r_S_handlerFrames, .ref r_S_handlerPlaces, .ref r_S_handlerHeights, .ref r_S_handlerDepths, .int S_handlers])), (r_S_values, .inl (cL, n_S_values, .inr (.inl f_S_values)))])) (va_Qi (fun (r : Int32) (_ : Unit) => r = z.1) (fun (u : Unit) t => va_P (dC, dI) classes [(o_Stacks, .inr (2, [.ref r_S_values, .int S_top, .ref r_S_bases, .ref r_S_floors, .ref r_S_returns, .ref r_S_closures, .int S_frames, .ref r_S_handlerFrames, .ref r_S_handlerPlaces, .ref r_S_handlerHeights, .ref r_S_handlerDepths, .int S_handlers])), (r_S_values, .inl (cL, n_S_values, .inr (.inl z.2)))] t.heap ∧ va_K (dC, dI) classes [(cL, .long)] t ∧ va_D (va_A [(o_Stacks, .inr (2, [.ref r_S_values, .int S_top, .ref r_S_bases, .ref r_S_floors, .ref r_S_returns, .ref r_S_closures, .int S_frames, .ref r_S_handlerFrames, .ref r_S_handlerPlaces, .ref r_S_handlerHeights, .ref r_S_handlerDepths, .int S_handlers])), (r_S_values, .inl (cL, n_S_values, .inr (.inl f_S_values)))] sz) [(o_Stacks, .inr (2, [.ref r_S_values, .int S_top, .ref r_S_bases, .ref r_S_floors, .ref r_S_returns, .ref r_S_closures, .int S_frames, .ref r_S_handlerFrames, .ref r_S_handlerPlaces, .ref r_S_handlerHeights, .ref r_S_handlerDepths, .int S_handlers])), (r_S_values, .inl (cL, n_S_values, .inr (.inl z.2)))]) (va_A [(o_Stacks, .inr (2, [.ref r_S_values, .int S_top, .ref r_S_bases, .ref r_S_floors, .ref r_S_returns, .ref r_S_closures, .int S_frames, .ref r_S_handlerFrames, .ref r_S_handlerPlaces, .ref r_S_handlerHeights, .ref r_S_handlerDepths, .int S_handlers])), (r_S_values, .inl (cL, n_S_values, .inr (.inl f_S_values)))] sz)) 0 0 (va_A [(o_Stacks, .inr (2, [.ref r_S_values, .int S_top, .ref r_S_bases, .ref r_S_floors, .ref r_S_returns, .ref r_S_closures, .int S_frames, .ref r_S_handlerFrames, .ref r_S_handlerPlaces, .ref r_S_handlerHeights, .ref r_S_handlerDepths, .int S_handlers])), (r_S_values, .inl (cL, n_S_values, .inr (.inl f_S_values)))] sz) := by
  refine Met.ofW (cc := b_Stacks_swap) (maxL := 3) (ret := (some .int)) (by decide +kernel) rfl ?_
  intro p e s m args below meth c s₁ B hml hv
  obtain ⟨rfl, hN, hsz, hP, hK, hD0⟩ := hv
  have hx := B.exec
  have hb := B.bytes
  have hr := B.returns
  have hg : ∀ w ∈ lw_g, w.before _ s = true := fun w hw => atoms_spec (ws := .code y_Stacks_swap b_Stacks_swap 3 (some .int) :: lw_g) B.pre w (List.mem_cons_of_mem _ hw)
  have hown : s.vm.findClass R_Stacks = some m.cls := findClass_of_methodNamed B.named
  have hlocks := B.notSynchronized
  clear B
  subst hsz
  have hD := hD0.self (sz := s.heap.size)
  generalize hAe : va_A [(o_Stacks, .inr (2, [.ref r_S_values, .int S_top, .ref r_S_bases, .ref r_S_floors, .ref r_S_returns, .ref r_S_closures, .int S_frames, .ref r_S_handlerFrames, .ref r_S_handlerPlaces, .ref r_S_handlerHeights, .ref r_S_handlerDepths, .int S_handlers])), (r_S_values, .inl (cL, n_S_values, .inr (.inl f_S_values)))] s.heap.size = A at hD ⊢
  have hA : ∀ q : Nat, s.heap.size ≤ q → A q := fun q h => by rw [← hAe]; exact Or.inr h
  have hS : va_S A s.heap s.heap [] := va_S.rf
  have hP : va_P (dC, dI) classes [(o_Stacks, .inr (2, [.ref r_S_values, .int S_top, .ref r_S_bases, .ref r_S_floors, .ref r_S_returns, .ref r_S_closures, .int S_frames, .ref r_S_handlerFrames, .ref r_S_handlerPlaces, .ref r_S_handlerHeights, .ref r_S_handlerDepths, .int S_handlers])), (r_S_values, .inl (cL, n_S_values, .inr (.inl f_S_values)))] s.heap := hP
  have hl := lv_entry ([.ref o_Stacks]) (n := 3) (Nat.le_of_ble_eq_true rfl)
  rw [lg_entry_eq]
  generalize (lg_sl ([.ref o_Stacks]) ++ List.replicate (3 - (lg_sl ([.ref o_Stacks])).length) Slot.unset).toArray = ls at hl ⊢
  have hl : lv_has ls 3 [(0, .ref o_Stacks)] := hl
  unfold m_Stacks_swap at h
  refine lv_aload_n hx hb d_Stacks_swap_0 rfl (lv_at hl 0 rfl) ?_
  refine va_get (D := (dC, dI)) (ci := 2) (v := .ref r_S_values) (C := R_Stacks) (T := F_Stacks) (N := 12) hx hb hg i_Stacks hown hK hP 0 rfl rfl 0 (by decide) (hg _ k65) (fun _ h9 => h9) rfl d_Stacks_swap_1 ?_
  refine lv_aload_n hx hb d_Stacks_swap_4 rfl (lv_at hl 0 rfl) ?_
  refine va_get (D := (dC, dI)) (ci := 2) (v := .int S_top) (C := R_Stacks) (T := F_Stacks) (N := 12) hx hb hg i_Stacks hown hK hP 0 rfl rfl 1 (by decide) (hg _ k53) (fun _ h9 => h9) rfl d_Stacks_swap_5 ?_
  refine lv_iconst (v := 1) hx hb d_Stacks_swap_8 (by decide) ?_
  refine lv_isub hx hb d_Stacks_swap_9 ?_
  obtain ⟨i1, h⟩ := dz_oi h
  refine va_lald (D := (dC, dI)) hx hb hK hP 1 0 rfl rfl i1 d_Stacks_swap_10 ?_
  refine lv_lstore_n (lv' := [(1, .long (f_S_values (S_top - 1).toNatClampNeg)), (0, .ref o_Stacks)]) hx hb d_Stacks_swap_11 rfl hl (by decide) rfl (fun ls hl => ?_)
  refine lv_aload_n hx hb d_Stacks_swap_12 rfl (lv_at hl 1 rfl) ?_
  refine va_get (D := (dC, dI)) (ci := 2) (v := .ref r_S_values) (C := R_Stacks) (T := F_Stacks) (N := 12) hx hb hg i_Stacks hown hK hP 0 rfl rfl 0 (by decide) (hg _ k65) (fun _ h9 => h9) rfl d_Stacks_swap_13 ?_
  refine lv_aload_n hx hb d_Stacks_swap_16 rfl (lv_at hl 1 rfl) ?_
  refine va_get (D := (dC, dI)) (ci := 2) (v := .int S_top) (C := R_Stacks) (T := F_Stacks) (N := 12) hx hb hg i_Stacks hown hK hP 0 rfl rfl 1 (by decide) (hg _ k53) (fun _ h9 => h9) rfl d_Stacks_swap_17 ?_
  refine lv_iconst (v := 1) hx hb d_Stacks_swap_20 (by decide) ?_
  refine lv_isub hx hb d_Stacks_swap_21 ?_
  refine lv_aload_n hx hb d_Stacks_swap_22 rfl (lv_at hl 1 rfl) ?_
  refine va_get (D := (dC, dI)) (ci := 2) (v := .ref r_S_values) (C := R_Stacks) (T := F_Stacks) (N := 12) hx hb hg i_Stacks hown hK hP 0 rfl rfl 0 (by decide) (hg _ k65) (fun _ h9 => h9) rfl d_Stacks_swap_23 ?_
  refine lv_aload_n hx hb d_Stacks_swap_26 rfl (lv_at hl 1 rfl) ?_
  refine va_get (D := (dC, dI)) (ci := 2) (v := .int S_top) (C := R_Stacks) (T := F_Stacks) (N := 12) hx hb hg i_Stacks hown hK hP 0 rfl rfl 1 (by decide) (hg _ k53) (fun _ h9 => h9) rfl d_Stacks_swap_27 ?_
  refine lv_iconst (v := 2) hx hb d_Stacks_swap_30 (by decide) ?_
  refine lv_isub hx hb d_Stacks_swap_31 ?_
  obtain ⟨i2, h⟩ := dz_oi h
  refine va_lald (D := (dC, dI)) hx hb hK hP 1 0 rfl rfl i2 d_Stacks_swap_32 ?_
  obtain ⟨i3, h⟩ := dz_oi h
  refine va_last (D := (dC, dI)) hx hb hK hP hD hS 1 0 rfl rfl i3 d_Stacks_swap_33 (fun H locs hP hD hS => ?_)
  have hP : va_P (dC, dI) classes [(o_Stacks, .inr (2, [.ref r_S_values, .int S_top, .ref r_S_bases, .ref r_S_floors, .ref r_S_returns, .ref r_S_closures, .int S_frames, .ref r_S_handlerFrames, .ref r_S_handlerPlaces, .ref r_S_handlerHeights, .ref r_S_handlerDepths, .int S_handlers])), (r_S_values, .inl (cL, n_S_values, .inr (.inl (vp_updL f_S_values (S_top - 1).toNatClampNeg (f_S_values (S_top - 2).toNatClampNeg)))))] H := hP
  have hD : va_D A [(o_Stacks, .inr (2, [.ref r_S_values, .int S_top, .ref r_S_bases, .ref r_S_floors, .ref r_S_returns, .ref r_S_closures, .int S_frames, .ref r_S_handlerFrames, .ref r_S_handlerPlaces, .ref r_S_handlerHeights, .ref r_S_handlerDepths, .int S_handlers])), (r_S_values, .inl (cL, n_S_values, .inr (.inl (vp_updL f_S_values (S_top - 1).toNatClampNeg (f_S_values (S_top - 2).toNatClampNeg)))))] := hD
  refine lv_aload_n hx hb d_Stacks_swap_34 rfl (lv_at hl 1 rfl) ?_
  refine va_get (D := (dC, dI)) (ci := 2) (v := .ref r_S_values) (C := R_Stacks) (T := F_Stacks) (N := 12) hx hb hg i_Stacks hown hK hP 0 rfl rfl 0 (by decide) (hg _ k65) (fun _ h9 => h9) rfl d_Stacks_swap_35 ?_
  refine lv_aload_n hx hb d_Stacks_swap_38 rfl (lv_at hl 1 rfl) ?_
  refine va_get (D := (dC, dI)) (ci := 2) (v := .int S_top) (C := R_Stacks) (T := F_Stacks) (N := 12) hx hb hg i_Stacks hown hK hP 0 rfl rfl 1 (by decide) (hg _ k53) (fun _ h9 => h9) rfl d_Stacks_swap_39 ?_
  refine lv_iconst (v := 2) hx hb d_Stacks_swap_42 (by decide) ?_
  refine lv_isub hx hb d_Stacks_swap_43 ?_
  refine lv_lload_n hx hb d_Stacks_swap_44 rfl (lv_at hl 0 rfl) ?_
  obtain ⟨i4, h⟩ := dz_oi h
  refine va_last (D := (dC, dI)) hx hb hK hP hD hS 1 0 rfl rfl i4 d_Stacks_swap_45 (fun H locs hP hD hS => ?_)
  obtain ⟨g5, eg5, h⟩ := dz_lt h
  rw [← eg5] at hP hD
  have hP : va_P (dC, dI) classes [(o_Stacks, .inr (2, [.ref r_S_values, .int S_top, .ref r_S_bases, .ref r_S_floors, .ref r_S_returns, .ref r_S_closures, .int S_frames, .ref r_S_handlerFrames, .ref r_S_handlerPlaces, .ref r_S_handlerHeights, .ref r_S_handlerDepths, .int S_handlers])), (r_S_values, .inl (cL, n_S_values, .inr (.inl g5)))] H := hP
  have hD : va_D A [(o_Stacks, .inr (2, [.ref r_S_values, .int S_top, .ref r_S_bases, .ref r_S_floors, .ref r_S_returns, .ref r_S_closures, .int S_frames, .ref r_S_handlerFrames, .ref r_S_handlerPlaces, .ref r_S_handlerHeights, .ref r_S_handlerDepths, .int S_handlers])), (r_S_values, .inl (cL, n_S_values, .inr (.inl g5)))] := hD
  refine lv_iconst (v := 5) hx hb d_Stacks_swap_46 (by decide) ?_
  obtain rfl := Option.some.inj h
  have hP9 := hP.sub (ws' := [(o_Stacks, .inr (2, [.ref r_S_values, .int S_top, .ref r_S_bases, .ref r_S_floors, .ref r_S_returns, .ref r_S_closures, .int S_frames, .ref r_S_handlerFrames, .ref r_S_handlerPlaces, .ref r_S_handlerHeights, .ref r_S_handlerDepths, .int S_handlers])), (r_S_values, .inl (cL, n_S_values, .inr (.inl g5)))]) [0, 1] rfl
  have hD9 := hD.sub (ws' := [(o_Stacks, .inr (2, [.ref r_S_values, .int S_top, .ref r_S_bases, .ref r_S_floors, .ref r_S_returns, .ref r_S_closures, .int S_frames, .ref r_S_handlerFrames, .ref r_S_handlerPlaces, .ref r_S_handlerHeights, .ref r_S_handlerDepths, .int S_handlers])), (r_S_values, .inl (cL, n_S_values, .inr (.inl g5)))]) [0, 1] (by decide) rfl
  have hK9 := hK.sub (tys' := [(cL, .long)]) [0] rfl
  exact W.iret (v := 5) hx hb hr (fun t ht hW => ⟨⟨5, (), rfl, rfl, by rw [ht]; exact hP9, va_K.moved hW.alike hK9, hD9⟩, hS.F ht⟩) hS.2.2 d_Stacks_swap_47
