theorem d_Math_min_0 : decode b_Math_min 0 = .ok (.iload_n 0, 1) := by decide +kernel
theorem d_Math_min_1 : decode b_Math_min 1 = .ok (.iload_n 1, 1) := by decide +kernel
theorem d_Math_min_2 : decode b_Math_min 2 = .ok (.if_icmp .gt 7, 3) := by decide +kernel
theorem d_Math_min_5 : decode b_Math_min 5 = .ok (.iload_n 0, 1) := by decide +kernel
theorem d_Math_min_6 : decode b_Math_min 6 = .ok (.goto 4, 3) := by decide +kernel
theorem d_Math_min_9 : decode b_Math_min 9 = .ok (.iload_n 1, 1) := by decide +kernel
theorem d_Math_min_10 : decode b_Math_min 10 = .ok (.ireturn, 1) := by decide +kernel
theorem d_Math_max_0 : decode b_Math_max 0 = .ok (.iload_n 0, 1) := by decide +kernel
theorem d_Math_max_1 : decode b_Math_max 1 = .ok (.iload_n 1, 1) := by decide +kernel
theorem d_Math_max_2 : decode b_Math_max 2 = .ok (.if_icmp .lt 7, 3) := by decide +kernel
theorem d_Math_max_5 : decode b_Math_max 5 = .ok (.iload_n 0, 1) := by decide +kernel
theorem d_Math_max_6 : decode b_Math_max 6 = .ok (.goto 4, 3) := by decide +kernel
theorem d_Math_max_9 : decode b_Math_max 9 = .ok (.iload_n 1, 1) := by decide +kernel
theorem d_Math_max_10 : decode b_Math_max 10 = .ok (.ireturn, 1) := by decide +kernel
theorem d_Math_floorDiv_0 : decode b_Math_floorDiv 0 = .ok (.lload_n 0, 1) := by decide +kernel
theorem d_Math_floorDiv_1 : decode b_Math_floorDiv 1 = .ok (.lload_n 2, 1) := by decide +kernel
theorem d_Math_floorDiv_2 : decode b_Math_floorDiv 2 = .ok (.ldiv, 1) := by decide +kernel
theorem d_Math_floorDiv_3 : decode b_Math_floorDiv 3 = .ok (.lstore 4, 2) := by decide +kernel
theorem d_Math_floorDiv_5 : decode b_Math_floorDiv 5 = .ok (.lload_n 0, 1) := by decide +kernel
theorem d_Math_floorDiv_6 : decode b_Math_floorDiv 6 = .ok (.lload_n 2, 1) := by decide +kernel
theorem d_Math_floorDiv_7 : decode b_Math_floorDiv 7 = .ok (.lxor, 1) := by decide +kernel
theorem d_Math_floorDiv_8 : decode b_Math_floorDiv 8 = .ok (.lconst 0, 1) := by decide +kernel
theorem d_Math_floorDiv_9 : decode b_Math_floorDiv 9 = .ok (.lcmp, 1) := by decide +kernel
theorem d_Math_floorDiv_10 : decode b_Math_floorDiv 10 = .ok (.ifCond .ge 17, 3) := by decide +kernel
theorem d_Math_floorDiv_13 : decode b_Math_floorDiv 13 = .ok (.lload 4, 2) := by decide +kernel
theorem d_Math_floorDiv_15 : decode b_Math_floorDiv 15 = .ok (.lload_n 2, 1) := by decide +kernel
theorem d_Math_floorDiv_16 : decode b_Math_floorDiv 16 = .ok (.lmul, 1) := by decide +kernel
theorem d_Math_floorDiv_17 : decode b_Math_floorDiv 17 = .ok (.lload_n 0, 1) := by decide +kernel
theorem d_Math_floorDiv_18 : decode b_Math_floorDiv 18 = .ok (.lcmp, 1) := by decide +kernel
theorem d_Math_floorDiv_19 : decode b_Math_floorDiv 19 = .ok (.ifCond .eq 8, 3) := by decide +kernel
theorem d_Math_floorDiv_22 : decode b_Math_floorDiv 22 = .ok (.lload 4, 2) := by decide +kernel
theorem d_Math_floorDiv_24 : decode b_Math_floorDiv 24 = .ok (.lconst 1, 1) := by decide +kernel
theorem d_Math_floorDiv_25 : decode b_Math_floorDiv 25 = .ok (.lsub, 1) := by decide +kernel
theorem d_Math_floorDiv_26 : decode b_Math_floorDiv 26 = .ok (.lreturn, 1) := by decide +kernel
theorem d_Math_floorDiv_27 : decode b_Math_floorDiv 27 = .ok (.lload 4, 2) := by decide +kernel
theorem d_Math_floorDiv_29 : decode b_Math_floorDiv 29 = .ok (.lreturn, 1) := by decide +kernel
theorem d_Math_floorMod_0 : decode b_Math_floorMod 0 = .ok (.lload_n 0, 1) := by decide +kernel
theorem d_Math_floorMod_1 : decode b_Math_floorMod 1 = .ok (.lload_n 2, 1) := by decide +kernel
theorem d_Math_floorMod_2 : decode b_Math_floorMod 2 = .ok (.lrem, 1) := by decide +kernel
theorem d_Math_floorMod_3 : decode b_Math_floorMod 3 = .ok (.lstore 4, 2) := by decide +kernel
theorem d_Math_floorMod_5 : decode b_Math_floorMod 5 = .ok (.lload_n 0, 1) := by decide +kernel
theorem d_Math_floorMod_6 : decode b_Math_floorMod 6 = .ok (.lload_n 2, 1) := by decide +kernel
theorem d_Math_floorMod_7 : decode b_Math_floorMod 7 = .ok (.lxor, 1) := by decide +kernel
theorem d_Math_floorMod_8 : decode b_Math_floorMod 8 = .ok (.lconst 0, 1) := by decide +kernel
theorem d_Math_floorMod_9 : decode b_Math_floorMod 9 = .ok (.lcmp, 1) := by decide +kernel
theorem d_Math_floorMod_10 : decode b_Math_floorMod 10 = .ok (.ifCond .ge 15, 3) := by decide +kernel
theorem d_Math_floorMod_13 : decode b_Math_floorMod 13 = .ok (.lload 4, 2) := by decide +kernel
theorem d_Math_floorMod_15 : decode b_Math_floorMod 15 = .ok (.lconst 0, 1) := by decide +kernel
theorem d_Math_floorMod_16 : decode b_Math_floorMod 16 = .ok (.lcmp, 1) := by decide +kernel
theorem d_Math_floorMod_17 : decode b_Math_floorMod 17 = .ok (.ifCond .eq 8, 3) := by decide +kernel
theorem d_Math_floorMod_20 : decode b_Math_floorMod 20 = .ok (.lload 4, 2) := by decide +kernel
theorem d_Math_floorMod_22 : decode b_Math_floorMod 22 = .ok (.lload_n 2, 1) := by decide +kernel
theorem d_Math_floorMod_23 : decode b_Math_floorMod 23 = .ok (.ladd, 1) := by decide +kernel
theorem d_Math_floorMod_24 : decode b_Math_floorMod 24 = .ok (.lreturn, 1) := by decide +kernel
theorem d_Math_floorMod_25 : decode b_Math_floorMod 25 = .ok (.lload 4, 2) := by decide +kernel
theorem d_Math_floorMod_27 : decode b_Math_floorMod 27 = .ok (.lreturn, 1) := by decide +kernel
theorem d_Value_kind_0 : decode b_Value_kind 0 = .ok (.lload_n 0, 1) := by decide +kernel
theorem d_Value_kind_1 : decode b_Value_kind 1 = .ok (.l2i, 1) := by decide +kernel
theorem d_Value_kind_2 : decode b_Value_kind 2 = .ok (.bipush 7, 2) := by decide +kernel
theorem d_Value_kind_4 : decode b_Value_kind 4 = .ok (.iand, 1) := by decide +kernel
theorem d_Value_kind_5 : decode b_Value_kind 5 = .ok (.ireturn, 1) := by decide +kernel
theorem d_Value_number_0 : decode b_Value_number 0 = .ok (.lload_n 0, 1) := by decide +kernel
theorem d_Value_number_1 : decode b_Value_number 1 = .ok (.iconst 3, 1) := by decide +kernel
theorem d_Value_number_2 : decode b_Value_number 2 = .ok (.lshr, 1) := by decide +kernel
theorem d_Value_number_3 : decode b_Value_number 3 = .ok (.l2i, 1) := by decide +kernel
theorem d_Value_number_4 : decode b_Value_number 4 = .ok (.ireturn, 1) := by decide +kernel
theorem d_Value_scalar_0 : decode b_Value_scalar 0 = .ok (.iload_n 0, 1) := by decide +kernel
theorem d_Value_scalar_1 : decode b_Value_scalar 1 = .ok (.i2l, 1) := by decide +kernel
theorem d_Value_scalar_2 : decode b_Value_scalar 2 = .ok (.iconst 3, 1) := by decide +kernel
theorem d_Value_scalar_3 : decode b_Value_scalar 3 = .ok (.lshl, 1) := by decide +kernel
theorem d_Value_scalar_4 : decode b_Value_scalar 4 = .ok (.lreturn, 1) := by decide +kernel
theorem d_Value_truth_0 : decode b_Value_truth 0 = .ok (.iload_n 0, 1) := by decide +kernel
theorem d_Value_truth_1 : decode b_Value_truth 1 = .ok (.ifCond .eq 9, 3) := by decide +kernel
theorem d_Value_truth_4 : decode b_Value_truth 4 = .ok (.ldc2_w 9, 3) := by decide +kernel
theorem d_Value_truth_7 : decode b_Value_truth 7 = .ok (.goto 4, 3) := by decide +kernel
theorem d_Value_truth_10 : decode b_Value_truth 10 = .ok (.lconst 0, 1) := by decide +kernel
theorem d_Value_truth_11 : decode b_Value_truth 11 = .ok (.lreturn, 1) := by decide +kernel
theorem d_Value_object_0 : decode b_Value_object 0 = .ok (.iload_n 1, 1) := by decide +kernel
theorem d_Value_object_1 : decode b_Value_object 1 = .ok (.i2l, 1) := by decide +kernel
theorem d_Value_object_2 : decode b_Value_object 2 = .ok (.iconst 3, 1) := by decide +kernel
theorem d_Value_object_3 : decode b_Value_object 3 = .ok (.lshl, 1) := by decide +kernel
theorem d_Value_object_4 : decode b_Value_object 4 = .ok (.iload_n 0, 1) := by decide +kernel
theorem d_Value_object_5 : decode b_Value_object 5 = .ok (.i2l, 1) := by decide +kernel
theorem d_Value_object_6 : decode b_Value_object 6 = .ok (.lor, 1) := by decide +kernel
theorem d_Value_object_7 : decode b_Value_object 7 = .ok (.lreturn, 1) := by decide +kernel
theorem d_Value_head_0 : decode b_Value_head 0 = .ok (.iload_n 2, 1) := by decide +kernel
theorem d_Value_head_1 : decode b_Value_head 1 = .ok (.i2l, 1) := by decide +kernel
theorem d_Value_head_2 : decode b_Value_head 2 = .ok (.bipush 35, 2) := by decide +kernel
theorem d_Value_head_4 : decode b_Value_head 4 = .ok (.lshl, 1) := by decide +kernel
theorem d_Value_head_5 : decode b_Value_head 5 = .ok (.iload_n 1, 1) := by decide +kernel
theorem d_Value_head_6 : decode b_Value_head 6 = .ok (.i2l, 1) := by decide +kernel
theorem d_Value_head_7 : decode b_Value_head 7 = .ok (.ldc2_w 11, 3) := by decide +kernel
theorem d_Value_head_10 : decode b_Value_head 10 = .ok (.land, 1) := by decide +kernel
theorem d_Value_head_11 : decode b_Value_head 11 = .ok (.iconst 3, 1) := by decide +kernel
theorem d_Value_head_12 : decode b_Value_head 12 = .ok (.lshl, 1) := by decide +kernel
theorem d_Value_head_13 : decode b_Value_head 13 = .ok (.lor, 1) := by decide +kernel
theorem d_Value_head_14 : decode b_Value_head 14 = .ok (.iload_n 0, 1) := by decide +kernel
theorem d_Value_head_15 : decode b_Value_head 15 = .ok (.i2l, 1) := by decide +kernel
theorem d_Value_head_16 : decode b_Value_head 16 = .ok (.lor, 1) := by decide +kernel
theorem d_Value_head_17 : decode b_Value_head 17 = .ok (.lreturn, 1) := by decide +kernel
theorem d_Value_withKind_0 : decode b_Value_withKind 0 = .ok (.lload_n 0, 1) := by decide +kernel
theorem d_Value_withKind_1 : decode b_Value_withKind 1 = .ok (.ldc2_w 13, 3) := by decide +kernel
theorem d_Value_withKind_4 : decode b_Value_withKind 4 = .ok (.land, 1) := by decide +kernel
theorem d_Value_withKind_5 : decode b_Value_withKind 5 = .ok (.iload_n 2, 1) := by decide +kernel
theorem d_Value_withKind_6 : decode b_Value_withKind 6 = .ok (.i2l, 1) := by decide +kernel
theorem d_Value_withKind_7 : decode b_Value_withKind 7 = .ok (.lor, 1) := by decide +kernel
theorem d_Value_withKind_8 : decode b_Value_withKind 8 = .ok (.lreturn, 1) := by decide +kernel
theorem d_Value_cellsOfString_0 : decode b_Value_cellsOfString 0 = .ok (.iconst 1, 1) := by decide +kernel
theorem d_Value_cellsOfString_1 : decode b_Value_cellsOfString 1 = .ok (.iload_n 0, 1) := by decide +kernel
theorem d_Value_cellsOfString_2 : decode b_Value_cellsOfString 2 = .ok (.iconst 3, 1) := by decide +kernel
theorem d_Value_cellsOfString_3 : decode b_Value_cellsOfString 3 = .ok (.iadd, 1) := by decide +kernel
theorem d_Value_cellsOfString_4 : decode b_Value_cellsOfString 4 = .ok (.iconst 4, 1) := by decide +kernel
theorem d_Value_cellsOfString_5 : decode b_Value_cellsOfString 5 = .ok (.idiv, 1) := by decide +kernel
theorem d_Value_cellsOfString_6 : decode b_Value_cellsOfString 6 = .ok (.iadd, 1) := by decide +kernel
theorem d_Value_cellsOfString_7 : decode b_Value_cellsOfString 7 = .ok (.ireturn, 1) := by decide +kernel
theorem d_Status_isDone_0 : decode b_Status_isDone 0 = .ok (.iload_n 0, 1) := by decide +kernel
theorem d_Status_isDone_1 : decode b_Status_isDone 1 = .ok (.iconst 5, 1) := by decide +kernel
theorem d_Status_isDone_2 : decode b_Status_isDone 2 = .ok (.if_icmp .eq 12, 3) := by decide +kernel
theorem d_Status_isDone_5 : decode b_Status_isDone 5 = .ok (.iload_n 0, 1) := by decide +kernel
theorem d_Status_isDone_6 : decode b_Status_isDone 6 = .ok (.ifCond .eq 8, 3) := by decide +kernel
theorem d_Status_isDone_9 : decode b_Status_isDone 9 = .ok (.iload_n 0, 1) := by decide +kernel
theorem d_Status_isDone_10 : decode b_Status_isDone 10 = .ok (.iconst 1, 1) := by decide +kernel
theorem d_Status_isDone_11 : decode b_Status_isDone 11 = .ok (.if_icmp .ne 7, 3) := by decide +kernel
theorem d_Status_isDone_14 : decode b_Status_isDone 14 = .ok (.iconst 1, 1) := by decide +kernel
theorem d_Status_isDone_15 : decode b_Status_isDone 15 = .ok (.goto 4, 3) := by decide +kernel
theorem d_Status_isDone_18 : decode b_Status_isDone 18 = .ok (.iconst 0, 1) := by decide +kernel
theorem d_Status_isDone_19 : decode b_Status_isDone 19 = .ok (.ireturn, 1) := by decide +kernel
theorem d_Engine_longer_0 : decode b_Engine_longer 0 = .ok (.iload_n 2, 1) := by decide +kernel
theorem d_Engine_longer_1 : decode b_Engine_longer 1 = .ok (.iload_n 1, 1) := by decide +kernel
theorem d_Engine_longer_2 : decode b_Engine_longer 2 = .ok (.iconst 2, 1) := by decide +kernel
theorem d_Engine_longer_3 : decode b_Engine_longer 3 = .ok (.iload_n 0, 1) := by decide +kernel
theorem d_Engine_longer_4 : decode b_Engine_longer 4 = .ok (.imul, 1) := by decide +kernel
theorem d_Engine_longer_5 : decode b_Engine_longer 5 = .ok (.invokestatic 143, 3) := by decide +kernel
theorem d_Engine_longer_8 : decode b_Engine_longer 8 = .ok (.invokestatic 148, 3) := by decide +kernel
theorem d_Engine_longer_11 : decode b_Engine_longer 11 = .ok (.ireturn, 1) := by decide +kernel
theorem k1 : Cond.constantLong R_Value 9 8 ∈ lw_g := kg (List.mem_append_right _ (List.mem_of_getElem? (i := 761) (by decide +kernel))) rfl
theorem k2 : Cond.constantLong R_Value 11 4294967295 ∈ lw_g := kg (List.mem_append_right _ (List.mem_of_getElem? (i := 538) (by decide +kernel))) rfl
theorem k3 : Cond.constantLong R_Value 13 (-8) ∈ lw_g := kg (List.mem_append_right _ (List.mem_of_getElem? (i := 749) (by decide +kernel))) rfl
theorem k4 : Cond.code y_Math_max b_Math_max 2 (some .int) ∈ lw_g := kg (List.mem_append_right _ (List.mem_of_getElem? (i := 358) (by decide +kernel))) rfl
theorem k5 : Cond.methodLink R_Engine 143 y_Math_max ∈ lw_g := kg (List.mem_append_right _ (List.mem_of_getElem? (i := 356) (by decide +kernel))) rfl
theorem k6 : Cond.static y_Math_max ∈ lw_g := kg (List.mem_append_right _ (List.mem_of_getElem? (i := 357) (by decide +kernel))) rfl
theorem k7 : Cond.initialized R_Math ∈ lw_g := kg (List.mem_append_right _ (List.mem_of_getElem? (i := 12) (by decide +kernel))) rfl
theorem k8 : Cond.code y_Math_min b_Math_min 2 (some .int) ∈ lw_g := kg (List.mem_append_right _ (List.mem_of_getElem? (i := 361) (by decide +kernel))) rfl
theorem k9 : Cond.methodLink R_Engine 148 y_Math_min ∈ lw_g := kg (List.mem_append_right _ (List.mem_of_getElem? (i := 359) (by decide +kernel))) rfl
theorem k10 : Cond.static y_Math_min ∈ lw_g := kg (List.mem_append_right _ (List.mem_of_getElem? (i := 360) (by decide +kernel))) rfl
set_option maxHeartbeats 4000000 in
set_option maxRecDepth 100000 in
theorem c_Math_min (l : Launch) (dC : Nat → ClassId) (dI : Nat → Nat → Nat) (N : Nat) (p0 : Int32) (p1 : Int32) (z : Int32) (h : m_Math_min N p0 p1 = some z) : Met l y_Math_min (.code y_Math_min b_Math_min 2 (some .int) :: lw_g) ({ frames := 0, cells := 0, slots := 0, locals := 0 }) (va_Pc [.int p0, .int p1] (fun U => dz_N U ∧ va_P (dC, dI) classes [] U.heap ∧ va_K (dC, dI) classes [] U)) (vp_Si (fun r => r = z)) 0 0 (fun _ => False) := by
  refine va_MetF (cc := b_Math_min) (maxL := 2) (ret := (some .int)) (by decide +kernel) rfl ?_
  intro p e s m args below meth c s₁ B hml hv
  obtain ⟨rfl, hN, hP, hK⟩ := hv
  have hx := B.exec
  have hb := B.bytes
  have hr := B.returns
  have hg : ∀ w ∈ lw_g, w.before _ s = true := fun w hw => atoms_spec (ws := .code y_Math_min b_Math_min 2 (some .int) :: lw_g) B.pre w (List.mem_cons_of_mem _ hw)
  have hown : s.vm.findClass R_Math = some m.cls := findClass_of_methodNamed B.named
  have hlocks := B.notSynchronized
  clear B
  have hP : va_P (dC, dI) classes [] s.heap := hP
  have hl := lv_entry ([.int p0, .int p1]) (n := 2) (Nat.le_of_ble_eq_true rfl)
  rw [lg_entry_eq]
  generalize (lg_sl ([.int p0, .int p1]) ++ List.replicate (2 - (lg_sl ([.int p0, .int p1])).length) Slot.unset).toArray = ls at hl ⊢
  have hl : lv_has ls 2 [(0, .int p0), (1, .int p1)] := hl
  unfold m_Math_min at h
  refine lv_iload_n hx hb d_Math_min_0 rfl (lv_at hl 0 rfl) ?_
  refine lv_iload_n hx hb d_Math_min_1 rfl (lv_at hl 1 rfl) ?_
  refine lv_icmp_gt (tgt := 9) hx hb d_Math_min_2 (by decide) (fun c1 => ?_) (fun c1 => ?_)
  · rw [if_pos c1] at h
    refine lv_iload_n hx hb d_Math_min_9 rfl (lv_at hl 1 rfl) ?_
    obtain rfl := Option.some.inj h
    exact W.iret (v := p1) hx hb hr (fun t ht hW => ⟨_, rfl, rfl, ht⟩) (fun _ h => by cases h) d_Math_min_10
  · rw [if_neg c1] at h
    refine lv_iload_n hx hb d_Math_min_5 rfl (lv_at hl 0 rfl) ?_
    refine lv_goto (tgt := 10) hx hb d_Math_min_6 (by decide) ?_
    obtain rfl := Option.some.inj h
    exact W.iret (v := p0) hx hb hr (fun t ht hW => ⟨_, rfl, rfl, ht⟩) (fun _ h => by cases h) d_Math_min_10

set_option maxHeartbeats 4000000 in
set_option maxRecDepth 100000 in
theorem c_Math_max (l : Launch) (dC : Nat → ClassId) (dI : Nat → Nat → Nat) (N : Nat) (p0 : Int32) (p1 : Int32) (z : Int32) (h : m_Math_max N p0 p1 = some z) : Met l y_Math_max (.code y_Math_max b_Math_max 2 (some .int) :: lw_g) ({ frames := 0, cells := 0, slots := 0, locals := 0 }) (va_Pc [.int p0, .int p1] (fun U => dz_N U ∧ va_P (dC, dI) classes [] U.heap ∧ va_K (dC, dI) classes [] U)) (vp_Si (fun r => r = z)) 0 0 (fun _ => False) := by
  refine va_MetF (cc := b_Math_max) (maxL := 2) (ret := (some .int)) (by decide +kernel) rfl ?_
  intro p e s m args below meth c s₁ B hml hv
  obtain ⟨rfl, hN, hP, hK⟩ := hv
  have hx := B.exec
  have hb := B.bytes
  have hr := B.returns
  have hg : ∀ w ∈ lw_g, w.before _ s = true := fun w hw => atoms_spec (ws := .code y_Math_max b_Math_max 2 (some .int) :: lw_g) B.pre w (List.mem_cons_of_mem _ hw)
  have hown : s.vm.findClass R_Math = some m.cls := findClass_of_methodNamed B.named
  have hlocks := B.notSynchronized
  clear B
  have hP : va_P (dC, dI) classes [] s.heap := hP
  have hl := lv_entry ([.int p0, .int p1]) (n := 2) (Nat.le_of_ble_eq_true rfl)
  rw [lg_entry_eq]
  generalize (lg_sl ([.int p0, .int p1]) ++ List.replicate (2 - (lg_sl ([.int p0, .int p1])).length) Slot.unset).toArray = ls at hl ⊢
  have hl : lv_has ls 2 [(0, .int p0), (1, .int p1)] := hl
  unfold m_Math_max at h
  refine lv_iload_n hx hb d_Math_max_0 rfl (lv_at hl 0 rfl) ?_
  refine lv_iload_n hx hb d_Math_max_1 rfl (lv_at hl 1 rfl) ?_
  refine lv_icmp_lt (tgt := 9) hx hb d_Math_max_2 (by decide) (fun c1 => ?_) (fun c1 => ?_)
  · rw [if_pos c1] at h
    refine lv_iload_n hx hb d_Math_max_9 rfl (lv_at hl 1 rfl) ?_
    obtain rfl := Option.some.inj h
    exact W.iret (v := p1) hx hb hr (fun t ht hW => ⟨_, rfl, rfl, ht⟩) (fun _ h => by cases h) d_Math_max_10
  · rw [if_neg c1] at h
    refine lv_iload_n hx hb d_Math_max_5 rfl (lv_at hl 0 rfl) ?_
    refine lv_goto (tgt := 10) hx hb d_Math_max_6 (by decide) ?_
    obtain rfl := Option.some.inj h
    exact W.iret (v := p0) hx hb hr (fun t ht hW => ⟨_, rfl, rfl, ht⟩) (fun _ h => by cases h) d_Math_max_10

set_option maxHeartbeats 4000000 in
set_option maxRecDepth 100000 in
theorem c_Math_floorDiv (l : Launch) (dC : Nat → ClassId) (dI : Nat → Nat → Nat) (N : Nat) (p0 : Int64) (p1 : Int64) (z : Int64) (h : m_Math_floorDiv N p0 p1 = some z) : Met l y_Math_floorDiv (.code y_Math_floorDiv b_Math_floorDiv 6 (some .long) :: lw_g) ({ frames := 0, cells := 0, slots := 0, locals := 0 }) (va_Pc [.long p0, .long p1] (fun U => dz_N U ∧ va_P (dC, dI) classes [] U.heap ∧ va_K (dC, dI) classes [] U)) (vp_Sl (fun r => r = z)) 0 0 (fun _ => False) := by
  refine va_MetF (cc := b_Math_floorDiv) (maxL := 6) (ret := (some .long)) (by decide +kernel) rfl ?_
  intro p e s m args below meth c s₁ B hml hv
  obtain ⟨rfl, hN, hP, hK⟩ := hv
  have hx := B.exec
  have hb := B.bytes
  have hr := B.returns
  have hg : ∀ w ∈ lw_g, w.before _ s = true := fun w hw => atoms_spec (ws := .code y_Math_floorDiv b_Math_floorDiv 6 (some .long) :: lw_g) B.pre w (List.mem_cons_of_mem _ hw)
  have hown : s.vm.findClass R_Math = some m.cls := findClass_of_methodNamed B.named
  have hlocks := B.notSynchronized
  clear B
  have hP : va_P (dC, dI) classes [] s.heap := hP
  have hl := lv_entry ([.long p0, .long p1]) (n := 6) (Nat.le_of_ble_eq_true rfl)
  rw [lg_entry_eq]
  generalize (lg_sl ([.long p0, .long p1]) ++ List.replicate (6 - (lg_sl ([.long p0, .long p1])).length) Slot.unset).toArray = ls at hl ⊢
  have hl : lv_has ls 6 [(0, .long p0), (2, .long p1)] := hl
  unfold m_Math_floorDiv at h
  refine lv_lload_n hx hb d_Math_floorDiv_0 rfl (lv_at hl 0 rfl) ?_
  refine lv_lload_n hx hb d_Math_floorDiv_1 rfl (lv_at hl 1 rfl) ?_
  obtain ⟨i1, h⟩ := dz_oi h
  refine lv_ldiv hx hb d_Math_floorDiv_2 i1 ?_
  refine lv_lstore (lv' := [(4, .long (p0 / p1)), (0, .long p0), (2, .long p1)]) hx hb d_Math_floorDiv_3 hl (by decide) rfl (fun ls hl => ?_)
  refine lv_lload_n hx hb d_Math_floorDiv_5 rfl (lv_at hl 1 rfl) ?_
  refine lv_lload_n hx hb d_Math_floorDiv_6 rfl (lv_at hl 2 rfl) ?_
  refine lv_lxor hx hb d_Math_floorDiv_7 ?_
  refine lv_lconst (v := 0) hx hb d_Math_floorDiv_8 (by decide) ?_
  refine W.lcmp hx hb d_Math_floorDiv_9 ?_
  refine lv_if_ge (tgt := 27) hx hb d_Math_floorDiv_10 (by decide) (fun c2 => ?_) (fun c2 => ?_)
  · rw [if_pos c2] at h
    refine lv_lload hx hb d_Math_floorDiv_27 (lv_at hl 0 rfl) ?_
    obtain rfl := Option.some.inj h
    exact W.lret (v := p0 / p1) hx hb hr (fun t ht hW => ⟨_, rfl, rfl, ht⟩) (fun _ h => by cases h) d_Math_floorDiv_29
  · rw [if_neg c2] at h
    refine lv_lload hx hb d_Math_floorDiv_13 (lv_at hl 0 rfl) ?_
    refine lv_lload_n hx hb d_Math_floorDiv_15 rfl (lv_at hl 2 rfl) ?_
    refine lv_lmul hx hb d_Math_floorDiv_16 ?_
    refine lv_lload_n hx hb d_Math_floorDiv_17 rfl (lv_at hl 1 rfl) ?_
    refine W.lcmp hx hb d_Math_floorDiv_18 ?_
    refine lv_if_eq (tgt := 27) hx hb d_Math_floorDiv_19 (by decide) (fun c3 => ?_) (fun c3 => ?_)
    · rw [if_pos c3] at h
      refine lv_lload hx hb d_Math_floorDiv_27 (lv_at hl 0 rfl) ?_
      obtain rfl := Option.some.inj h
      exact W.lret (v := p0 / p1) hx hb hr (fun t ht hW => ⟨_, rfl, rfl, ht⟩) (fun _ h => by cases h) d_Math_floorDiv_29
    · rw [if_neg c3] at h
      refine lv_lload hx hb d_Math_floorDiv_22 (lv_at hl 0 rfl) ?_
      refine lv_lconst (v := 1) hx hb d_Math_floorDiv_24 (by decide) ?_
      refine lv_lsub hx hb d_Math_floorDiv_25 ?_
      obtain rfl := Option.some.inj h
      exact W.lret (v := (p0 / p1) - 1) hx hb hr (fun t ht hW => ⟨_, rfl, rfl, ht⟩) (fun _ h => by cases h) d_Math_floorDiv_26

set_option maxHeartbeats 4000000 in
set_option maxRecDepth 100000 in
theorem c_Math_floorMod (l : Launch) (dC : Nat → ClassId) (dI : Nat → Nat → Nat) (N : Nat) (p0 : Int64) (p1 : Int64) (z : Int64) (h : m_Math_floorMod N p0 p1 = some z) : Met l y_Math_floorMod (.code y_Math_floorMod b_Math_floorMod 6 (some .long) :: lw_g) ({ frames := 0, cells := 0, slots := 0, locals := 0 }) (va_Pc [.long p0, .long p1] (fun U => dz_N U ∧ va_P (dC, dI) classes [] U.heap ∧ va_K (dC, dI) classes [] U)) (vp_Sl (fun r => r = z)) 0 0 (fun _ => False) := by
  refine va_MetF (cc := b_Math_floorMod) (maxL := 6) (ret := (some .long)) (by decide +kernel) rfl ?_
  intro p e s m args below meth c s₁ B hml hv
  obtain ⟨rfl, hN, hP, hK⟩ := hv
  have hx := B.exec
  have hb := B.bytes
  have hr := B.returns
  have hg : ∀ w ∈ lw_g, w.before _ s = true := fun w hw => atoms_spec (ws := .code y_Math_floorMod b_Math_floorMod 6 (some .long) :: lw_g) B.pre w (List.mem_cons_of_mem _ hw)
  have hown : s.vm.findClass R_Math = some m.cls := findClass_of_methodNamed B.named
  have hlocks := B.notSynchronized
  clear B
  have hP : va_P (dC, dI) classes [] s.heap := hP
  have hl := lv_entry ([.long p0, .long p1]) (n := 6) (Nat.le_of_ble_eq_true rfl)
  rw [lg_entry_eq]
  generalize (lg_sl ([.long p0, .long p1]) ++ List.replicate (6 - (lg_sl ([.long p0, .long p1])).length) Slot.unset).toArray = ls at hl ⊢
  have hl : lv_has ls 6 [(0, .long p0), (2, .long p1)] := hl
  unfold m_Math_floorMod at h
  refine lv_lload_n hx hb d_Math_floorMod_0 rfl (lv_at hl 0 rfl) ?_
  refine lv_lload_n hx hb d_Math_floorMod_1 rfl (lv_at hl 1 rfl) ?_
  obtain ⟨i1, h⟩ := dz_oi h
  refine lv_lrem hx hb d_Math_floorMod_2 i1 ?_
  refine lv_lstore (lv' := [(4, .long (p0 - p0 / p1 * p1)), (0, .long p0), (2, .long p1)]) hx hb d_Math_floorMod_3 hl (by decide) rfl (fun ls hl => ?_)
  refine lv_lload_n hx hb d_Math_floorMod_5 rfl (lv_at hl 1 rfl) ?_
  refine lv_lload_n hx hb d_Math_floorMod_6 rfl (lv_at hl 2 rfl) ?_
  refine lv_lxor hx hb d_Math_floorMod_7 ?_
  refine lv_lconst (v := 0) hx hb d_Math_floorMod_8 (by decide) ?_
  refine W.lcmp hx hb d_Math_floorMod_9 ?_
  refine lv_if_ge (tgt := 25) hx hb d_Math_floorMod_10 (by decide) (fun c2 => ?_) (fun c2 => ?_)
  · rw [if_pos c2] at h
    refine lv_lload hx hb d_Math_floorMod_25 (lv_at hl 0 rfl) ?_
    obtain rfl := Option.some.inj h
    exact W.lret (v := p0 - p0 / p1 * p1) hx hb hr (fun t ht hW => ⟨_, rfl, rfl, ht⟩) (fun _ h => by cases h) d_Math_floorMod_27
  · rw [if_neg c2] at h
    refine lv_lload hx hb d_Math_floorMod_13 (lv_at hl 0 rfl) ?_
    refine lv_lconst (v := 0) hx hb d_Math_floorMod_15 (by decide) ?_
    refine W.lcmp hx hb d_Math_floorMod_16 ?_
    refine lv_if_eq (tgt := 25) hx hb d_Math_floorMod_17 (by decide) (fun c3 => ?_) (fun c3 => ?_)
    · rw [if_pos c3] at h
      refine lv_lload hx hb d_Math_floorMod_25 (lv_at hl 0 rfl) ?_
      obtain rfl := Option.some.inj h
      exact W.lret (v := p0 - p0 / p1 * p1) hx hb hr (fun t ht hW => ⟨_, rfl, rfl, ht⟩) (fun _ h => by cases h) d_Math_floorMod_27
    · rw [if_neg c3] at h
      refine lv_lload hx hb d_Math_floorMod_20 (lv_at hl 0 rfl) ?_
      refine lv_lload_n hx hb d_Math_floorMod_22 rfl (lv_at hl 2 rfl) ?_
      refine lv_ladd hx hb d_Math_floorMod_23 ?_
      obtain rfl := Option.some.inj h
      exact W.lret (v := (p0 - p0 / p1 * p1) + p1) hx hb hr (fun t ht hW => ⟨_, rfl, rfl, ht⟩) (fun _ h => by cases h) d_Math_floorMod_24

set_option maxHeartbeats 4000000 in
set_option maxRecDepth 100000 in
theorem c_Value_kind (l : Launch) (dC : Nat → ClassId) (dI : Nat → Nat → Nat) (N : Nat) (p0 : Int64) (z : Int32) (h : m_Value_kind N p0 = some z) : Met l y_Value_kind (.code y_Value_kind b_Value_kind 2 (some .int) :: lw_g) ({ frames := 0, cells := 0, slots := 0, locals := 0 }) (va_Pc [.long p0] (fun U => dz_N U ∧ va_P (dC, dI) classes [] U.heap ∧ va_K (dC, dI) classes [] U)) (vp_Si (fun r => r = z)) 0 0 (fun _ => False) := by
  refine Met.ofW (cc := b_Value_kind) (maxL := 2) (ret := (some .int)) (by decide +kernel) rfl ?_
  intro p e s m args below meth c s₁ B hml hv
  obtain ⟨rfl, hN, hP, hK⟩ := hv
  have hx := B.exec
  have hb := B.bytes
  have hr := B.returns
  have hg : ∀ w ∈ lw_g, w.before _ s = true := fun w hw => atoms_spec (ws := .code y_Value_kind b_Value_kind 2 (some .int) :: lw_g) B.pre w (List.mem_cons_of_mem _ hw)
  have hown : s.vm.findClass R_Value = some m.cls := findClass_of_methodNamed B.named
  have hlocks := B.notSynchronized
  clear B
  have hP : va_P (dC, dI) classes [] s.heap := hP
  have hl := lv_entry ([.long p0]) (n := 2) (Nat.le_of_ble_eq_true rfl)
  rw [lg_entry_eq]
  generalize (lg_sl ([.long p0]) ++ List.replicate (2 - (lg_sl ([.long p0])).length) Slot.unset).toArray = ls at hl ⊢
  have hl : lv_has ls 2 [(0, .long p0)] := hl
  unfold m_Value_kind at h
  refine lv_lload_n hx hb d_Value_kind_0 rfl (lv_at hl 0 rfl) ?_
  refine lv_l2i (v := p0.toInt32) hx hb d_Value_kind_1 rfl ?_
  refine lv_bipush (v := 7) hx hb d_Value_kind_2 (by decide) ?_
  refine lv_iand hx hb d_Value_kind_4 ?_
  obtain rfl := Option.some.inj h
  exact W.iret (v := p0.toInt32 &&& 7) hx hb hr (fun t ht hW => ⟨_, rfl, rfl, ht⟩) (fun _ h => by cases h) d_Value_kind_5

set_option maxHeartbeats 4000000 in
set_option maxRecDepth 100000 in
theorem c_Value_number (l : Launch) (dC : Nat → ClassId) (dI : Nat → Nat → Nat) (N : Nat) (p0 : Int64) (z : Int32) (h : m_Value_number N p0 = some z) : Met l y_Value_number (.code y_Value_number b_Value_number 2 (some .int) :: lw_g) ({ frames := 0, cells := 0, slots := 0, locals := 0 }) (va_Pc [.long p0] (fun U => dz_N U ∧ va_P (dC, dI) classes [] U.heap ∧ va_K (dC, dI) classes [] U)) (vp_Si (fun r => r = z)) 0 0 (fun _ => False) := by
  refine Met.ofW (cc := b_Value_number) (maxL := 2) (ret := (some .int)) (by decide +kernel) rfl ?_
  intro p e s m args below meth c s₁ B hml hv
  obtain ⟨rfl, hN, hP, hK⟩ := hv
  have hx := B.exec
  have hb := B.bytes
  have hr := B.returns
  have hg : ∀ w ∈ lw_g, w.before _ s = true := fun w hw => atoms_spec (ws := .code y_Value_number b_Value_number 2 (some .int) :: lw_g) B.pre w (List.mem_cons_of_mem _ hw)
  have hown : s.vm.findClass R_Value = some m.cls := findClass_of_methodNamed B.named
  have hlocks := B.notSynchronized
  clear B
  have hP : va_P (dC, dI) classes [] s.heap := hP
  have hl := lv_entry ([.long p0]) (n := 2) (Nat.le_of_ble_eq_true rfl)
  rw [lg_entry_eq]
  generalize (lg_sl ([.long p0]) ++ List.replicate (2 - (lg_sl ([.long p0])).length) Slot.unset).toArray = ls at hl ⊢
  have hl : lv_has ls 2 [(0, .long p0)] := hl
  unfold m_Value_number at h
  refine lv_lload_n hx hb d_Value_number_0 rfl (lv_at hl 0 rfl) ?_
  refine lv_iconst (v := 3) hx hb d_Value_number_1 (by decide) ?_
  refine lv_lshr (v := p0 >>> ((3 : Int32).toInt64 &&& 63)) hx hb d_Value_number_2 rfl ?_
  refine lv_l2i (v := (p0 >>> ((3 : Int32).toInt64 &&& 63)).toInt32) hx hb d_Value_number_3 rfl ?_
  obtain rfl := Option.some.inj h
  exact W.iret (v := (p0 >>> ((3 : Int32).toInt64 &&& 63)).toInt32) hx hb hr (fun t ht hW => ⟨_, rfl, rfl, ht⟩) (fun _ h => by cases h) d_Value_number_4

set_option maxHeartbeats 4000000 in
set_option maxRecDepth 100000 in
theorem c_Value_scalar (l : Launch) (dC : Nat → ClassId) (dI : Nat → Nat → Nat) (N : Nat) (p0 : Int32) (z : Int64) (h : m_Value_scalar N p0 = some z) : Met l y_Value_scalar (.code y_Value_scalar b_Value_scalar 1 (some .long) :: lw_g) ({ frames := 0, cells := 0, slots := 0, locals := 0 }) (va_Pc [.int p0] (fun U => dz_N U ∧ va_P (dC, dI) classes [] U.heap ∧ va_K (dC, dI) classes [] U)) (vp_Sl (fun r => r = z)) 0 0 (fun _ => False) := by
  refine Met.ofW (cc := b_Value_scalar) (maxL := 1) (ret := (some .long)) (by decide +kernel) rfl ?_
  intro p e s m args below meth c s₁ B hml hv
  obtain ⟨rfl, hN, hP, hK⟩ := hv
  have hx := B.exec
  have hb := B.bytes
  have hr := B.returns
  have hg : ∀ w ∈ lw_g, w.before _ s = true := fun w hw => atoms_spec (ws := .code y_Value_scalar b_Value_scalar 1 (some .long) :: lw_g) B.pre w (List.mem_cons_of_mem _ hw)
  have hown : s.vm.findClass R_Value = some m.cls := findClass_of_methodNamed B.named
  have hlocks := B.notSynchronized
  clear B
  have hP : va_P (dC, dI) classes [] s.heap := hP
  have hl := lv_entry ([.int p0]) (n := 1) (Nat.le_of_ble_eq_true rfl)
  rw [lg_entry_eq]
  generalize (lg_sl ([.int p0]) ++ List.replicate (1 - (lg_sl ([.int p0])).length) Slot.unset).toArray = ls at hl ⊢
  have hl : lv_has ls 1 [(0, .int p0)] := hl
  unfold m_Value_scalar at h
  refine lv_iload_n hx hb d_Value_scalar_0 rfl (lv_at hl 0 rfl) ?_
  refine lv_i2l (v := p0.toInt64) hx hb d_Value_scalar_1 rfl ?_
  refine lv_iconst (v := 3) hx hb d_Value_scalar_2 (by decide) ?_
  refine lv_lshl (v := p0.toInt64 <<< ((3 : Int32).toInt64 &&& 63)) hx hb d_Value_scalar_3 rfl ?_
  obtain rfl := Option.some.inj h
  exact W.lret (v := p0.toInt64 <<< ((3 : Int32).toInt64 &&& 63)) hx hb hr (fun t ht hW => ⟨_, rfl, rfl, ht⟩) (fun _ h => by cases h) d_Value_scalar_4

set_option maxHeartbeats 4000000 in
set_option maxRecDepth 100000 in
theorem c_Value_truth (l : Launch) (dC : Nat → ClassId) (dI : Nat → Nat → Nat) (N : Nat) (p0 : Int32) (z : Int64) (h : m_Value_truth N p0 = some z) : Met l y_Value_truth (.code y_Value_truth b_Value_truth 1 (some .long) :: lw_g) ({ frames := 0, cells := 0, slots := 0, locals := 0 }) (va_Pc [.int p0] (fun U => dz_N U ∧ va_P (dC, dI) classes [] U.heap ∧ va_K (dC, dI) classes [] U)) (vp_Sl (fun r => r = z)) 0 0 (fun _ => False) := by
  refine Met.ofW (cc := b_Value_truth) (maxL := 1) (ret := (some .long)) (by decide +kernel) rfl ?_
  intro p e s m args below meth c s₁ B hml hv
  obtain ⟨rfl, hN, hP, hK⟩ := hv
  have hx := B.exec
  have hb := B.bytes
  have hr := B.returns
  have hg : ∀ w ∈ lw_g, w.before _ s = true := fun w hw => atoms_spec (ws := .code y_Value_truth b_Value_truth 1 (some .long) :: lw_g) B.pre w (List.mem_cons_of_mem _ hw)
  have hown : s.vm.findClass R_Value = some m.cls := findClass_of_methodNamed B.named
  have hlocks := B.notSynchronized
  clear B
  have hP : va_P (dC, dI) classes [] s.heap := hP
  have hl := lv_entry ([.int p0]) (n := 1) (Nat.le_of_ble_eq_true rfl)
  rw [lg_entry_eq]
  generalize (lg_sl ([.int p0]) ++ List.replicate (1 - (lg_sl ([.int p0])).length) Slot.unset).toArray = ls at hl ⊢
  have hl : lv_has ls 1 [(0, .int p0)] := hl
  unfold m_Value_truth at h
  refine lv_iload_n hx hb d_Value_truth_0 rfl (lv_at hl 0 rfl) ?_
  refine lv_if_eq (tgt := 10) hx hb d_Value_truth_1 (by decide) (fun c1 => ?_) (fun c1 => ?_)
  · rw [if_pos c1] at h
    refine lv_lconst (v := 0) hx hb d_Value_truth_10 (by decide) ?_
    obtain rfl := Option.some.inj h
    exact W.lret (v := 0) hx hb hr (fun t ht hW => ⟨_, rfl, rfl, ht⟩) (fun _ h => by cases h) d_Value_truth_11
  · rw [if_neg c1] at h
    refine lv_ldc2 (v := 8) hx hb hown (hg _ k1) d_Value_truth_4 ?_
    refine lv_goto (tgt := 11) hx hb d_Value_truth_7 (by decide) ?_
    obtain rfl := Option.some.inj h
    exact W.lret (v := 8) hx hb hr (fun t ht hW => ⟨_, rfl, rfl, ht⟩) (fun _ h => by cases h) d_Value_truth_11

set_option maxHeartbeats 4000000 in
set_option maxRecDepth 100000 in
theorem c_Value_object (l : Launch) (dC : Nat → ClassId) (dI : Nat → Nat → Nat) (N : Nat) (p0 : Int32) (p1 : Int32) (z : Int64) (h : m_Value_object N p0 p1 = some z) : Met l y_Value_object (.code y_Value_object b_Value_object 2 (some .long) :: lw_g) ({ frames := 0, cells := 0, slots := 0, locals := 0 }) (va_Pc [.int p0, .int p1] (fun U => dz_N U ∧ va_P (dC, dI) classes [] U.heap ∧ va_K (dC, dI) classes [] U)) (vp_Sl (fun r => r = z)) 0 0 (fun _ => False) := by
  refine Met.ofW (cc := b_Value_object) (maxL := 2) (ret := (some .long)) (by decide +kernel) rfl ?_
  intro p e s m args below meth c s₁ B hml hv
  obtain ⟨rfl, hN, hP, hK⟩ := hv
  have hx := B.exec
  have hb := B.bytes
  have hr := B.returns
  have hg : ∀ w ∈ lw_g, w.before _ s = true := fun w hw => atoms_spec (ws := .code y_Value_object b_Value_object 2 (some .long) :: lw_g) B.pre w (List.mem_cons_of_mem _ hw)
  have hown : s.vm.findClass R_Value = some m.cls := findClass_of_methodNamed B.named
  have hlocks := B.notSynchronized
  clear B
  have hP : va_P (dC, dI) classes [] s.heap := hP
  have hl := lv_entry ([.int p0, .int p1]) (n := 2) (Nat.le_of_ble_eq_true rfl)
  rw [lg_entry_eq]
  generalize (lg_sl ([.int p0, .int p1]) ++ List.replicate (2 - (lg_sl ([.int p0, .int p1])).length) Slot.unset).toArray = ls at hl ⊢
  have hl : lv_has ls 2 [(0, .int p0), (1, .int p1)] := hl
  unfold m_Value_object at h
  refine lv_iload_n hx hb d_Value_object_0 rfl (lv_at hl 1 rfl) ?_
  refine lv_i2l (v := p1.toInt64) hx hb d_Value_object_1 rfl ?_
  refine lv_iconst (v := 3) hx hb d_Value_object_2 (by decide) ?_
  refine lv_lshl (v := p1.toInt64 <<< ((3 : Int32).toInt64 &&& 63)) hx hb d_Value_object_3 rfl ?_
  refine lv_iload_n hx hb d_Value_object_4 rfl (lv_at hl 0 rfl) ?_
  refine lv_i2l (v := p0.toInt64) hx hb d_Value_object_5 rfl ?_
  refine lv_lor hx hb d_Value_object_6 ?_
  obtain rfl := Option.some.inj h
  exact W.lret (v := (p1.toInt64 <<< ((3 : Int32).toInt64 &&& 63)) ||| p0.toInt64) hx hb hr (fun t ht hW => ⟨_, rfl, rfl, ht⟩) (fun _ h => by cases h) d_Value_object_7

set_option maxHeartbeats 4000000 in
set_option maxRecDepth 100000 in
theorem c_Value_head (l : Launch) (dC : Nat → ClassId) (dI : Nat → Nat → Nat) (N : Nat) (p0 : Int32) (p1 : Int32) (p2 : Int32) (z : Int64) (h : m_Value_head N p0 p1 p2 = some z) : Met l y_Value_head (.code y_Value_head b_Value_head 3 (some .long) :: lw_g) ({ frames := 0, cells := 0, slots := 0, locals := 0 }) (va_Pc [.int p0, .int p1, .int p2] (fun U => dz_N U ∧ va_P (dC, dI) classes [] U.heap ∧ va_K (dC, dI) classes [] U)) (vp_Sl (fun r => r = z)) 0 0 (fun _ => False) := by
  refine Met.ofW (cc := b_Value_head) (maxL := 3) (ret := (some .long)) (by decide +kernel) rfl ?_
  intro p e s m args below meth c s₁ B hml hv
  obtain ⟨rfl, hN, hP, hK⟩ := hv
  have hx := B.exec
  have hb := B.bytes
  have hr := B.returns
  have hg : ∀ w ∈ lw_g, w.before _ s = true := fun w hw => atoms_spec (ws := .code y_Value_head b_Value_head 3 (some .long) :: lw_g) B.pre w (List.mem_cons_of_mem _ hw)
  have hown : s.vm.findClass R_Value = some m.cls := findClass_of_methodNamed B.named
  have hlocks := B.notSynchronized
  clear B
  have hP : va_P (dC, dI) classes [] s.heap := hP
  have hl := lv_entry ([.int p0, .int p1, .int p2]) (n := 3) (Nat.le_of_ble_eq_true rfl)
  rw [lg_entry_eq]
  generalize (lg_sl ([.int p0, .int p1, .int p2]) ++ List.replicate (3 - (lg_sl ([.int p0, .int p1, .int p2])).length) Slot.unset).toArray = ls at hl ⊢
  have hl : lv_has ls 3 [(0, .int p0), (1, .int p1), (2, .int p2)] := hl
  unfold m_Value_head at h
  refine lv_iload_n hx hb d_Value_head_0 rfl (lv_at hl 2 rfl) ?_
  refine lv_i2l (v := p2.toInt64) hx hb d_Value_head_1 rfl ?_
  refine lv_bipush (v := 35) hx hb d_Value_head_2 (by decide) ?_
  refine lv_lshl (v := p2.toInt64 <<< ((35 : Int32).toInt64 &&& 63)) hx hb d_Value_head_4 rfl ?_
  refine lv_iload_n hx hb d_Value_head_5 rfl (lv_at hl 1 rfl) ?_
  refine lv_i2l (v := p1.toInt64) hx hb d_Value_head_6 rfl ?_
  refine lv_ldc2 (v := 4294967295) hx hb hown (hg _ k2) d_Value_head_7 ?_
  refine lv_land hx hb d_Value_head_10 ?_
  refine lv_iconst (v := 3) hx hb d_Value_head_11 (by decide) ?_
  refine lv_lshl (v := (p1.toInt64 &&& 4294967295) <<< ((3 : Int32).toInt64 &&& 63)) hx hb d_Value_head_12 rfl ?_
  refine lv_lor hx hb d_Value_head_13 ?_
  obtain ⟨x1, ex1, h⟩ := dz_lt h
  refine dz_topl ex1 ?_
  refine lv_iload_n hx hb d_Value_head_14 rfl (lv_at hl 0 rfl) ?_
  refine lv_i2l (v := p0.toInt64) hx hb d_Value_head_15 rfl ?_
  refine lv_lor hx hb d_Value_head_16 ?_
  obtain rfl := Option.some.inj h
  exact W.lret (v := x1 ||| p0.toInt64) hx hb hr (fun t ht hW => ⟨_, rfl, rfl, ht⟩) (fun _ h => by cases h) d_Value_head_17

set_option maxHeartbeats 4000000 in
set_option maxRecDepth 100000 in
theorem c_Value_withKind (l : Launch) (dC : Nat → ClassId) (dI : Nat → Nat → Nat) (N : Nat) (p0 : Int64) (p1 : Int32) (z : Int64) (h : m_Value_withKind N p0 p1 = some z) : Met l y_Value_withKind (.code y_Value_withKind b_Value_withKind 3 (some .long) :: lw_g) ({ frames := 0, cells := 0, slots := 0, locals := 0 }) (va_Pc [.long p0, .int p1] (fun U => dz_N U ∧ va_P (dC, dI) classes [] U.heap ∧ va_K (dC, dI) classes [] U)) (vp_Sl (fun r => r = z)) 0 0 (fun _ => False) := by
  refine Met.ofW (cc := b_Value_withKind) (maxL := 3) (ret := (some .long)) (by decide +kernel) rfl ?_
  intro p e s m args below meth c s₁ B hml hv
  obtain ⟨rfl, hN, hP, hK⟩ := hv
  have hx := B.exec
  have hb := B.bytes
  have hr := B.returns
  have hg : ∀ w ∈ lw_g, w.before _ s = true := fun w hw => atoms_spec (ws := .code y_Value_withKind b_Value_withKind 3 (some .long) :: lw_g) B.pre w (List.mem_cons_of_mem _ hw)
  have hown : s.vm.findClass R_Value = some m.cls := findClass_of_methodNamed B.named
  have hlocks := B.notSynchronized
  clear B
  have hP : va_P (dC, dI) classes [] s.heap := hP
  have hl := lv_entry ([.long p0, .int p1]) (n := 3) (Nat.le_of_ble_eq_true rfl)
  rw [lg_entry_eq]
  generalize (lg_sl ([.long p0, .int p1]) ++ List.replicate (3 - (lg_sl ([.long p0, .int p1])).length) Slot.unset).toArray = ls at hl ⊢
  have hl : lv_has ls 3 [(0, .long p0), (2, .int p1)] := hl
  unfold m_Value_withKind at h
  refine lv_lload_n hx hb d_Value_withKind_0 rfl (lv_at hl 0 rfl) ?_
  refine lv_ldc2 (v := (-8)) hx hb hown (hg _ k3) d_Value_withKind_1 ?_
  refine lv_land hx hb d_Value_withKind_4 ?_
  refine lv_iload_n hx hb d_Value_withKind_5 rfl (lv_at hl 1 rfl) ?_
  refine lv_i2l (v := p1.toInt64) hx hb d_Value_withKind_6 rfl ?_
  refine lv_lor hx hb d_Value_withKind_7 ?_
  obtain rfl := Option.some.inj h
  exact W.lret (v := (p0 &&& (-8)) ||| p1.toInt64) hx hb hr (fun t ht hW => ⟨_, rfl, rfl, ht⟩) (fun _ h => by cases h) d_Value_withKind_8

set_option maxHeartbeats 4000000 in
set_option maxRecDepth 100000 in
theorem c_Value_cellsOfString (l : Launch) (dC : Nat → ClassId) (dI : Nat → Nat → Nat) (N : Nat) (p0 : Int32) (z : Int32) (h : m_Value_cellsOfString N p0 = some z) : Met l y_Value_cellsOfString (.code y_Value_cellsOfString b_Value_cellsOfString 1 (some .int) :: lw_g) ({ frames := 0, cells := 0, slots := 0, locals := 0 }) (va_Pc [.int p0] (fun U => dz_N U ∧ va_P (dC, dI) classes [] U.heap ∧ va_K (dC, dI) classes [] U)) (vp_Si (fun r => r = z)) 0 0 (fun _ => False) := by
  refine Met.ofW (cc := b_Value_cellsOfString) (maxL := 1) (ret := (some .int)) (by decide +kernel) rfl ?_
  intro p e s m args below meth c s₁ B hml hv
  obtain ⟨rfl, hN, hP, hK⟩ := hv
  have hx := B.exec
  have hb := B.bytes
  have hr := B.returns
  have hg : ∀ w ∈ lw_g, w.before _ s = true := fun w hw => atoms_spec (ws := .code y_Value_cellsOfString b_Value_cellsOfString 1 (some .int) :: lw_g) B.pre w (List.mem_cons_of_mem _ hw)
  have hown : s.vm.findClass R_Value = some m.cls := findClass_of_methodNamed B.named
  have hlocks := B.notSynchronized
  clear B
  have hP : va_P (dC, dI) classes [] s.heap := hP
  have hl := lv_entry ([.int p0]) (n := 1) (Nat.le_of_ble_eq_true rfl)
  rw [lg_entry_eq]
  generalize (lg_sl ([.int p0]) ++ List.replicate (1 - (lg_sl ([.int p0])).length) Slot.unset).toArray = ls at hl ⊢
  have hl : lv_has ls 1 [(0, .int p0)] := hl
  unfold m_Value_cellsOfString at h
  refine lv_iconst (v := 1) hx hb d_Value_cellsOfString_0 (by decide) ?_
  refine lv_iload_n hx hb d_Value_cellsOfString_1 rfl (lv_at hl 0 rfl) ?_
  refine lv_iconst (v := 3) hx hb d_Value_cellsOfString_2 (by decide) ?_
  refine lv_iadd hx hb d_Value_cellsOfString_3 ?_
  refine lv_iconst (v := 4) hx hb d_Value_cellsOfString_4 (by decide) ?_
  refine lv_idiv hx hb d_Value_cellsOfString_5 (by decide) ?_
  refine lv_iadd hx hb d_Value_cellsOfString_6 ?_
  obtain rfl := Option.some.inj h
  exact W.iret (v := 1 + ((p0 + 3) / 4)) hx hb hr (fun t ht hW => ⟨_, rfl, rfl, ht⟩) (fun _ h => by cases h) d_Value_cellsOfString_7

set_option maxHeartbeats 4000000 in
set_option maxRecDepth 100000 in
theorem c_Status_isDone (l : Launch) (dC : Nat → ClassId) (dI : Nat → Nat → Nat) (N : Nat) (p0 : Int32) (z : Int32) (h : m_Status_isDone N p0 = some z) : Met l y_Status_isDone (.code y_Status_isDone b_Status_isDone 1 (some .boolean) :: lw_g) ({ frames := 0, cells := 0, slots := 0, locals := 0 }) (va_Pc [.int p0] (fun U => dz_N U ∧ va_P (dC, dI) classes [] U.heap ∧ va_K (dC, dI) classes [] U)) (vp_Si (fun r => r = z ∧ narrow .boolean (.int z) = .int z ∧ fits .boolean (.int z) = true)) 0 0 (fun _ => False) := by
  refine Met.ofW (cc := b_Status_isDone) (maxL := 1) (ret := (some .boolean)) (by decide +kernel) rfl ?_
  intro p e s m args below meth c s₁ B hml hv
  obtain ⟨rfl, hN, hP, hK⟩ := hv
  have hx := B.exec
  have hb := B.bytes
  have hr := B.returns
  have hg : ∀ w ∈ lw_g, w.before _ s = true := fun w hw => atoms_spec (ws := .code y_Status_isDone b_Status_isDone 1 (some .boolean) :: lw_g) B.pre w (List.mem_cons_of_mem _ hw)
  have hown : s.vm.findClass R_Status = some m.cls := findClass_of_methodNamed B.named
  have hlocks := B.notSynchronized
  clear B
  have hP : va_P (dC, dI) classes [] s.heap := hP
  have hl := lv_entry ([.int p0]) (n := 1) (Nat.le_of_ble_eq_true rfl)
  rw [lg_entry_eq]
  generalize (lg_sl ([.int p0]) ++ List.replicate (1 - (lg_sl ([.int p0])).length) Slot.unset).toArray = ls at hl ⊢
  have hl : lv_has ls 1 [(0, .int p0)] := hl
  unfold m_Status_isDone at h
  refine lv_iload_n hx hb d_Status_isDone_0 rfl (lv_at hl 0 rfl) ?_
  refine lv_iconst (v := 5) hx hb d_Status_isDone_1 (by decide) ?_
  refine lv_icmp_eq (tgt := 14) hx hb d_Status_isDone_2 (by decide) (fun c1 => ?_) (fun c1 => ?_)
  · rw [if_pos c1] at h
    refine lv_iconst (v := 1) hx hb d_Status_isDone_14 (by decide) ?_
    refine lv_goto (tgt := 19) hx hb d_Status_isDone_15 (by decide) ?_
    obtain rfl := Option.some.inj h
    exact W.zret (v := 1) (ty := .boolean) hx hb hr (show narrow .boolean (.int 1) = .int 1 from rfl) (fun t ht hW => ⟨_, rfl, ⟨rfl, (show narrow .boolean (.int 1) = .int 1 from rfl), (show fits .boolean (.int 1) = true from rfl)⟩, ht⟩) (fun _ h => by cases h) d_Status_isDone_19
  · rw [if_neg c1] at h
    refine lv_iload_n hx hb d_Status_isDone_5 rfl (lv_at hl 0 rfl) ?_
    refine lv_if_eq (tgt := 14) hx hb d_Status_isDone_6 (by decide) (fun c2 => ?_) (fun c2 => ?_)
    · rw [if_pos c2] at h
      refine lv_iconst (v := 1) hx hb d_Status_isDone_14 (by decide) ?_
      refine lv_goto (tgt := 19) hx hb d_Status_isDone_15 (by decide) ?_
      obtain rfl := Option.some.inj h
      exact W.zret (v := 1) (ty := .boolean) hx hb hr (show narrow .boolean (.int 1) = .int 1 from rfl) (fun t ht hW => ⟨_, rfl, ⟨rfl, (show narrow .boolean (.int 1) = .int 1 from rfl), (show fits .boolean (.int 1) = true from rfl)⟩, ht⟩) (fun _ h => by cases h) d_Status_isDone_19
    · rw [if_neg c2] at h
      refine lv_iload_n hx hb d_Status_isDone_9 rfl (lv_at hl 0 rfl) ?_
      refine lv_iconst (v := 1) hx hb d_Status_isDone_10 (by decide) ?_
      refine lv_icmp_ne (tgt := 18) hx hb d_Status_isDone_11 (by decide) (fun c3 => ?_) (fun c3 => ?_)
      · rw [if_neg c3] at h
        refine lv_iconst (v := 0) hx hb d_Status_isDone_18 (by decide) ?_
        obtain rfl := Option.some.inj h
        exact W.zret (v := 0) (ty := .boolean) hx hb hr (show narrow .boolean (.int 0) = .int 0 from rfl) (fun t ht hW => ⟨_, rfl, ⟨rfl, (show narrow .boolean (.int 0) = .int 0 from rfl), (show fits .boolean (.int 0) = true from rfl)⟩, ht⟩) (fun _ h => by cases h) d_Status_isDone_19
      · rw [if_pos c3] at h
        refine lv_iconst (v := 1) hx hb d_Status_isDone_14 (by decide) ?_
        refine lv_goto (tgt := 19) hx hb d_Status_isDone_15 (by decide) ?_
        obtain rfl := Option.some.inj h
        exact W.zret (v := 1) (ty := .boolean) hx hb hr (show narrow .boolean (.int 1) = .int 1 from rfl) (fun t ht hW => ⟨_, rfl, ⟨rfl, (show narrow .boolean (.int 1) = .int 1 from rfl), (show fits .boolean (.int 1) = true from rfl)⟩, ht⟩) (fun _ h => by cases h) d_Status_isDone_19

set_option maxHeartbeats 4000000 in
set_option maxRecDepth 100000 in
theorem c_Engine_longer (l : Launch) (dC : Nat → ClassId) (dI : Nat → Nat → Nat) (N : Nat) (p0 : Int32) (p1 : Int32) (p2 : Int32) (z : Int32) (h : m_Engine_longer N p0 p1 p2 = some z) : Met l y_Engine_longer (.code y_Engine_longer b_Engine_longer 3 (some .int) :: lw_g) ({ frames := 1, cells := 0, slots := 0, locals := 21 }) (va_Pc [.int p0, .int p1, .int p2] (fun U => dz_N U ∧ va_P (dC, dI) classes [] U.heap ∧ va_K (dC, dI) classes [] U)) (vp_Si (fun r => r = z)) 0 0 (fun _ => False) := by
  refine Met.ofW (cc := b_Engine_longer) (maxL := 3) (ret := (some .int)) (by decide +kernel) rfl ?_
  intro p e s m args below meth c s₁ B hml hv
  obtain ⟨rfl, hN, hP, hK⟩ := hv
  have hx := B.exec
  have hb := B.bytes
  have hr := B.returns
  have hg : ∀ w ∈ lw_g, w.before _ s = true := fun w hw => atoms_spec (ws := .code y_Engine_longer b_Engine_longer 3 (some .int) :: lw_g) B.pre w (List.mem_cons_of_mem _ hw)
  have hown : s.vm.findClass R_Engine = some m.cls := findClass_of_methodNamed B.named
  have hlocks := B.notSynchronized
  clear B
  have hP : va_P (dC, dI) classes [] s.heap := hP
  have hl := lv_entry ([.int p0, .int p1, .int p2]) (n := 3) (Nat.le_of_ble_eq_true rfl)
  rw [lg_entry_eq]
  generalize (lg_sl ([.int p0, .int p1, .int p2]) ++ List.replicate (3 - (lg_sl ([.int p0, .int p1, .int p2])).length) Slot.unset).toArray = ls at hl ⊢
  have hl : lv_has ls 3 [(0, .int p0), (1, .int p1), (2, .int p2)] := hl
  unfold m_Engine_longer at h
  refine lv_iload_n hx hb d_Engine_longer_0 rfl (lv_at hl 2 rfl) ?_
  refine lv_iload_n hx hb d_Engine_longer_1 rfl (lv_at hl 1 rfl) ?_
  refine lv_iconst (v := 2) hx hb d_Engine_longer_2 (by decide) ?_
  refine lv_iload_n hx hb d_Engine_longer_3 rfl (lv_at hl 0 rfl) ?_
  refine lv_imul hx hb d_Engine_longer_4 ?_
  obtain ⟨z1_1, hc1, h⟩ := dz_ob h
  try dsimp only at h
  have hPc := hP.sub (ws' := []) [] rfl
  have hKc := hK.sub (tys' := []) [] rfl
  refine vp_callSi (va_Run.run (va_runS (As := [.int p1, .int (2 * p0)]) (rest := [.int p2]) ⟨hx, hb, hml, hown, hg⟩ (c_Math_max l dC dI N p1 (2 * p0) z1_1 hc1) (va_cwS 2 hg (gd_S k5 k6 k7 k4) rfl rfl rfl (by decide +kernel) ⟨Nat.le_of_ble_eq_true rfl, Nat.le_of_ble_eq_true rfl⟩) ⟨dz_blindR, fun U hU hW => ⟨rfl, dz_Nw hW hN, by rw [hU]; exact hPc, va_K.moved hW.alike hKc⟩⟩ rfl rfl hl.1 rfl (lv_room (Nat.le_of_ble_eq_true rfl)) d_Engine_longer_5 ⟨Nat.le_of_ble_eq_true rfl, Nat.le_of_ble_eq_true rfl⟩)) (fun r1 hw => ?_)
  have hw : z1_1 = r1 := hw.symm
  subst hw
  obtain ⟨z2_1, hc2, h⟩ := dz_ob h
  try dsimp only at h
  have hPc := hP.sub (ws' := []) [] rfl
  have hKc := hK.sub (tys' := []) [] rfl
  refine vp_callSi (va_Run.run (va_runS (As := [.int p2, .int z1_1]) (rest := []) ⟨hx, hb, hml, hown, hg⟩ (c_Math_min l dC dI N p2 z1_1 z2_1 hc2) (va_cwS 2 hg (gd_S k9 k10 k7 k8) rfl rfl rfl (by decide +kernel) ⟨Nat.le_of_ble_eq_true rfl, Nat.le_of_ble_eq_true rfl⟩) ⟨dz_blindR, fun U hU hW => ⟨rfl, dz_Nw hW hN, by rw [hU]; exact hPc, va_K.moved hW.alike hKc⟩⟩ rfl rfl hl.1 rfl (lv_room (Nat.le_of_ble_eq_true rfl)) d_Engine_longer_8 ⟨Nat.le_of_ble_eq_true rfl, Nat.le_of_ble_eq_true rfl⟩)) (fun r2 hw => ?_)
  have hw : z2_1 = r2 := hw.symm
  subst hw
  obtain rfl := Option.some.inj h
  exact W.iret (v := z2_1) hx hb hr (fun t ht hW => ⟨_, rfl, rfl, ht⟩) (fun _ h => by cases h) d_Engine_longer_11
