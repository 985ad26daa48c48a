theorem d_Model_step_0 : decode b_Model_step 0 = .ok (.iload_n 1, 1) := by decide +kernel
theorem d_Model_step_1 : decode b_Model_step 1 = .ok (.ifCond .lt 16, 3) := by decide +kernel
theorem d_Model_step_4 : decode b_Model_step 4 = .ok (.iload_n 1, 1) := by decide +kernel
theorem d_Model_step_5 : decode b_Model_step 5 = .ok (.ldc 203, 2) := by decide +kernel
theorem d_Model_step_7 : decode b_Model_step 7 = .ok (.if_icmp .gt 10, 3) := by decide +kernel
theorem d_Model_step_10 : decode b_Model_step 10 = .ok (.aload_n 0, 1) := by decide +kernel
theorem d_Model_step_11 : decode b_Model_step 11 = .ok (.getfield 128, 3) := by decide +kernel
theorem d_Model_step_14 : decode b_Model_step 14 = .ok (.ifCond .ne 5, 3) := by decide +kernel
theorem d_Model_step_17 : decode b_Model_step 17 = .ok (.iconst (-1), 1) := by decide +kernel
theorem d_Model_step_18 : decode b_Model_step 18 = .ok (.ireturn, 1) := by decide +kernel
theorem d_Model_step_19 : decode b_Model_step 19 = .ok (.iconst 0, 1) := by decide +kernel
theorem d_Model_step_20 : decode b_Model_step 20 = .ok (.istore_n 2, 1) := by decide +kernel
theorem d_Model_step_21 : decode b_Model_step 21 = .ok (.iload_n 2, 1) := by decide +kernel
theorem d_Model_step_22 : decode b_Model_step 22 = .ok (.iload_n 1, 1) := by decide +kernel
theorem d_Model_step_23 : decode b_Model_step 23 = .ok (.if_icmp .ge 47, 3) := by decide +kernel
theorem d_Model_step_26 : decode b_Model_step 26 = .ok (.aload_n 0, 1) := by decide +kernel
theorem d_Model_step_27 : decode b_Model_step 27 = .ok (.getfield 132, 3) := by decide +kernel
theorem d_Model_step_30 : decode b_Model_step 30 = .ok (.iconst 5, 1) := by decide +kernel
theorem d_Model_step_31 : decode b_Model_step 31 = .ok (.if_icmp .ne 39, 3) := by decide +kernel
theorem d_Model_step_34 : decode b_Model_step 34 = .ok (.aload_n 0, 1) := by decide +kernel
theorem d_Model_step_35 : decode b_Model_step 35 = .ok (.invokevirtual 204, 3) := by decide +kernel
theorem d_Model_step_38 : decode b_Model_step 38 = .ok (.istore_n 3, 1) := by decide +kernel
theorem d_Model_step_39 : decode b_Model_step 39 = .ok (.iload_n 3, 1) := by decide +kernel
theorem d_Model_step_40 : decode b_Model_step 40 = .ok (.iconst 5, 1) := by decide +kernel
theorem d_Model_step_41 : decode b_Model_step 41 = .ok (.if_icmp .eq 8, 3) := by decide +kernel
theorem d_Model_step_44 : decode b_Model_step 44 = .ok (.iload_n 3, 1) := by decide +kernel
theorem d_Model_step_45 : decode b_Model_step 45 = .ok (.iconst 2, 1) := by decide +kernel
theorem d_Model_step_46 : decode b_Model_step 46 = .ok (.if_icmp .ge 13, 3) := by decide +kernel
theorem d_Model_step_49 : decode b_Model_step 49 = .ok (.aload_n 0, 1) := by decide +kernel
theorem d_Model_step_50 : decode b_Model_step 50 = .ok (.dup, 1) := by decide +kernel
theorem d_Model_step_51 : decode b_Model_step 51 = .ok (.getfield 197, 3) := by decide +kernel
theorem d_Model_step_54 : decode b_Model_step 54 = .ok (.iconst 1, 1) := by decide +kernel
theorem d_Model_step_55 : decode b_Model_step 55 = .ok (.iadd, 1) := by decide +kernel
theorem d_Model_step_56 : decode b_Model_step 56 = .ok (.putfield 197, 3) := by decide +kernel
theorem d_Model_step_59 : decode b_Model_step 59 = .ok (.aload_n 0, 1) := by decide +kernel
theorem d_Model_step_60 : decode b_Model_step 60 = .ok (.iload_n 3, 1) := by decide +kernel
theorem d_Model_step_61 : decode b_Model_step 61 = .ok (.putfield 132, 3) := by decide +kernel
theorem d_Model_step_64 : decode b_Model_step 64 = .ok (.iinc 2 1, 3) := by decide +kernel
theorem d_Model_step_67 : decode b_Model_step 67 = .ok (.goto (-46), 3) := by decide +kernel
theorem d_Model_step_70 : decode b_Model_step 70 = .ok (.aload_n 0, 1) := by decide +kernel
theorem d_Model_step_71 : decode b_Model_step 71 = .ok (.getfield 132, 3) := by decide +kernel
theorem d_Model_step_74 : decode b_Model_step 74 = .ok (.ireturn, 1) := by decide +kernel
theorem k970 : Cond.code y_Model_words b_Model_words 2 (some .int) ∈ lw_g := kg (List.mem_append_right _ (List.mem_of_getElem? (i := 1219) (by decide +kernel))) rfl
theorem k971 : Cond.methodLink R_Model 212 y_Model_words ∈ lw_g := kg (List.mem_append_right _ (List.mem_of_getElem? (i := 1216) (by decide +kernel))) rfl
theorem k972 : Cond.instanceMethod y_Model_words ∈ lw_g := kg (List.mem_append_right _ (List.mem_of_getElem? (i := 1218) (by decide +kernel))) rfl
theorem k973 : Cond.selects R_Model y_Model_words y_Model_words ∈ lw_g := kg (List.mem_append_left _ (List.mem_of_getElem? (i := 40) (by decide +kernel))) rfl
theorem k974 : Cond.code y_Model_needs b_Model_needs 2 (some .int) ∈ lw_g := kg (List.mem_append_right _ (List.mem_of_getElem? (i := 1231) (by decide +kernel))) rfl
theorem k975 : Cond.methodLink R_Model 221 y_Model_needs ∈ lw_g := kg (List.mem_append_right _ (List.mem_of_getElem? (i := 1229) (by decide +kernel))) rfl
theorem k976 : Cond.static y_Model_needs ∈ lw_g := kg (List.mem_append_right _ (List.mem_of_getElem? (i := 1230) (by decide +kernel))) rfl
theorem k977 : Cond.code y_Model_text b_Model_text 5 (some .int) ∈ lw_g := kg (List.mem_append_right _ (List.mem_of_getElem? (i := 1247) (by decide +kernel))) rfl
theorem k978 : Cond.methodLink R_Model 231 y_Model_text ∈ lw_g := kg (List.mem_append_right _ (List.mem_of_getElem? (i := 1244) (by decide +kernel))) rfl
theorem k979 : Cond.instanceMethod y_Model_text ∈ lw_g := kg (List.mem_append_right _ (List.mem_of_getElem? (i := 1246) (by decide +kernel))) rfl
theorem k980 : Cond.selects R_Model y_Model_text y_Model_text ∈ lw_g := kg (List.mem_append_left _ (List.mem_of_getElem? (i := 46) (by decide +kernel))) rfl
theorem k981 : Cond.code y_Model_store b_Model_store 2 (some .int) ∈ lw_g := kg (List.mem_append_right _ (List.mem_of_getElem? (i := 1303) (by decide +kernel))) rfl
theorem k982 : Cond.methodLink R_Model 234 y_Model_store ∈ lw_g := kg (List.mem_append_right _ (List.mem_of_getElem? (i := 1300) (by decide +kernel))) rfl
theorem k983 : Cond.instanceMethod y_Model_store ∈ lw_g := kg (List.mem_append_right _ (List.mem_of_getElem? (i := 1302) (by decide +kernel))) rfl
theorem k984 : Cond.selects R_Model y_Model_store y_Model_store ∈ lw_g := kg (List.mem_append_left _ (List.mem_of_getElem? (i := 60) (by decide +kernel))) rfl
theorem k985 : Cond.code y_Model_free b_Model_free 3 (some .int) ∈ lw_g := kg (List.mem_append_right _ (List.mem_of_getElem? (i := 1307) (by decide +kernel))) rfl
theorem k986 : Cond.methodLink R_Model 237 y_Model_free ∈ lw_g := kg (List.mem_append_right _ (List.mem_of_getElem? (i := 1304) (by decide +kernel))) rfl
theorem k987 : Cond.instanceMethod y_Model_free ∈ lw_g := kg (List.mem_append_right _ (List.mem_of_getElem? (i := 1306) (by decide +kernel))) rfl
theorem k988 : Cond.selects R_Model y_Model_free y_Model_free ∈ lw_g := kg (List.mem_append_left _ (List.mem_of_getElem? (i := 61) (by decide +kernel))) rfl
theorem k989 : Cond.code y_Model_setGlobal b_Model_setGlobal 2 (some .int) ∈ lw_g := kg (List.mem_append_right _ (List.mem_of_getElem? (i := 1311) (by decide +kernel))) rfl
theorem k990 : Cond.methodLink R_Model 240 y_Model_setGlobal ∈ lw_g := kg (List.mem_append_right _ (List.mem_of_getElem? (i := 1308) (by decide +kernel))) rfl
theorem k991 : Cond.instanceMethod y_Model_setGlobal ∈ lw_g := kg (List.mem_append_right _ (List.mem_of_getElem? (i := 1310) (by decide +kernel))) rfl
theorem k992 : Cond.selects R_Model y_Model_setGlobal y_Model_setGlobal ∈ lw_g := kg (List.mem_append_left _ (List.mem_of_getElem? (i := 62) (by decide +kernel))) rfl
theorem k993 : Cond.code y_Model_gather b_Model_gather 6 (some .int) ∈ lw_g := kg (List.mem_append_right _ (List.mem_of_getElem? (i := 1315) (by decide +kernel))) rfl
theorem k994 : Cond.methodLink R_Model 243 y_Model_gather ∈ lw_g := kg (List.mem_append_right _ (List.mem_of_getElem? (i := 1312) (by decide +kernel))) rfl
theorem k995 : Cond.instanceMethod y_Model_gather ∈ lw_g := kg (List.mem_append_right _ (List.mem_of_getElem? (i := 1314) (by decide +kernel))) rfl
theorem k996 : Cond.selects R_Model y_Model_gather y_Model_gather ∈ lw_g := kg (List.mem_append_left _ (List.mem_of_getElem? (i := 63) (by decide +kernel))) rfl
theorem k997 : Cond.code y_Model_part b_Model_part 3 (some .int) ∈ lw_g := kg (List.mem_append_right _ (List.mem_of_getElem? (i := 1327) (by decide +kernel))) rfl
theorem k998 : Cond.methodLink R_Model 253 y_Model_part ∈ lw_g := kg (List.mem_append_right _ (List.mem_of_getElem? (i := 1324) (by decide +kernel))) rfl
theorem k999 : Cond.instanceMethod y_Model_part ∈ lw_g := kg (List.mem_append_right _ (List.mem_of_getElem? (i := 1326) (by decide +kernel))) rfl
theorem k1000 : Cond.selects R_Model y_Model_part y_Model_part ∈ lw_g := kg (List.mem_append_left _ (List.mem_of_getElem? (i := 66) (by decide +kernel))) rfl
theorem k1001 : Cond.code y_Model_patch b_Model_patch 3 (some .int) ∈ lw_g := kg (List.mem_append_right _ (List.mem_of_getElem? (i := 1335) (by decide +kernel))) rfl
theorem k1002 : Cond.methodLink R_Model 259 y_Model_patch ∈ lw_g := kg (List.mem_append_right _ (List.mem_of_getElem? (i := 1332) (by decide +kernel))) rfl
theorem k1003 : Cond.instanceMethod y_Model_patch ∈ lw_g := kg (List.mem_append_right _ (List.mem_of_getElem? (i := 1334) (by decide +kernel))) rfl
theorem k1004 : Cond.selects R_Model y_Model_patch y_Model_patch ∈ lw_g := kg (List.mem_append_left _ (List.mem_of_getElem? (i := 68) (by decide +kernel))) rfl
theorem k1005 : Cond.code y_Model_call b_Model_call 2 (some .int) ∈ lw_g := kg (List.mem_append_right _ (List.mem_of_getElem? (i := 1339) (by decide +kernel))) rfl
theorem k1006 : Cond.methodLink R_Model 262 y_Model_call ∈ lw_g := kg (List.mem_append_right _ (List.mem_of_getElem? (i := 1336) (by decide +kernel))) rfl
theorem k1007 : Cond.instanceMethod y_Model_call ∈ lw_g := kg (List.mem_append_right _ (List.mem_of_getElem? (i := 1338) (by decide +kernel))) rfl
theorem k1008 : Cond.selects R_Model y_Model_call y_Model_call ∈ lw_g := kg (List.mem_append_left _ (List.mem_of_getElem? (i := 69) (by decide +kernel))) rfl
theorem k1009 : Cond.code y_Model_tail b_Model_tail 2 (some .int) ∈ lw_g := kg (List.mem_append_right _ (List.mem_of_getElem? (i := 1343) (by decide +kernel))) rfl
theorem k1010 : Cond.methodLink R_Model 265 y_Model_tail ∈ lw_g := kg (List.mem_append_right _ (List.mem_of_getElem? (i := 1340) (by decide +kernel))) rfl
theorem k1011 : Cond.instanceMethod y_Model_tail ∈ lw_g := kg (List.mem_append_right _ (List.mem_of_getElem? (i := 1342) (by decide +kernel))) rfl
theorem k1012 : Cond.selects R_Model y_Model_tail y_Model_tail ∈ lw_g := kg (List.mem_append_left _ (List.mem_of_getElem? (i := 70) (by decide +kernel))) rfl
theorem k1013 : Cond.code y_Model_back b_Model_back 3 (some .int) ∈ lw_g := kg (List.mem_append_right _ (List.mem_of_getElem? (i := 1351) (by decide +kernel))) rfl
theorem k1014 : Cond.methodLink R_Model 268 y_Model_back ∈ lw_g := kg (List.mem_append_right _ (List.mem_of_getElem? (i := 1348) (by decide +kernel))) rfl
theorem k1015 : Cond.instanceMethod y_Model_back ∈ lw_g := kg (List.mem_append_right _ (List.mem_of_getElem? (i := 1350) (by decide +kernel))) rfl
theorem k1016 : Cond.selects R_Model y_Model_back y_Model_back ∈ lw_g := kg (List.mem_append_left _ (List.mem_of_getElem? (i := 72) (by decide +kernel))) rfl
theorem k1017 : Cond.code y_Model_branch b_Model_branch 4 (some .int) ∈ lw_g := kg (List.mem_append_right _ (List.mem_of_getElem? (i := 1355) (by decide +kernel))) rfl
theorem k1018 : Cond.methodLink R_Model 271 y_Model_branch ∈ lw_g := kg (List.mem_append_right _ (List.mem_of_getElem? (i := 1352) (by decide +kernel))) rfl
theorem k1019 : Cond.instanceMethod y_Model_branch ∈ lw_g := kg (List.mem_append_right _ (List.mem_of_getElem? (i := 1354) (by decide +kernel))) rfl
theorem k1020 : Cond.selects R_Model y_Model_branch y_Model_branch ∈ lw_g := kg (List.mem_append_left _ (List.mem_of_getElem? (i := 73) (by decide +kernel))) rfl
theorem k1021 : Cond.code y_Model_assign b_Model_assign 2 (some .int) ∈ lw_g := kg (List.mem_append_right _ (List.mem_of_getElem? (i := 1359) (by decide +kernel))) rfl
theorem k1022 : Cond.methodLink R_Model 274 y_Model_assign ∈ lw_g := kg (List.mem_append_right _ (List.mem_of_getElem? (i := 1356) (by decide +kernel))) rfl
theorem k1023 : Cond.instanceMethod y_Model_assign ∈ lw_g := kg (List.mem_append_right _ (List.mem_of_getElem? (i := 1358) (by decide +kernel))) rfl
theorem k1024 : Cond.selects R_Model y_Model_assign y_Model_assign ∈ lw_g := kg (List.mem_append_left _ (List.mem_of_getElem? (i := 74) (by decide +kernel))) rfl
set_option maxRecDepth 20000 in
theorem k1025 : Cond.code y_Model_others b_Model_others 4 (some .int) ∈ lw_g := kg (List.mem_append_right _ (show _ ∈ tables_1 from List.mem_append_right _ (List.mem_append_right _ (List.mem_append_right _ (List.mem_append_right _ (List.mem_append_right _ (List.mem_append_left _ (List.mem_of_getElem? (i := 163) rfl)))))))) rfl
theorem k1026 : Cond.methodLink R_Model 277 y_Model_others ∈ lw_g := kg (List.mem_append_right _ (List.mem_of_getElem? (i := 1360) (by decide +kernel))) rfl
theorem k1027 : Cond.instanceMethod y_Model_others ∈ lw_g := kg (List.mem_append_right _ (List.mem_of_getElem? (i := 1362) (by decide +kernel))) rfl
theorem k1028 : Cond.selects R_Model y_Model_others y_Model_others ∈ lw_g := kg (List.mem_append_left _ (List.mem_of_getElem? (i := 75) (by decide +kernel))) rfl
theorem k1029 : Cond.constant R_Model 203 100000 ∈ lw_g := kg (List.mem_append_right _ (List.mem_of_getElem? (i := 1211) (by decide +kernel))) rfl
set_option maxRecDepth 20000 in
theorem k1030 : Cond.code y_Model_instruction b_Model_instruction 4 (some .int) ∈ lw_g := kg (List.mem_append_right _ (show _ ∈ tables_1 from List.mem_append_right _ (List.mem_append_right _ (List.mem_append_right _ (List.mem_append_right _ (List.mem_append_right _ (List.mem_append_left _ (List.mem_of_getElem? (i := 15) rfl)))))))) rfl
theorem k1031 : Cond.methodLink R_Model 204 y_Model_instruction ∈ lw_g := kg (List.mem_append_right _ (List.mem_of_getElem? (i := 1212) (by decide +kernel))) rfl
theorem k1032 : Cond.instanceMethod y_Model_instruction ∈ lw_g := kg (List.mem_append_right _ (List.mem_of_getElem? (i := 1214) (by decide +kernel))) rfl
theorem k1033 : Cond.selects R_Model y_Model_instruction y_Model_instruction ∈ lw_g := kg (List.mem_append_left _ (List.mem_of_getElem? (i := 39) (by decide +kernel))) rfl
set_option maxHeartbeats 4000000 in
set_option maxRecDepth 100000 in
theorem l_Model_instruction_1 {p : Program} {l : Launch} {e : Env} {s : State} {m : MethodId} {args : Array Value} {below : List Frame} {meth : Method} {c : Code} {Q : State → Prop} {A : Nat → Prop} (dC : Nat → ClassId) (dI : Nat → Nat → Nat) (N : Nat) (cB : ClassId) (cI : ClassId) (o_Model : Nat) (r : Nat → Nat) (I : Nat → Int32) (F : Nat → Nat → Int32) (z1_1 : Int32) {ζ : Type} {z : ζ} (hx : p.tables.exec = Jvm.exec) (hb : c.code = b_Model_instruction) (hml : c.maxLocals = 4) (hown : s.vm.findClass R_Model = some m.cls) (hg : ∀ w ∈ lw_g, w.before args s = true) (hN : dz_N s) (hK : va_K (dC, dI) classes [(cB, .byte), (cI, .int)] s) (hA : ∀ q : Nat, s.heap.size ≤ q → A q) {k1_35 : Int32 → Option (ζ)} (hk1_35 : ∀   (y1_0 : Int32)  (H : Heap) (locs : List Loc) (ls : Array Slot), k1_35 y1_0 = some z → va_P (dC, dI) classes (wD cB cI o_Model r I F) H → va_D A (wD cB cI o_Model r I F) → va_S A s.heap H locs → lv_has ls 4 [(2, .int ((F 14) (I 35).toNatClampNeg)), (1, .int z1_1), (0, .ref o_Model)] → W p l e ({ frames := 12, cells := 0, slots := 0, locals := 273 } : Room) s m args below meth c H locs 0 0 Q (F0 m 35 ls [.int y1_0])) : ∀    (H : Heap) (locs : List Loc) (ls : Array Slot), lm_Model_instruction_1 N I F z1_1 k1_35  = some z → va_P (dC, dI) classes (wD cB cI o_Model r I F) H → va_D A (wD cB cI o_Model r I F) → va_S A s.heap H locs → lv_has ls 4 [(2, .int ((F 14) (I 35).toNatClampNeg)), (1, .int z1_1), (0, .ref o_Model)] → W p l e ({ frames := 12, cells := 0, slots := 0, locals := 273 } : Room) s m args below meth c H locs 0 0 Q (F0 m 21 ls []) := by
  intro H locs ls h hP hD hS hl
  unfold lm_Model_instruction_1 at h
  refine lv_iload_n hx hb d_Model_instruction_21 rfl (lv_at hl 1 rfl) ?_
  refine lv_iconst (v := 1) hx hb d_Model_instruction_22 (by decide) ?_
  refine lv_icmp_le (tgt := 34) hx hb d_Model_instruction_23 (by decide) (fun c4 => ?_) (fun c4 => ?_)
  · rw [if_pos c4] at h
    refine lv_iconst (v := 0) hx hb d_Model_instruction_34 (by decide) ?_
    exact hk1_35 (0 : Int32) _ _ _ h hP hD hS (lv_sub hl [0, 1, 2] rfl)
  · rw [if_neg c4] at h
    refine lv_aload_n hx hb d_Model_instruction_26 rfl (lv_at hl 2 rfl) ?_
    refine lv_iconst (v := 1) hx hb d_Model_instruction_27 (by decide) ?_
    obtain ⟨z5_1, hc5, h⟩ := dz_ob h
    try dsimp only at h
    have hPc := hP
    have hKc := hK
    refine vp_callSi (va_Run.run (va_runV (As := [.int 1]) (rest := []) ⟨hx, hb, hml, hown, hg⟩ (c_Model_word l dC dI N cB cI o_Model r I F (1 : Int32) z5_1 hc5) (cwV 1 hg (gd_V k822 k823 k824 k707 k821) rfl rfl rfl (by decide +kernel) ⟨Nat.le_of_ble_eq_true rfl, Nat.le_of_ble_eq_true rfl⟩) ⟨dz_blindR, va_recv hKc hPc (ci := 10) (q0 := 0) rfl rfl, fun U hU hW => ⟨rfl, dz_Nw hW hN, by rw [hU]; exact hPc, va_K.moved hW.alike hKc⟩⟩ rfl rfl hl.1 rfl (lv_room (Nat.le_of_ble_eq_true rfl)) d_Model_instruction_28 ⟨Nat.le_of_ble_eq_true rfl, Nat.le_of_ble_eq_true rfl⟩)) (fun r5 hw => ?_)
    have hw : z5_1 = r5 := hw.symm
    subst hw
    refine lv_goto (tgt := 35) hx hb d_Model_instruction_31 (by decide) ?_
    exact hk1_35 z5_1 _ _ _ h hP hD hS (lv_sub hl [0, 1, 2] rfl)
set_option maxHeartbeats 4000000 in
set_option maxRecDepth 100000 in
theorem c_Model_instruction (l : Launch) (dC : Nat → ClassId) (dI : Nat → Nat → Nat) (N : Nat) (cB : ClassId) (cI : ClassId) (o_Model : Nat) (r : Nat → Nat) (I : Nat → Int32) (F : Nat → Nat → Int32) (sz : Nat) (z : Int32 × (Nat → Nat → Int32) × (Nat → Int32)) (h : m_Model_instruction N I F = some z) : Met l y_Model_instruction (.code y_Model_instruction b_Model_instruction 4 (some .int) :: lw_g) ({ frames := 12, cells := 0, slots := 0, locals := 273 }) (va_Pc [.ref o_Model] (fun U => dz_N U ∧ U.heap.size = sz ∧ va_P (dC, dI) classes (wD cB cI o_Model r I F) U.heap ∧ va_K (dC, dI) classes [(cB, .byte), (cI, .int)] U ∧ va_D (fun _ => True) (wD cB cI o_Model r I F))) (va_Qi (fun (r : Int32) (_ : Unit) => r = z.1) (fun (u : Unit) t => va_P (dC, dI) classes (wD cB cI o_Model r z.2.2 z.2.1) t.heap ∧ va_K (dC, dI) classes [(cB, .byte), (cI, .int)] t ∧ va_D (va_A (wD cB cI o_Model r I F) sz) (wD cB cI o_Model r z.2.2 z.2.1)) (va_A (wD cB cI o_Model r I F) sz)) 0 0 (va_A (wD cB cI o_Model r I F) sz) := by
  refine Met.ofW (cc := b_Model_instruction) (maxL := 4) (ret := (some .int)) (by decide +kernel) rfl ?_
  intro p e s m args below meth c s₁ B hml hv
  obtain ⟨rfl, hN, hsz, hP, hK, hD0⟩ := hv
  have hx := B.exec
  have hb := B.bytes
  have hr := B.returns
  have hg : ∀ w ∈ lw_g, w.before _ s = true := fun w hw => atoms_spec (ws := .code y_Model_instruction b_Model_instruction 4 (some .int) :: lw_g) B.pre w (List.mem_cons_of_mem _ hw)
  have hown : s.vm.findClass R_Model = some m.cls := findClass_of_methodNamed B.named
  have hlocks := B.notSynchronized
  clear B
  subst hsz
  have hD := hD0.self (sz := s.heap.size)
  generalize hAe : va_A (wD cB cI o_Model r I F) s.heap.size = A at hD ⊢
  have hA : ∀ q : Nat, s.heap.size ≤ q → A q := fun q h => by rw [← hAe]; exact Or.inr h
  have hS : va_S A s.heap s.heap [] := va_S.rf
  have hP : va_P (dC, dI) classes (wD cB cI o_Model r I F) s.heap := hP
  have hl := lv_entry ([.ref o_Model]) (n := 4) (Nat.le_of_ble_eq_true rfl)
  rw [lg_entry_eq]
  generalize (lg_sl ([.ref o_Model]) ++ List.replicate (4 - (lg_sl ([.ref o_Model])).length) Slot.unset).toArray = ls at hl ⊢
  have hl : lv_has ls 4 [(0, .ref o_Model)] := hl
  unfold m_Model_instruction at h
  refine lv_aload_n hx hb d_Model_instruction_0 rfl (lv_at hl 0 rfl) ?_
  obtain ⟨z1_1, hc1, h⟩ := dz_ob h
  try dsimp only at h
  have hPc := hP
  have hKc := hK
  refine vp_callSi (va_Run.run (va_runV (As := []) (rest := []) ⟨hx, hb, hml, hown, hg⟩ (c_Model_words l dC dI N cB cI o_Model r I F z1_1 hc1) (cwV 0 hg (gd_V k971 k972 k973 k707 k970) rfl rfl rfl (by decide +kernel) ⟨Nat.le_of_ble_eq_true rfl, Nat.le_of_ble_eq_true rfl⟩) ⟨dz_blindR, va_recv hKc hPc (ci := 10) (q0 := 0) rfl rfl, fun U hU hW => ⟨rfl, dz_Nw hW hN, by rw [hU]; exact hPc, va_K.moved hW.alike hKc⟩⟩ rfl rfl hl.1 rfl (lv_room (Nat.le_of_ble_eq_true rfl)) d_Model_instruction_1 ⟨Nat.le_of_ble_eq_true rfl, Nat.le_of_ble_eq_true rfl⟩)) (fun r1 hw => ?_)
  have hw : z1_1 = r1 := hw.symm
  subst hw
  refine lv_istore_n (lv' := [(1, .int z1_1), (0, .ref o_Model)]) hx hb d_Model_instruction_4 rfl hl (by decide) rfl (fun ls hl => ?_)
  refine lv_iload_n hx hb d_Model_instruction_5 rfl (lv_at hl 0 rfl) ?_
  refine lv_if_ne (tgt := 11) hx hb d_Model_instruction_6 (by decide) (fun c2 => ?_) (fun c2 => ?_)
  · rw [if_neg c2] at h
    refine lv_aload_n hx hb d_Model_instruction_11 rfl (lv_at hl 1 rfl) ?_
    refine va_get (D := (dC, dI)) (ci := 10) (v := .ref (r 14)) (C := R_Model) (T := F_Model) (N := 54) hx hb hg i_Model hown hK hP 0 rfl rfl 14 (by decide) (hg _ k700) (fun _ h9 => h9) rfl d_Model_instruction_12 ?_
    refine lv_aload_n hx hb d_Model_instruction_15 rfl (lv_at hl 1 rfl) ?_
    refine va_get (D := (dC, dI)) (ci := 10) (v := .int (I 35)) (C := R_Model) (T := F_Model) (N := 54) hx hb hg i_Model hown hK hP 0 rfl rfl 35 (by decide) (hg _ k721) (fun _ h9 => h9) rfl d_Model_instruction_16 ?_
    obtain ⟨i3, h⟩ := dz_oi h
    refine va_iald (D := (dC, dI)) (f := F 14) hx hb hK hP 10 1 rfl rfl i3 d_Model_instruction_19 ?_
    refine lv_istore_n (lv' := [(2, .int ((F 14) (I 35).toNatClampNeg)), (1, .int z1_1), (0, .ref o_Model)]) hx hb d_Model_instruction_20 rfl hl (by decide) rfl (fun ls hl => ?_)
    refine l_Model_instruction_1 dC dI N cB cI o_Model r I F z1_1 hx hb hml hown hg hN hK hA (fun y1_0 H locs ls h hP hD hS hl => ?_)  _ _ _ h hP hD hS (lv_sub hl [0, 1, 2] rfl)
    refine lv_istore_n (lv' := [(3, .int y1_0), (2, .int ((F 14) (I 35).toNatClampNeg)), (1, .int z1_1), (0, .ref o_Model)]) hx hb d_Model_instruction_35 rfl hl (by decide) rfl (fun ls hl => ?_)
    refine lv_aload_n hx hb d_Model_instruction_36 rfl (lv_at hl 3 rfl) ?_
    obtain ⟨z6_1, hc6, h⟩ := dz_ob h
    try dsimp only at h
    have hPc := hP
    have hKc := hK
    refine vp_callSi (va_Run.run (va_runV (As := []) (rest := []) ⟨hx, hb, hml, hown, hg⟩ (c_Model_height l dC dI N cB cI o_Model r I F z6_1 hc6) (cwV 0 hg (gd_V k829 k830 k831 k707 k828) rfl rfl rfl (by decide +kernel) ⟨Nat.le_of_ble_eq_true rfl, Nat.le_of_ble_eq_true rfl⟩) ⟨dz_blindR, va_recv hKc hPc (ci := 10) (q0 := 0) rfl rfl, fun U hU hW => ⟨rfl, dz_Nw hW hN, by rw [hU]; exact hPc, va_K.moved hW.alike hKc⟩⟩ rfl rfl hl.1 rfl (lv_room (Nat.le_of_ble_eq_true rfl)) d_Model_instruction_37 ⟨Nat.le_of_ble_eq_true rfl, Nat.le_of_ble_eq_true rfl⟩)) (fun r6 hw => ?_)
    have hw : z6_1 = r6 := hw.symm
    subst hw
    refine lv_iload_n hx hb d_Model_instruction_40 rfl (lv_at hl 1 rfl) ?_
    refine lv_iload_n hx hb d_Model_instruction_41 rfl (lv_at hl 0 rfl) ?_
    obtain ⟨z7_1, hc7, h⟩ := dz_ob h
    try dsimp only at h
    have hPc := hP.sub (ws' := []) [] rfl
    have hKc := hK.sub (tys' := []) [] rfl
    refine vp_callSi (va_Run.run (va_runS (As := [.int ((F 14) (I 35).toNatClampNeg), .int y1_0]) (rest := [.int z6_1]) ⟨hx, hb, hml, hown, hg⟩ (c_Model_needs l dC dI N ((F 14) (I 35).toNatClampNeg) y1_0 z7_1 hc7) (va_cwS 2 hg (gd_S k975 k976 k707 k974) rfl rfl rfl (by decide +kernel) ⟨Nat.le_of_ble_eq_true rfl, Nat.le_of_ble_eq_true rfl⟩) ⟨dz_blindR, fun U hU hW => ⟨rfl, dz_Nw hW hN, by rw [hU]; exact hPc, va_K.moved hW.alike hKc⟩⟩ rfl rfl hl.1 rfl (lv_room (Nat.le_of_ble_eq_true rfl)) d_Model_instruction_42 ⟨Nat.le_of_ble_eq_true rfl, Nat.le_of_ble_eq_true rfl⟩)) (fun r7 hw => ?_)
    have hw : z7_1 = r7 := hw.symm
    subst hw
    refine lv_icmp_ge (tgt := 50) hx hb d_Model_instruction_45 (by decide) (fun c8 => ?_) (fun c8 => ?_)
    · rw [if_pos c8] at h
      refine lv_iload_n hx hb d_Model_instruction_50 rfl (lv_at hl 1 rfl) ?_
      by_cases s9_0 : ((F 14) (I 35).toNatClampNeg) = 0
      · rw [if_pos s9_0] at h
        refine lv_tableIn (off := 117) (tgt := 168) hx hb d_Model_instruction_51 (by rw [s9_0]; decide) (by rw [s9_0]; decide) (by rw [s9_0]; decide) (by decide) ?_
        refine lv_aload_n hx hb d_Model_instruction_168 rfl (lv_at hl 3 rfl) ?_
        refine lv_dup hx hb d_Model_instruction_169 rfl ?_
        refine va_get (D := (dC, dI)) (ci := 10) (v := .int (I 29)) (C := R_Model) (T := F_Model) (N := 54) hx hb hg i_Model hown hK hP 0 rfl rfl 29 (by decide) (hg _ k719) (fun _ h9 => h9) rfl d_Model_instruction_170 ?_
        refine lv_iconst (v := 1) hx hb d_Model_instruction_173 (by decide) ?_
        refine lv_isub hx hb d_Model_instruction_174 ?_
        refine va_put (D := (dC, dI)) (ci := 10) (v := .int ((I 29) - 1)) (ty := .int) (C := R_Model) (T := F_Model) (N := 54) hx hb hg i_Model t_Model t_Model_ok n_Model hown hK hP hD hS 0 rfl rfl 29 (by decide) (hg _ k719) (fun _ h9 => h9) rfl (by decide +kernel) rfl rfl (Nat.le_of_ble_eq_true rfl) d_Model_instruction_175 (fun H locs hP hD hS => ?_)
        obtain ⟨J10, eJ10, h⟩ := dz_lt h
        have hP : va_P (dC, dI) classes (wD cB cI o_Model r J10 F) H := by rw [eJ10]; exact hP
        have hD : va_D A (wD cB cI o_Model r J10 F) := by rw [eJ10]; exact hD
        refine lv_aload_n hx hb d_Model_instruction_178 rfl (lv_at hl 3 rfl) ?_
        refine lv_aload_n hx hb d_Model_instruction_179 rfl (lv_at hl 3 rfl) ?_
        refine va_get (D := (dC, dI)) (ci := 10) (v := .ref (r 27)) (C := R_Model) (T := F_Model) (N := 54) hx hb hg i_Model hown hK hP 0 rfl rfl 27 (by decide) (hg _ k731) (fun _ h9 => h9) rfl d_Model_instruction_180 ?_
        refine lv_aload_n hx hb d_Model_instruction_183 rfl (lv_at hl 3 rfl) ?_
        refine va_get (D := (dC, dI)) (ci := 10) (v := .int (J10 29)) (C := R_Model) (T := F_Model) (N := 54) hx hb hg i_Model hown hK hP 0 rfl rfl 29 (by decide) (hg _ k719) (fun _ h9 => h9) rfl d_Model_instruction_184 ?_
        obtain ⟨i11, h⟩ := dz_oi h
        refine va_iald (D := (dC, dI)) (f := F 27) hx hb hK hP 17 1 rfl rfl i11 d_Model_instruction_187 ?_
        refine va_put (D := (dC, dI)) (ci := 10) (v := .int ((F 27) (J10 29).toNatClampNeg)) (ty := .int) (C := R_Model) (T := F_Model) (N := 54) hx hb hg i_Model t_Model t_Model_ok n_Model hown hK hP hD hS 0 rfl rfl 7 (by decide) (hg _ k728) (fun _ h9 => h9) rfl (by decide +kernel) rfl rfl (Nat.le_of_ble_eq_true rfl) d_Model_instruction_188 (fun H locs hP hD hS => ?_)
        obtain ⟨J12, eJ12, h⟩ := dz_lt h
        have hP : va_P (dC, dI) classes (wD cB cI o_Model r J12 F) H := by rw [eJ12]; exact hP
        have hD : va_D A (wD cB cI o_Model r J12 F) := by rw [eJ12]; exact hD
        refine lv_aload_n hx hb d_Model_instruction_191 rfl (lv_at hl 3 rfl) ?_
        refine lv_aload_n hx hb d_Model_instruction_192 rfl (lv_at hl 3 rfl) ?_
        refine va_get (D := (dC, dI)) (ci := 10) (v := .ref (r 28)) (C := R_Model) (T := F_Model) (N := 54) hx hb hg i_Model hown hK hP 0 rfl rfl 28 (by decide) (hg _ k732) (fun _ h9 => h9) rfl d_Model_instruction_193 ?_
        refine lv_aload_n hx hb d_Model_instruction_196 rfl (lv_at hl 3 rfl) ?_
        refine va_get (D := (dC, dI)) (ci := 10) (v := .int (J12 29)) (C := R_Model) (T := F_Model) (N := 54) hx hb hg i_Model hown hK hP 0 rfl rfl 29 (by decide) (hg _ k719) (fun _ h9 => h9) rfl d_Model_instruction_197 ?_
        obtain ⟨i13, h⟩ := dz_oi h
        refine va_iald (D := (dC, dI)) (f := F 28) hx hb hK hP 18 1 rfl rfl i13 d_Model_instruction_200 ?_
        refine va_put (D := (dC, dI)) (ci := 10) (v := .int ((F 28) (J12 29).toNatClampNeg)) (ty := .int) (C := R_Model) (T := F_Model) (N := 54) hx hb hg i_Model t_Model t_Model_ok n_Model hown hK hP hD hS 0 rfl rfl 8 (by decide) (hg _ k729) (fun _ h9 => h9) rfl (by decide +kernel) rfl rfl (Nat.le_of_ble_eq_true rfl) d_Model_instruction_201 (fun H locs hP hD hS => ?_)
        obtain ⟨J14, eJ14, h⟩ := dz_lt h
        have hP : va_P (dC, dI) classes (wD cB cI o_Model r J14 F) H := by rw [eJ14]; exact hP
        have hD : va_D A (wD cB cI o_Model r J14 F) := by rw [eJ14]; exact hD
        refine lv_aload_n hx hb d_Model_instruction_204 rfl (lv_at hl 3 rfl) ?_
        refine lv_dup hx hb d_Model_instruction_205 rfl ?_
        refine va_get (D := (dC, dI)) (ci := 10) (v := .int (J14 35)) (C := R_Model) (T := F_Model) (N := 54) hx hb hg i_Model hown hK hP 0 rfl rfl 35 (by decide) (hg _ k721) (fun _ h9 => h9) rfl d_Model_instruction_206 ?_
        refine lv_iconst (v := 1) hx hb d_Model_instruction_209 (by decide) ?_
        refine lv_iadd hx hb d_Model_instruction_210 ?_
        refine va_put (D := (dC, dI)) (ci := 10) (v := .int ((J14 35) + 1)) (ty := .int) (C := R_Model) (T := F_Model) (N := 54) hx hb hg i_Model t_Model t_Model_ok n_Model hown hK hP hD hS 0 rfl rfl 35 (by decide) (hg _ k721) (fun _ h9 => h9) rfl (by decide +kernel) rfl rfl (Nat.le_of_ble_eq_true rfl) d_Model_instruction_211 (fun H locs hP hD hS => ?_)
        obtain ⟨J15, eJ15, h⟩ := dz_lt h
        have hP : va_P (dC, dI) classes (wD cB cI o_Model r J15 F) H := by rw [eJ15]; exact hP
        have hD : va_D A (wD cB cI o_Model r J15 F) := by rw [eJ15]; exact hD
        refine lv_iconst (v := 0) hx hb d_Model_instruction_214 (by decide) ?_
        obtain rfl := Option.some.inj h
        have hP9 := hP
        have hD9 := hD
        have hK9 := hK
        exact W.iret (v := 0) hx hb hr (fun t ht hW => ⟨⟨0, (), rfl, rfl, by rw [ht]; exact hP9, va_K.moved hW.alike hK9, hD9⟩, hS.F ht⟩) hS.2.2 d_Model_instruction_215
      rw [if_neg s9_0] at h
      by_cases s9_1 : ((F 14) (I 35).toNatClampNeg) = 1
      · rw [if_pos s9_1] at h
        refine lv_tableIn (off := 165) (tgt := 216) hx hb d_Model_instruction_51 (by rw [s9_1]; decide) (by rw [s9_1]; decide) (by rw [s9_1]; decide) (by decide) ?_
        refine lv_aload_n hx hb d_Model_instruction_216 rfl (lv_at hl 3 rfl) ?_
        refine lv_iconst (v := 2) hx hb d_Model_instruction_217 (by decide) ?_
        refine lv_aload_n hx hb d_Model_instruction_218 rfl (lv_at hl 3 rfl) ?_
        refine lv_iconst (v := 0) hx hb d_Model_instruction_219 (by decide) ?_
        refine lv_iload_n hx hb d_Model_instruction_220 rfl (lv_at hl 0 rfl) ?_
        obtain ⟨⟨z16_1, z16_2, z16_3⟩, hc16, h⟩ := dz_ob h
        try dsimp only at h
        have hPc := hP
        have hKc := hK
        have hDc := hD
        have hFc := dz_freeall hD hS hA
        refine va_calli (va_runV (As := [.int 0, .int y1_0]) (rest := [.int 2, .ref o_Model]) ⟨hx, hb, hml, hown, hg⟩ (c_Model_more l dC dI N cB cI o_Model r I F (0 : Int32) y1_0 H.size (z16_1, z16_2, z16_3) hc16) (cwV 2 hg (gd_V k800 k801 k802 k707 k799) rfl rfl rfl (by decide +kernel) ⟨Nat.le_of_ble_eq_true rfl, Nat.le_of_ble_eq_true rfl⟩) ⟨dz_blind, va_recv hKc hPc (ci := 10) (q0 := 0) rfl rfl, fun U hU hW => ⟨rfl, dz_Nw hW hN, by rw [hU], by rw [hU]; exact hPc, va_K.moved hW.alike hKc, hDc.weaken (fun _ _ _ _ => trivial)⟩⟩ rfl rfl hl.1 rfl (lv_room (Nat.le_of_ble_eq_true rfl)) d_Model_instruction_221 ⟨Nat.le_of_ble_eq_true rfl, Nat.le_of_ble_eq_true rfl⟩) hS (fun q _ h => hFc q h) hFc (fun r16 u16 t16 H1 locs ht hvm hw hB hz1 hk1 hS => ?_)
        obtain ⟨hP1, hK1, hD1⟩ := hB
        rw [ht] at hP1
        have hP := hP1
        have hD := hD1.weaken (fun _ q _ h => hFc q.1 h)
        have hw : z16_1 = r16 := hw.symm
        subst hw
        generalize H1 = H at hP hS ⊢
        have hP : va_P (dC, dI) classes (wD cB cI o_Model r z16_3 z16_2) H := hP
        have hD : va_D A (wD cB cI o_Model r z16_3 z16_2) := hD
        obtain ⟨⟨z17_1, z17_2⟩, hc17, h⟩ := dz_ob h
        try dsimp only at h
        have hPc := hP
        have hKc := hK
        have hDc := hD
        have hFc := dz_freeall hD hS hA
        refine va_calli (va_runV (As := [.int 2, .int z16_1]) (rest := []) ⟨hx, hb, hml, hown, hg⟩ (c_Model_next l dC dI N cB cI o_Model r z16_3 z16_2 (2 : Int32) z16_1 H.size (z17_1, z17_2) hc17) (cwV 2 hg (gd_V k871 k872 k873 k707 k870) rfl rfl rfl (by decide +kernel) ⟨Nat.le_of_ble_eq_true rfl, Nat.le_of_ble_eq_true rfl⟩) ⟨dz_blind, va_recv hKc hPc (ci := 10) (q0 := 0) rfl rfl, fun U hU hW => ⟨rfl, dz_Nw hW hN, by rw [hU], by rw [hU]; exact hPc, va_K.moved hW.alike hKc, hDc.weaken (fun _ _ _ _ => trivial)⟩⟩ rfl rfl hl.1 rfl (lv_room (Nat.le_of_ble_eq_true rfl)) d_Model_instruction_224 ⟨Nat.le_of_ble_eq_true rfl, Nat.le_of_ble_eq_true rfl⟩) hS (fun q _ h => hFc q h) hFc (fun r17 u17 t17 H1 locs ht hvm hw hB hz1 hk1 hS => ?_)
        obtain ⟨hP1, hK1, hD1⟩ := hB
        rw [ht] at hP1
        have hP := hP1
        have hD := hD1.weaken (fun _ q _ h => hFc q.1 h)
        have hw : z17_1 = r17 := hw.symm
        subst hw
        generalize H1 = H at hP hS ⊢
        have hP : va_P (dC, dI) classes (wD cB cI o_Model r z17_2 z16_2) H := hP
        have hD : va_D A (wD cB cI o_Model r z17_2 z16_2) := hD
        obtain rfl := Option.some.inj h
        have hP9 := hP
        have hD9 := hD
        have hK9 := hK
        exact W.iret (v := z17_1) hx hb hr (fun t ht hW => ⟨⟨z17_1, (), rfl, rfl, by rw [ht]; exact hP9, va_K.moved hW.alike hK9, hD9⟩, hS.F ht⟩) hS.2.2 d_Model_instruction_227
      rw [if_neg s9_1] at h
      by_cases s9_2 : ((F 14) (I 35).toNatClampNeg) = 2
      · rw [if_pos s9_2] at h
        refine lv_tableIn (off := 177) (tgt := 228) hx hb d_Model_instruction_51 (by rw [s9_2]; decide) (by rw [s9_2]; decide) (by rw [s9_2]; decide) (by decide) ?_
        refine lv_aload_n hx hb d_Model_instruction_228 rfl (lv_at hl 3 rfl) ?_
        refine lv_iconst (v := 2) hx hb d_Model_instruction_229 (by decide) ?_
        refine lv_aload_n hx hb d_Model_instruction_230 rfl (lv_at hl 3 rfl) ?_
        refine lv_iload_n hx hb d_Model_instruction_231 rfl (lv_at hl 0 rfl) ?_
        obtain ⟨⟨z18_1, z18_2, z18_3⟩, hc18, h⟩ := dz_ob h
        try dsimp only at h
        have hPc := hP
        have hKc := hK
        have hDc := hD
        have hFc := dz_freeall hD hS hA
        refine va_calli (va_runV (As := [.int y1_0]) (rest := [.int 2, .ref o_Model]) ⟨hx, hb, hml, hown, hg⟩ (c_Model_text l dC dI N cB cI o_Model r I F y1_0 H.size (z18_1, z18_2, z18_3) hc18) (cwV 1 hg (gd_V k978 k979 k980 k707 k977) rfl rfl rfl (by decide +kernel) ⟨Nat.le_of_ble_eq_true rfl, Nat.le_of_ble_eq_true rfl⟩) ⟨dz_blind, va_recv hKc hPc (ci := 10) (q0 := 0) rfl rfl, fun U hU hW => ⟨rfl, dz_Nw hW hN, by rw [hU], by rw [hU]; exact hPc, va_K.moved hW.alike hKc, hDc.weaken (fun _ _ _ _ => trivial)⟩⟩ rfl rfl hl.1 rfl (lv_room (Nat.le_of_ble_eq_true rfl)) d_Model_instruction_232 ⟨Nat.le_of_ble_eq_true rfl, Nat.le_of_ble_eq_true rfl⟩) hS (fun q _ h => hFc q h) hFc (fun r18 u18 t18 H1 locs ht hvm hw hB hz1 hk1 hS => ?_)
        obtain ⟨hP1, hK1, hD1⟩ := hB
        rw [ht] at hP1
        have hP := hP1
        have hD := hD1.weaken (fun _ q _ h => hFc q.1 h)
        have hw : z18_1 = r18 := hw.symm
        subst hw
        generalize H1 = H at hP hS ⊢
        have hP : va_P (dC, dI) classes (wD cB cI o_Model r z18_3 z18_2) H := hP
        have hD : va_D A (wD cB cI o_Model r z18_3 z18_2) := hD
        obtain ⟨⟨z19_1, z19_2⟩, hc19, h⟩ := dz_ob h
        try dsimp only at h
        have hPc := hP
        have hKc := hK
        have hDc := hD
        have hFc := dz_freeall hD hS hA
        refine va_calli (va_runV (As := [.int 2, .int z18_1]) (rest := []) ⟨hx, hb, hml, hown, hg⟩ (c_Model_next l dC dI N cB cI o_Model r z18_3 z18_2 (2 : Int32) z18_1 H.size (z19_1, z19_2) hc19) (cwV 2 hg (gd_V k871 k872 k873 k707 k870) rfl rfl rfl (by decide +kernel) ⟨Nat.le_of_ble_eq_true rfl, Nat.le_of_ble_eq_true rfl⟩) ⟨dz_blind, va_recv hKc hPc (ci := 10) (q0 := 0) rfl rfl, fun U hU hW => ⟨rfl, dz_Nw hW hN, by rw [hU], by rw [hU]; exact hPc, va_K.moved hW.alike hKc, hDc.weaken (fun _ _ _ _ => trivial)⟩⟩ rfl rfl hl.1 rfl (lv_room (Nat.le_of_ble_eq_true rfl)) d_Model_instruction_235 ⟨Nat.le_of_ble_eq_true rfl, Nat.le_of_ble_eq_true rfl⟩) hS (fun q _ h => hFc q h) hFc (fun r19 u19 t19 H1 locs ht hvm hw hB hz1 hk1 hS => ?_)
        obtain ⟨hP1, hK1, hD1⟩ := hB
        rw [ht] at hP1
        have hP := hP1
        have hD := hD1.weaken (fun _ q _ h => hFc q.1 h)
        have hw : z19_1 = r19 := hw.symm
        subst hw
        generalize H1 = H at hP hS ⊢
        have hP : va_P (dC, dI) classes (wD cB cI o_Model r z19_2 z18_2) H := hP
        have hD : va_D A (wD cB cI o_Model r z19_2 z18_2) := hD
        obtain rfl := Option.some.inj h
        have hP9 := hP
        have hD9 := hD
        have hK9 := hK
        exact W.iret (v := z19_1) hx hb hr (fun t ht hW => ⟨⟨z19_1, (), rfl, rfl, by rw [ht]; exact hP9, va_K.moved hW.alike hK9, hD9⟩, hS.F ht⟩) hS.2.2 d_Model_instruction_238
      rw [if_neg s9_2] at h
      by_cases s9_3 : ((F 14) (I 35).toNatClampNeg) = 3
      · rw [if_pos s9_3] at h
        refine lv_tableIn (off := 188) (tgt := 239) hx hb d_Model_instruction_51 (by rw [s9_3]; decide) (by rw [s9_3]; decide) (by rw [s9_3]; decide) (by decide) ?_
        refine lv_aload_n hx hb d_Model_instruction_239 rfl (lv_at hl 3 rfl) ?_
        refine lv_iconst (v := 2) hx hb d_Model_instruction_240 (by decide) ?_
        refine lv_iload_n hx hb d_Model_instruction_241 rfl (lv_at hl 0 rfl) ?_
        refine lv_if_lt (tgt := 260) hx hb d_Model_instruction_242 (by decide) (fun c20 => ?_) (fun c20 => ?_)
        · rw [if_pos c20] at h
          refine lv_iconst (v := 4) hx hb d_Model_instruction_260 (by decide) ?_
          refine lv_goto (tgt := 304) hx hb d_Model_instruction_261 (by decide) ?_
          obtain ⟨⟨z21_1, z21_2⟩, hc21, h⟩ := dz_ob h
          try dsimp only at h
          have hPc := hP
          have hKc := hK
          have hDc := hD
          have hFc := dz_freeall hD hS hA
          refine va_calli (va_runV (As := [.int 2, .int 4]) (rest := []) ⟨hx, hb, hml, hown, hg⟩ (c_Model_next l dC dI N cB cI o_Model r I F (2 : Int32) (4 : Int32) H.size (z21_1, z21_2) hc21) (cwV 2 hg (gd_V k871 k872 k873 k707 k870) rfl rfl rfl (by decide +kernel) ⟨Nat.le_of_ble_eq_true rfl, Nat.le_of_ble_eq_true rfl⟩) ⟨dz_blind, va_recv hKc hPc (ci := 10) (q0 := 0) rfl rfl, fun U hU hW => ⟨rfl, dz_Nw hW hN, by rw [hU], by rw [hU]; exact hPc, va_K.moved hW.alike hKc, hDc.weaken (fun _ _ _ _ => trivial)⟩⟩ rfl rfl hl.1 rfl (lv_room (Nat.le_of_ble_eq_true rfl)) d_Model_instruction_304 ⟨Nat.le_of_ble_eq_true rfl, Nat.le_of_ble_eq_true rfl⟩) hS (fun q _ h => hFc q h) hFc (fun r21 u21 t21 H1 locs ht hvm hw hB hz1 hk1 hS => ?_)
          obtain ⟨hP1, hK1, hD1⟩ := hB
          rw [ht] at hP1
          have hP := hP1
          have hD := hD1.weaken (fun _ q _ h => hFc q.1 h)
          have hw : z21_1 = r21 := hw.symm
          subst hw
          generalize H1 = H at hP hS ⊢
          have hP : va_P (dC, dI) classes (wD cB cI o_Model r z21_2 F) H := hP
          have hD : va_D A (wD cB cI o_Model r z21_2 F) := hD
          obtain rfl := Option.some.inj h
          have hP9 := hP
          have hD9 := hD
          have hK9 := hK
          exact W.iret (v := z21_1) hx hb hr (fun t ht hW => ⟨⟨z21_1, (), rfl, rfl, by rw [ht]; exact hP9, va_K.moved hW.alike hK9, hD9⟩, hS.F ht⟩) hS.2.2 d_Model_instruction_307
        · rw [if_neg c20] at h
          refine lv_iload_n hx hb d_Model_instruction_245 rfl (lv_at hl 0 rfl) ?_
          refine lv_aload_n hx hb d_Model_instruction_246 rfl (lv_at hl 3 rfl) ?_
          refine va_get (D := (dC, dI)) (ci := 10) (v := .ref (r 25)) (C := R_Model) (T := F_Model) (N := 54) hx hb hg i_Model hown hK hP 0 rfl rfl 25 (by decide) (hg _ k718) (fun _ h9 => h9) rfl d_Model_instruction_247 ?_
          refine lv_aload_n hx hb d_Model_instruction_250 rfl (lv_at hl 3 rfl) ?_
          refine va_get (D := (dC, dI)) (ci := 10) (v := .int (I 22)) (C := R_Model) (T := F_Model) (N := 54) hx hb hg i_Model hown hK hP 0 rfl rfl 22 (by decide) (hg _ k715) (fun _ h9 => h9) rfl d_Model_instruction_251 ?_
          refine lv_iconst (v := 1) hx hb d_Model_instruction_254 (by decide) ?_
          refine lv_isub hx hb d_Model_instruction_255 ?_
          obtain ⟨i22, h⟩ := dz_oi h
          refine va_iald (D := (dC, dI)) (f := F 25) hx hb hK hP 15 1 rfl rfl i22 d_Model_instruction_256 ?_
          refine lv_icmp_lt (tgt := 264) hx hb d_Model_instruction_257 (by decide) (fun c23 => ?_) (fun c23 => ?_)
          · rw [if_pos c23] at h
            refine lv_aload_n hx hb d_Model_instruction_264 rfl (lv_at hl 3 rfl) ?_
            refine lv_aload_n hx hb d_Model_instruction_265 rfl (lv_at hl 3 rfl) ?_
            refine va_get (D := (dC, dI)) (ci := 10) (v := .ref (r 27)) (C := R_Model) (T := F_Model) (N := 54) hx hb hg i_Model hown hK hP 0 rfl rfl 27 (by decide) (hg _ k731) (fun _ h9 => h9) rfl d_Model_instruction_266 ?_
            refine lv_aload_n hx hb d_Model_instruction_269 rfl (lv_at hl 3 rfl) ?_
            refine va_get (D := (dC, dI)) (ci := 10) (v := .ref (r 24)) (C := R_Model) (T := F_Model) (N := 54) hx hb hg i_Model hown hK hP 0 rfl rfl 24 (by decide) (hg _ k717) (fun _ h9 => h9) rfl d_Model_instruction_270 ?_
            refine lv_aload_n hx hb d_Model_instruction_273 rfl (lv_at hl 3 rfl) ?_
            refine va_get (D := (dC, dI)) (ci := 10) (v := .int (I 22)) (C := R_Model) (T := F_Model) (N := 54) hx hb hg i_Model hown hK hP 0 rfl rfl 22 (by decide) (hg _ k715) (fun _ h9 => h9) rfl d_Model_instruction_274 ?_
            refine lv_iconst (v := 1) hx hb d_Model_instruction_277 (by decide) ?_
            refine lv_isub hx hb d_Model_instruction_278 ?_
            obtain ⟨i24, h⟩ := dz_oi h
            refine va_iald (D := (dC, dI)) (f := F 24) hx hb hK hP 14 1 rfl rfl i24 d_Model_instruction_279 ?_
            refine lv_iload_n hx hb d_Model_instruction_280 rfl (lv_at hl 0 rfl) ?_
            refine lv_iadd hx hb d_Model_instruction_281 ?_
            obtain ⟨i25, h⟩ := dz_oi h
            refine va_iald (D := (dC, dI)) (f := F 27) hx hb hK hP 17 1 rfl rfl i25 d_Model_instruction_282 ?_
            refine lv_aload_n hx hb d_Model_instruction_283 rfl (lv_at hl 3 rfl) ?_
            refine va_get (D := (dC, dI)) (ci := 10) (v := .ref (r 28)) (C := R_Model) (T := F_Model) (N := 54) hx hb hg i_Model hown hK hP 0 rfl rfl 28 (by decide) (hg _ k732) (fun _ h9 => h9) rfl d_Model_instruction_284 ?_
            refine lv_aload_n hx hb d_Model_instruction_287 rfl (lv_at hl 3 rfl) ?_
            refine va_get (D := (dC, dI)) (ci := 10) (v := .ref (r 24)) (C := R_Model) (T := F_Model) (N := 54) hx hb hg i_Model hown hK hP 0 rfl rfl 24 (by decide) (hg _ k717) (fun _ h9 => h9) rfl d_Model_instruction_288 ?_
            refine lv_aload_n hx hb d_Model_instruction_291 rfl (lv_at hl 3 rfl) ?_
            refine va_get (D := (dC, dI)) (ci := 10) (v := .int (I 22)) (C := R_Model) (T := F_Model) (N := 54) hx hb hg i_Model hown hK hP 0 rfl rfl 22 (by decide) (hg _ k715) (fun _ h9 => h9) rfl d_Model_instruction_292 ?_
            refine lv_iconst (v := 1) hx hb d_Model_instruction_295 (by decide) ?_
            refine lv_isub hx hb d_Model_instruction_296 ?_
            obtain ⟨i26, h⟩ := dz_oi h
            refine va_iald (D := (dC, dI)) (f := F 24) hx hb hK hP 14 1 rfl rfl i26 d_Model_instruction_297 ?_
            refine lv_iload_n hx hb d_Model_instruction_298 rfl (lv_at hl 0 rfl) ?_
            refine lv_iadd hx hb d_Model_instruction_299 ?_
            obtain ⟨i27, h⟩ := dz_oi h
            refine va_iald (D := (dC, dI)) (f := F 28) hx hb hK hP 18 1 rfl rfl i27 d_Model_instruction_300 ?_
            obtain ⟨⟨z28_1, z28_2, z28_3⟩, hc28, h⟩ := dz_ob h
            try dsimp only at h
            have hPc := hP
            have hKc := hK
            have hDc := hD
            have hFc := dz_freeall hD hS hA
            refine va_calli (va_runV (As := [.int ((F 27) (((F 24) ((I 22) - 1).toNatClampNeg) + y1_0).toNatClampNeg), .int ((F 28) (((F 24) ((I 22) - 1).toNatClampNeg) + y1_0).toNatClampNeg)]) (rest := [.int 2, .ref o_Model]) ⟨hx, hb, hml, hown, hg⟩ (c_Model_more l dC dI N cB cI o_Model r I F ((F 27) (((F 24) ((I 22) - 1).toNatClampNeg) + y1_0).toNatClampNeg) ((F 28) (((F 24) ((I 22) - 1).toNatClampNeg) + y1_0).toNatClampNeg) H.size (z28_1, z28_2, z28_3) hc28) (cwV 2 hg (gd_V k800 k801 k802 k707 k799) rfl rfl rfl (by decide +kernel) ⟨Nat.le_of_ble_eq_true rfl, Nat.le_of_ble_eq_true rfl⟩) ⟨dz_blind, va_recv hKc hPc (ci := 10) (q0 := 0) rfl rfl, fun U hU hW => ⟨rfl, dz_Nw hW hN, by rw [hU], by rw [hU]; exact hPc, va_K.moved hW.alike hKc, hDc.weaken (fun _ _ _ _ => trivial)⟩⟩ rfl rfl hl.1 rfl (lv_room (Nat.le_of_ble_eq_true rfl)) d_Model_instruction_301 ⟨Nat.le_of_ble_eq_true rfl, Nat.le_of_ble_eq_true rfl⟩) hS (fun q _ h => hFc q h) hFc (fun r28 u28 t28 H1 locs ht hvm hw hB hz1 hk1 hS => ?_)
            obtain ⟨hP1, hK1, hD1⟩ := hB
            rw [ht] at hP1
            have hP := hP1
            have hD := hD1.weaken (fun _ q _ h => hFc q.1 h)
            have hw : z28_1 = r28 := hw.symm
            subst hw
            generalize H1 = H at hP hS ⊢
            have hP : va_P (dC, dI) classes (wD cB cI o_Model r z28_3 z28_2) H := hP
            have hD : va_D A (wD cB cI o_Model r z28_3 z28_2) := hD
            obtain ⟨⟨z29_1, z29_2⟩, hc29, h⟩ := dz_ob h
            try dsimp only at h
            have hPc := hP
            have hKc := hK
            have hDc := hD
            have hFc := dz_freeall hD hS hA
            refine va_calli (va_runV (As := [.int 2, .int z28_1]) (rest := []) ⟨hx, hb, hml, hown, hg⟩ (c_Model_next l dC dI N cB cI o_Model r z28_3 z28_2 (2 : Int32) z28_1 H.size (z29_1, z29_2) hc29) (cwV 2 hg (gd_V k871 k872 k873 k707 k870) rfl rfl rfl (by decide +kernel) ⟨Nat.le_of_ble_eq_true rfl, Nat.le_of_ble_eq_true rfl⟩) ⟨dz_blind, va_recv hKc hPc (ci := 10) (q0 := 0) rfl rfl, fun U hU hW => ⟨rfl, dz_Nw hW hN, by rw [hU], by rw [hU]; exact hPc, va_K.moved hW.alike hKc, hDc.weaken (fun _ _ _ _ => trivial)⟩⟩ rfl rfl hl.1 rfl (lv_room (Nat.le_of_ble_eq_true rfl)) d_Model_instruction_304 ⟨Nat.le_of_ble_eq_true rfl, Nat.le_of_ble_eq_true rfl⟩) hS (fun q _ h => hFc q h) hFc (fun r29 u29 t29 H1 locs ht hvm hw hB hz1 hk1 hS => ?_)
            obtain ⟨hP1, hK1, hD1⟩ := hB
            rw [ht] at hP1
            have hP := hP1
            have hD := hD1.weaken (fun _ q _ h => hFc q.1 h)
            have hw : z29_1 = r29 := hw.symm
            subst hw
            generalize H1 = H at hP hS ⊢
            have hP : va_P (dC, dI) classes (wD cB cI o_Model r z29_2 z28_2) H := hP
            have hD : va_D A (wD cB cI o_Model r z29_2 z28_2) := hD
            obtain rfl := Option.some.inj h
            have hP9 := hP
            have hD9 := hD
            have hK9 := hK
            exact W.iret (v := z29_1) hx hb hr (fun t ht hW => ⟨⟨z29_1, (), rfl, rfl, by rw [ht]; exact hP9, va_K.moved hW.alike hK9, hD9⟩, hS.F ht⟩) hS.2.2 d_Model_instruction_307
          · rw [if_neg c23] at h
            refine lv_iconst (v := 4) hx hb d_Model_instruction_260 (by decide) ?_
            refine lv_goto (tgt := 304) hx hb d_Model_instruction_261 (by decide) ?_
            obtain ⟨⟨z30_1, z30_2⟩, hc30, h⟩ := dz_ob h
            try dsimp only at h
            have hPc := hP
            have hKc := hK
            have hDc := hD
            have hFc := dz_freeall hD hS hA
            refine va_calli (va_runV (As := [.int 2, .int 4]) (rest := []) ⟨hx, hb, hml, hown, hg⟩ (c_Model_next l dC dI N cB cI o_Model r I F (2 : Int32) (4 : Int32) H.size (z30_1, z30_2) hc30) (cwV 2 hg (gd_V k871 k872 k873 k707 k870) rfl rfl rfl (by decide +kernel) ⟨Nat.le_of_ble_eq_true rfl, Nat.le_of_ble_eq_true rfl⟩) ⟨dz_blind, va_recv hKc hPc (ci := 10) (q0 := 0) rfl rfl, fun U hU hW => ⟨rfl, dz_Nw hW hN, by rw [hU], by rw [hU]; exact hPc, va_K.moved hW.alike hKc, hDc.weaken (fun _ _ _ _ => trivial)⟩⟩ rfl rfl hl.1 rfl (lv_room (Nat.le_of_ble_eq_true rfl)) d_Model_instruction_304 ⟨Nat.le_of_ble_eq_true rfl, Nat.le_of_ble_eq_true rfl⟩) hS (fun q _ h => hFc q h) hFc (fun r30 u30 t30 H1 locs ht hvm hw hB hz1 hk1 hS => ?_)
            obtain ⟨hP1, hK1, hD1⟩ := hB
            rw [ht] at hP1
            have hP := hP1
            have hD := hD1.weaken (fun _ q _ h => hFc q.1 h)
            have hw : z30_1 = r30 := hw.symm
            subst hw
            generalize H1 = H at hP hS ⊢
            have hP : va_P (dC, dI) classes (wD cB cI o_Model r z30_2 F) H := hP
            have hD : va_D A (wD cB cI o_Model r z30_2 F) := hD
            obtain rfl := Option.some.inj h
            have hP9 := hP
            have hD9 := hD
            have hK9 := hK
            exact W.iret (v := z30_1) hx hb hr (fun t ht hW => ⟨⟨z30_1, (), rfl, rfl, by rw [ht]; exact hP9, va_K.moved hW.alike hK9, hD9⟩, hS.F ht⟩) hS.2.2 d_Model_instruction_307
      rw [if_neg s9_3] at h
      by_cases s9_4 : ((F 14) (I 35).toNatClampNeg) = 4
      · rw [if_pos s9_4] at h
        refine lv_tableIn (off := 257) (tgt := 308) hx hb d_Model_instruction_51 (by rw [s9_4]; decide) (by rw [s9_4]; decide) (by rw [s9_4]; decide) (by decide) ?_
        refine lv_aload_n hx hb d_Model_instruction_308 rfl (lv_at hl 3 rfl) ?_
        refine lv_iconst (v := 2) hx hb d_Model_instruction_309 (by decide) ?_
        refine lv_aload_n hx hb d_Model_instruction_310 rfl (lv_at hl 3 rfl) ?_
        refine lv_iload_n hx hb d_Model_instruction_311 rfl (lv_at hl 0 rfl) ?_
        obtain ⟨⟨z31_1, z31_2, z31_3⟩, hc31, h⟩ := dz_ob h
        try dsimp only at h
        have hPc := hP
        have hKc := hK
        have hDc := hD
        have hFc := dz_freeall hD hS hA
        refine va_calli (va_runV (As := [.int y1_0]) (rest := [.int 2, .ref o_Model]) ⟨hx, hb, hml, hown, hg⟩ (c_Model_store l dC dI N cB cI o_Model r I F y1_0 H.size (z31_1, z31_2, z31_3) hc31) (cwV 1 hg (gd_V k982 k983 k984 k707 k981) rfl rfl rfl (by decide +kernel) ⟨Nat.le_of_ble_eq_true rfl, Nat.le_of_ble_eq_true rfl⟩) ⟨dz_blind, va_recv hKc hPc (ci := 10) (q0 := 0) rfl rfl, fun U hU hW => ⟨rfl, dz_Nw hW hN, by rw [hU], by rw [hU]; exact hPc, va_K.moved hW.alike hKc, hDc.weaken (fun _ _ _ _ => trivial)⟩⟩ rfl rfl hl.1 rfl (lv_room (Nat.le_of_ble_eq_true rfl)) d_Model_instruction_312 ⟨Nat.le_of_ble_eq_true rfl, Nat.le_of_ble_eq_true rfl⟩) hS (fun q _ h => hFc q h) hFc (fun r31 u31 t31 H1 locs ht hvm hw hB hz1 hk1 hS => ?_)
        obtain ⟨hP1, hK1, hD1⟩ := hB
        rw [ht] at hP1
        have hP := hP1
        have hD := hD1.weaken (fun _ q _ h => hFc q.1 h)
        have hw : z31_1 = r31 := hw.symm
        subst hw
        generalize H1 = H at hP hS ⊢
        have hP : va_P (dC, dI) classes (wD cB cI o_Model r z31_3 z31_2) H := hP
        have hD : va_D A (wD cB cI o_Model r z31_3 z31_2) := hD
        obtain ⟨⟨z32_1, z32_2⟩, hc32, h⟩ := dz_ob h
        try dsimp only at h
        have hPc := hP
        have hKc := hK
        have hDc := hD
        have hFc := dz_freeall hD hS hA
        refine va_calli (va_runV (As := [.int 2, .int z31_1]) (rest := []) ⟨hx, hb, hml, hown, hg⟩ (c_Model_next l dC dI N cB cI o_Model r z31_3 z31_2 (2 : Int32) z31_1 H.size (z32_1, z32_2) hc32) (cwV 2 hg (gd_V k871 k872 k873 k707 k870) rfl rfl rfl (by decide +kernel) ⟨Nat.le_of_ble_eq_true rfl, Nat.le_of_ble_eq_true rfl⟩) ⟨dz_blind, va_recv hKc hPc (ci := 10) (q0 := 0) rfl rfl, fun U hU hW => ⟨rfl, dz_Nw hW hN, by rw [hU], by rw [hU]; exact hPc, va_K.moved hW.alike hKc, hDc.weaken (fun _ _ _ _ => trivial)⟩⟩ rfl rfl hl.1 rfl (lv_room (Nat.le_of_ble_eq_true rfl)) d_Model_instruction_315 ⟨Nat.le_of_ble_eq_true rfl, Nat.le_of_ble_eq_true rfl⟩) hS (fun q _ h => hFc q h) hFc (fun r32 u32 t32 H1 locs ht hvm hw hB hz1 hk1 hS => ?_)
        obtain ⟨hP1, hK1, hD1⟩ := hB
        rw [ht] at hP1
        have hP := hP1
        have hD := hD1.weaken (fun _ q _ h => hFc q.1 h)
        have hw : z32_1 = r32 := hw.symm
        subst hw
        generalize H1 = H at hP hS ⊢
        have hP : va_P (dC, dI) classes (wD cB cI o_Model r z32_2 z31_2) H := hP
        have hD : va_D A (wD cB cI o_Model r z32_2 z31_2) := hD
        obtain rfl := Option.some.inj h
        have hP9 := hP
        have hD9 := hD
        have hK9 := hK
        exact W.iret (v := z32_1) hx hb hr (fun t ht hW => ⟨⟨z32_1, (), rfl, rfl, by rw [ht]; exact hP9, va_K.moved hW.alike hK9, hD9⟩, hS.F ht⟩) hS.2.2 d_Model_instruction_318
      rw [if_neg s9_4] at h
      by_cases s9_5 : ((F 14) (I 35).toNatClampNeg) = 5
      · rw [if_pos s9_5] at h
        refine lv_tableIn (off := 268) (tgt := 319) hx hb d_Model_instruction_51 (by rw [s9_5]; decide) (by rw [s9_5]; decide) (by rw [s9_5]; decide) (by decide) ?_
        refine lv_aload_n hx hb d_Model_instruction_319 rfl (lv_at hl 3 rfl) ?_
        refine lv_iconst (v := 2) hx hb d_Model_instruction_320 (by decide) ?_
        refine lv_aload_n hx hb d_Model_instruction_321 rfl (lv_at hl 3 rfl) ?_
        refine lv_iload_n hx hb d_Model_instruction_322 rfl (lv_at hl 0 rfl) ?_
        obtain ⟨⟨z33_1, z33_2, z33_3⟩, hc33, h⟩ := dz_ob h
        try dsimp only at h
        have hPc := hP
        have hKc := hK
        have hDc := hD
        have hFc := dz_freeall hD hS hA
        refine va_calli (va_runV (As := [.int y1_0]) (rest := [.int 2, .ref o_Model]) ⟨hx, hb, hml, hown, hg⟩ (c_Model_free l dC dI N cB cI o_Model r I F y1_0 H.size (z33_1, z33_2, z33_3) hc33) (cwV 1 hg (gd_V k986 k987 k988 k707 k985) rfl rfl rfl (by decide +kernel) ⟨Nat.le_of_ble_eq_true rfl, Nat.le_of_ble_eq_true rfl⟩) ⟨dz_blind, va_recv hKc hPc (ci := 10) (q0 := 0) rfl rfl, fun U hU hW => ⟨rfl, dz_Nw hW hN, by rw [hU], by rw [hU]; exact hPc, va_K.moved hW.alike hKc, hDc.weaken (fun _ _ _ _ => trivial)⟩⟩ rfl rfl hl.1 rfl (lv_room (Nat.le_of_ble_eq_true rfl)) d_Model_instruction_323 ⟨Nat.le_of_ble_eq_true rfl, Nat.le_of_ble_eq_true rfl⟩) hS (fun q _ h => hFc q h) hFc (fun r33 u33 t33 H1 locs ht hvm hw hB hz1 hk1 hS => ?_)
        obtain ⟨hP1, hK1, hD1⟩ := hB
        rw [ht] at hP1
        have hP := hP1
        have hD := hD1.weaken (fun _ q _ h => hFc q.1 h)
        have hw : z33_1 = r33 := hw.symm
        subst hw
        generalize H1 = H at hP hS ⊢
        have hP : va_P (dC, dI) classes (wD cB cI o_Model r z33_3 z33_2) H := hP
        have hD : va_D A (wD cB cI o_Model r z33_3 z33_2) := hD
        obtain ⟨⟨z34_1, z34_2⟩, hc34, h⟩ := dz_ob h
        try dsimp only at h
        have hPc := hP
        have hKc := hK
        have hDc := hD
        have hFc := dz_freeall hD hS hA
        refine va_calli (va_runV (As := [.int 2, .int z33_1]) (rest := []) ⟨hx, hb, hml, hown, hg⟩ (c_Model_next l dC dI N cB cI o_Model r z33_3 z33_2 (2 : Int32) z33_1 H.size (z34_1, z34_2) hc34) (cwV 2 hg (gd_V k871 k872 k873 k707 k870) rfl rfl rfl (by decide +kernel) ⟨Nat.le_of_ble_eq_true rfl, Nat.le_of_ble_eq_true rfl⟩) ⟨dz_blind, va_recv hKc hPc (ci := 10) (q0 := 0) rfl rfl, fun U hU hW => ⟨rfl, dz_Nw hW hN, by rw [hU], by rw [hU]; exact hPc, va_K.moved hW.alike hKc, hDc.weaken (fun _ _ _ _ => trivial)⟩⟩ rfl rfl hl.1 rfl (lv_room (Nat.le_of_ble_eq_true rfl)) d_Model_instruction_326 ⟨Nat.le_of_ble_eq_true rfl, Nat.le_of_ble_eq_true rfl⟩) hS (fun q _ h => hFc q h) hFc (fun r34 u34 t34 H1 locs ht hvm hw hB hz1 hk1 hS => ?_)
        obtain ⟨hP1, hK1, hD1⟩ := hB
        rw [ht] at hP1
        have hP := hP1
        have hD := hD1.weaken (fun _ q _ h => hFc q.1 h)
        have hw : z34_1 = r34 := hw.symm
        subst hw
        generalize H1 = H at hP hS ⊢
        have hP : va_P (dC, dI) classes (wD cB cI o_Model r z34_2 z33_2) H := hP
        have hD : va_D A (wD cB cI o_Model r z34_2 z33_2) := hD
        obtain rfl := Option.some.inj h
        have hP9 := hP
        have hD9 := hD
        have hK9 := hK
        exact W.iret (v := z34_1) hx hb hr (fun t ht hW => ⟨⟨z34_1, (), rfl, rfl, by rw [ht]; exact hP9, va_K.moved hW.alike hK9, hD9⟩, hS.F ht⟩) hS.2.2 d_Model_instruction_329
      rw [if_neg s9_5] at h
      by_cases s9_6 : ((F 14) (I 35).toNatClampNeg) = 6
      · rw [if_pos s9_6] at h
        refine lv_tableIn (off := 279) (tgt := 330) hx hb d_Model_instruction_51 (by rw [s9_6]; decide) (by rw [s9_6]; decide) (by rw [s9_6]; decide) (by decide) ?_
        refine lv_aload_n hx hb d_Model_instruction_330 rfl (lv_at hl 3 rfl) ?_
        refine lv_iconst (v := 2) hx hb d_Model_instruction_331 (by decide) ?_
        refine lv_iload_n hx hb d_Model_instruction_332 rfl (lv_at hl 0 rfl) ?_
        refine lv_if_lt (tgt := 343) hx hb d_Model_instruction_333 (by decide) (fun c35 => ?_) (fun c35 => ?_)
        · rw [if_pos c35] at h
          refine lv_iconst (v := 4) hx hb d_Model_instruction_343 (by decide) ?_
          refine lv_goto (tgt := 363) hx hb d_Model_instruction_344 (by decide) ?_
          obtain ⟨⟨z36_1, z36_2⟩, hc36, h⟩ := dz_ob h
          try dsimp only at h
          have hPc := hP
          have hKc := hK
          have hDc := hD
          have hFc := dz_freeall hD hS hA
          refine va_calli (va_runV (As := [.int 2, .int 4]) (rest := []) ⟨hx, hb, hml, hown, hg⟩ (c_Model_next l dC dI N cB cI o_Model r I F (2 : Int32) (4 : Int32) H.size (z36_1, z36_2) hc36) (cwV 2 hg (gd_V k871 k872 k873 k707 k870) rfl rfl rfl (by decide +kernel) ⟨Nat.le_of_ble_eq_true rfl, Nat.le_of_ble_eq_true rfl⟩) ⟨dz_blind, va_recv hKc hPc (ci := 10) (q0 := 0) rfl rfl, fun U hU hW => ⟨rfl, dz_Nw hW hN, by rw [hU], by rw [hU]; exact hPc, va_K.moved hW.alike hKc, hDc.weaken (fun _ _ _ _ => trivial)⟩⟩ rfl rfl hl.1 rfl (lv_room (Nat.le_of_ble_eq_true rfl)) d_Model_instruction_363 ⟨Nat.le_of_ble_eq_true rfl, Nat.le_of_ble_eq_true rfl⟩) hS (fun q _ h => hFc q h) hFc (fun r36 u36 t36 H1 locs ht hvm hw hB hz1 hk1 hS => ?_)
          obtain ⟨hP1, hK1, hD1⟩ := hB
          rw [ht] at hP1
          have hP := hP1
          have hD := hD1.weaken (fun _ q _ h => hFc q.1 h)
          have hw : z36_1 = r36 := hw.symm
          subst hw
          generalize H1 = H at hP hS ⊢
          have hP : va_P (dC, dI) classes (wD cB cI o_Model r z36_2 F) H := hP
          have hD : va_D A (wD cB cI o_Model r z36_2 F) := hD
          obtain rfl := Option.some.inj h
          have hP9 := hP
          have hD9 := hD
          have hK9 := hK
          exact W.iret (v := z36_1) hx hb hr (fun t ht hW => ⟨⟨z36_1, (), rfl, rfl, by rw [ht]; exact hP9, va_K.moved hW.alike hK9, hD9⟩, hS.F ht⟩) hS.2.2 d_Model_instruction_366
        · rw [if_neg c35] at h
          refine lv_iload_n hx hb d_Model_instruction_336 rfl (lv_at hl 0 rfl) ?_
          refine lv_sipush (v := 2048) hx hb d_Model_instruction_337 (by decide) ?_
          refine lv_icmp_lt (tgt := 347) hx hb d_Model_instruction_340 (by decide) (fun c37 => ?_) (fun c37 => ?_)
          · rw [if_pos c37] at h
            refine lv_aload_n hx hb d_Model_instruction_347 rfl (lv_at hl 3 rfl) ?_
            refine lv_aload_n hx hb d_Model_instruction_348 rfl (lv_at hl 3 rfl) ?_
            refine va_get (D := (dC, dI)) (ci := 10) (v := .ref (r 5)) (C := R_Model) (T := F_Model) (N := 54) hx hb hg i_Model hown hK hP 0 rfl rfl 5 (by decide) (hg _ k758) (fun _ h9 => h9) rfl d_Model_instruction_349 ?_
            refine lv_iload_n hx hb d_Model_instruction_352 rfl (lv_at hl 0 rfl) ?_
            obtain ⟨i38, h⟩ := dz_oi h
            refine va_iald (D := (dC, dI)) (f := F 5) hx hb hK hP 4 1 rfl rfl i38 d_Model_instruction_353 ?_
            refine lv_aload_n hx hb d_Model_instruction_354 rfl (lv_at hl 3 rfl) ?_
            refine va_get (D := (dC, dI)) (ci := 10) (v := .ref (r 6)) (C := R_Model) (T := F_Model) (N := 54) hx hb hg i_Model hown hK hP 0 rfl rfl 6 (by decide) (hg _ k759) (fun _ h9 => h9) rfl d_Model_instruction_355 ?_
            refine lv_iload_n hx hb d_Model_instruction_358 rfl (lv_at hl 0 rfl) ?_
            obtain ⟨i39, h⟩ := dz_oi h
            refine va_iald (D := (dC, dI)) (f := F 6) hx hb hK hP 5 1 rfl rfl i39 d_Model_instruction_359 ?_
            obtain ⟨⟨z40_1, z40_2, z40_3⟩, hc40, h⟩ := dz_ob h
            try dsimp only at h
            have hPc := hP
            have hKc := hK
            have hDc := hD
            have hFc := dz_freeall hD hS hA
            refine va_calli (va_runV (As := [.int ((F 5) y1_0.toNatClampNeg), .int ((F 6) y1_0.toNatClampNeg)]) (rest := [.int 2, .ref o_Model]) ⟨hx, hb, hml, hown, hg⟩ (c_Model_more l dC dI N cB cI o_Model r I F ((F 5) y1_0.toNatClampNeg) ((F 6) y1_0.toNatClampNeg) H.size (z40_1, z40_2, z40_3) hc40) (cwV 2 hg (gd_V k800 k801 k802 k707 k799) rfl rfl rfl (by decide +kernel) ⟨Nat.le_of_ble_eq_true rfl, Nat.le_of_ble_eq_true rfl⟩) ⟨dz_blind, va_recv hKc hPc (ci := 10) (q0 := 0) rfl rfl, fun U hU hW => ⟨rfl, dz_Nw hW hN, by rw [hU], by rw [hU]; exact hPc, va_K.moved hW.alike hKc, hDc.weaken (fun _ _ _ _ => trivial)⟩⟩ rfl rfl hl.1 rfl (lv_room (Nat.le_of_ble_eq_true rfl)) d_Model_instruction_360 ⟨Nat.le_of_ble_eq_true rfl, Nat.le_of_ble_eq_true rfl⟩) hS (fun q _ h => hFc q h) hFc (fun r40 u40 t40 H1 locs ht hvm hw hB hz1 hk1 hS => ?_)
            obtain ⟨hP1, hK1, hD1⟩ := hB
            rw [ht] at hP1
            have hP := hP1
            have hD := hD1.weaken (fun _ q _ h => hFc q.1 h)
            have hw : z40_1 = r40 := hw.symm
            subst hw
            generalize H1 = H at hP hS ⊢
            have hP : va_P (dC, dI) classes (wD cB cI o_Model r z40_3 z40_2) H := hP
            have hD : va_D A (wD cB cI o_Model r z40_3 z40_2) := hD
            obtain ⟨⟨z41_1, z41_2⟩, hc41, h⟩ := dz_ob h
            try dsimp only at h
            have hPc := hP
            have hKc := hK
            have hDc := hD
            have hFc := dz_freeall hD hS hA
            refine va_calli (va_runV (As := [.int 2, .int z40_1]) (rest := []) ⟨hx, hb, hml, hown, hg⟩ (c_Model_next l dC dI N cB cI o_Model r z40_3 z40_2 (2 : Int32) z40_1 H.size (z41_1, z41_2) hc41) (cwV 2 hg (gd_V k871 k872 k873 k707 k870) rfl rfl rfl (by decide +kernel) ⟨Nat.le_of_ble_eq_true rfl, Nat.le_of_ble_eq_true rfl⟩) ⟨dz_blind, va_recv hKc hPc (ci := 10) (q0 := 0) rfl rfl, fun U hU hW => ⟨rfl, dz_Nw hW hN, by rw [hU], by rw [hU]; exact hPc, va_K.moved hW.alike hKc, hDc.weaken (fun _ _ _ _ => trivial)⟩⟩ rfl rfl hl.1 rfl (lv_room (Nat.le_of_ble_eq_true rfl)) d_Model_instruction_363 ⟨Nat.le_of_ble_eq_true rfl, Nat.le_of_ble_eq_true rfl⟩) hS (fun q _ h => hFc q h) hFc (fun r41 u41 t41 H1 locs ht hvm hw hB hz1 hk1 hS => ?_)
            obtain ⟨hP1, hK1, hD1⟩ := hB
            rw [ht] at hP1
            have hP := hP1
            have hD := hD1.weaken (fun _ q _ h => hFc q.1 h)
            have hw : z41_1 = r41 := hw.symm
            subst hw
            generalize H1 = H at hP hS ⊢
            have hP : va_P (dC, dI) classes (wD cB cI o_Model r z41_2 z40_2) H := hP
            have hD : va_D A (wD cB cI o_Model r z41_2 z40_2) := hD
            obtain rfl := Option.some.inj h
            have hP9 := hP
            have hD9 := hD
            have hK9 := hK
            exact W.iret (v := z41_1) hx hb hr (fun t ht hW => ⟨⟨z41_1, (), rfl, rfl, by rw [ht]; exact hP9, va_K.moved hW.alike hK9, hD9⟩, hS.F ht⟩) hS.2.2 d_Model_instruction_366
          · rw [if_neg c37] at h
            refine lv_iconst (v := 4) hx hb d_Model_instruction_343 (by decide) ?_
            refine lv_goto (tgt := 363) hx hb d_Model_instruction_344 (by decide) ?_
            obtain ⟨⟨z42_1, z42_2⟩, hc42, h⟩ := dz_ob h
            try dsimp only at h
            have hPc := hP
            have hKc := hK
            have hDc := hD
            have hFc := dz_freeall hD hS hA
            refine va_calli (va_runV (As := [.int 2, .int 4]) (rest := []) ⟨hx, hb, hml, hown, hg⟩ (c_Model_next l dC dI N cB cI o_Model r I F (2 : Int32) (4 : Int32) H.size (z42_1, z42_2) hc42) (cwV 2 hg (gd_V k871 k872 k873 k707 k870) rfl rfl rfl (by decide +kernel) ⟨Nat.le_of_ble_eq_true rfl, Nat.le_of_ble_eq_true rfl⟩) ⟨dz_blind, va_recv hKc hPc (ci := 10) (q0 := 0) rfl rfl, fun U hU hW => ⟨rfl, dz_Nw hW hN, by rw [hU], by rw [hU]; exact hPc, va_K.moved hW.alike hKc, hDc.weaken (fun _ _ _ _ => trivial)⟩⟩ rfl rfl hl.1 rfl (lv_room (Nat.le_of_ble_eq_true rfl)) d_Model_instruction_363 ⟨Nat.le_of_ble_eq_true rfl, Nat.le_of_ble_eq_true rfl⟩) hS (fun q _ h => hFc q h) hFc (fun r42 u42 t42 H1 locs ht hvm hw hB hz1 hk1 hS => ?_)
            obtain ⟨hP1, hK1, hD1⟩ := hB
            rw [ht] at hP1
            have hP := hP1
            have hD := hD1.weaken (fun _ q _ h => hFc q.1 h)
            have hw : z42_1 = r42 := hw.symm
            subst hw
            generalize H1 = H at hP hS ⊢
            have hP : va_P (dC, dI) classes (wD cB cI o_Model r z42_2 F) H := hP
            have hD : va_D A (wD cB cI o_Model r z42_2 F) := hD
            obtain rfl := Option.some.inj h
            have hP9 := hP
            have hD9 := hD
            have hK9 := hK
            exact W.iret (v := z42_1) hx hb hr (fun t ht hW => ⟨⟨z42_1, (), rfl, rfl, by rw [ht]; exact hP9, va_K.moved hW.alike hK9, hD9⟩, hS.F ht⟩) hS.2.2 d_Model_instruction_366
      rw [if_neg s9_6] at h
      by_cases s9_7 : ((F 14) (I 35).toNatClampNeg) = 7
      · rw [if_pos s9_7] at h
        refine lv_tableIn (off := 316) (tgt := 367) hx hb d_Model_instruction_51 (by rw [s9_7]; decide) (by rw [s9_7]; decide) (by rw [s9_7]; decide) (by decide) ?_
        refine lv_aload_n hx hb d_Model_instruction_367 rfl (lv_at hl 3 rfl) ?_
        refine lv_iconst (v := 2) hx hb d_Model_instruction_368 (by decide) ?_
        refine lv_aload_n hx hb d_Model_instruction_369 rfl (lv_at hl 3 rfl) ?_
        refine lv_iload_n hx hb d_Model_instruction_370 rfl (lv_at hl 0 rfl) ?_
        obtain ⟨⟨z43_1, z43_2, z43_3⟩, hc43, h⟩ := dz_ob h
        try dsimp only at h
        have hPc := hP
        have hKc := hK
        have hDc := hD
        have hFc := dz_freeall hD hS hA
        refine va_calli (va_runV (As := [.int y1_0]) (rest := [.int 2, .ref o_Model]) ⟨hx, hb, hml, hown, hg⟩ (c_Model_setGlobal l dC dI N cB cI o_Model r I F y1_0 H.size (z43_1, z43_2, z43_3) hc43) (cwV 1 hg (gd_V k990 k991 k992 k707 k989) rfl rfl rfl (by decide +kernel) ⟨Nat.le_of_ble_eq_true rfl, Nat.le_of_ble_eq_true rfl⟩) ⟨dz_blind, va_recv hKc hPc (ci := 10) (q0 := 0) rfl rfl, fun U hU hW => ⟨rfl, dz_Nw hW hN, by rw [hU], by rw [hU]; exact hPc, va_K.moved hW.alike hKc, hDc.weaken (fun _ _ _ _ => trivial)⟩⟩ rfl rfl hl.1 rfl (lv_room (Nat.le_of_ble_eq_true rfl)) d_Model_instruction_371 ⟨Nat.le_of_ble_eq_true rfl, Nat.le_of_ble_eq_true rfl⟩) hS (fun q _ h => hFc q h) hFc (fun r43 u43 t43 H1 locs ht hvm hw hB hz1 hk1 hS => ?_)
        obtain ⟨hP1, hK1, hD1⟩ := hB
        rw [ht] at hP1
        have hP := hP1
        have hD := hD1.weaken (fun _ q _ h => hFc q.1 h)
        have hw : z43_1 = r43 := hw.symm
        subst hw
        generalize H1 = H at hP hS ⊢
        have hP : va_P (dC, dI) classes (wD cB cI o_Model r z43_3 z43_2) H := hP
        have hD : va_D A (wD cB cI o_Model r z43_3 z43_2) := hD
        obtain ⟨⟨z44_1, z44_2⟩, hc44, h⟩ := dz_ob h
        try dsimp only at h
        have hPc := hP
        have hKc := hK
        have hDc := hD
        have hFc := dz_freeall hD hS hA
        refine va_calli (va_runV (As := [.int 2, .int z43_1]) (rest := []) ⟨hx, hb, hml, hown, hg⟩ (c_Model_next l dC dI N cB cI o_Model r z43_3 z43_2 (2 : Int32) z43_1 H.size (z44_1, z44_2) hc44) (cwV 2 hg (gd_V k871 k872 k873 k707 k870) rfl rfl rfl (by decide +kernel) ⟨Nat.le_of_ble_eq_true rfl, Nat.le_of_ble_eq_true rfl⟩) ⟨dz_blind, va_recv hKc hPc (ci := 10) (q0 := 0) rfl rfl, fun U hU hW => ⟨rfl, dz_Nw hW hN, by rw [hU], by rw [hU]; exact hPc, va_K.moved hW.alike hKc, hDc.weaken (fun _ _ _ _ => trivial)⟩⟩ rfl rfl hl.1 rfl (lv_room (Nat.le_of_ble_eq_true rfl)) d_Model_instruction_374 ⟨Nat.le_of_ble_eq_true rfl, Nat.le_of_ble_eq_true rfl⟩) hS (fun q _ h => hFc q h) hFc (fun r44 u44 t44 H1 locs ht hvm hw hB hz1 hk1 hS => ?_)
        obtain ⟨hP1, hK1, hD1⟩ := hB
        rw [ht] at hP1
        have hP := hP1
        have hD := hD1.weaken (fun _ q _ h => hFc q.1 h)
        have hw : z44_1 = r44 := hw.symm
        subst hw
        generalize H1 = H at hP hS ⊢
        have hP : va_P (dC, dI) classes (wD cB cI o_Model r z44_2 z43_2) H := hP
        have hD : va_D A (wD cB cI o_Model r z44_2 z43_2) := hD
        obtain rfl := Option.some.inj h
        have hP9 := hP
        have hD9 := hD
        have hK9 := hK
        exact W.iret (v := z44_1) hx hb hr (fun t ht hW => ⟨⟨z44_1, (), rfl, rfl, by rw [ht]; exact hP9, va_K.moved hW.alike hK9, hD9⟩, hS.F ht⟩) hS.2.2 d_Model_instruction_377
      rw [if_neg s9_7] at h
      by_cases s9_8 : ((F 14) (I 35).toNatClampNeg) = 8
      · rw [if_pos s9_8] at h
        refine lv_tableIn (off := 327) (tgt := 378) hx hb d_Model_instruction_51 (by rw [s9_8]; decide) (by rw [s9_8]; decide) (by rw [s9_8]; decide) (by decide) ?_
        refine lv_aload_n hx hb d_Model_instruction_378 rfl (lv_at hl 3 rfl) ?_
        refine lv_dup hx hb d_Model_instruction_379 rfl ?_
        refine va_get (D := (dC, dI)) (ci := 10) (v := .int (I 29)) (C := R_Model) (T := F_Model) (N := 54) hx hb hg i_Model hown hK hP 0 rfl rfl 29 (by decide) (hg _ k719) (fun _ h9 => h9) rfl d_Model_instruction_380 ?_
        refine lv_iconst (v := 1) hx hb d_Model_instruction_383 (by decide) ?_
        refine lv_isub hx hb d_Model_instruction_384 ?_
        refine va_put (D := (dC, dI)) (ci := 10) (v := .int ((I 29) - 1)) (ty := .int) (C := R_Model) (T := F_Model) (N := 54) hx hb hg i_Model t_Model t_Model_ok n_Model hown hK hP hD hS 0 rfl rfl 29 (by decide) (hg _ k719) (fun _ h9 => h9) rfl (by decide +kernel) rfl rfl (Nat.le_of_ble_eq_true rfl) d_Model_instruction_385 (fun H locs hP hD hS => ?_)
        obtain ⟨J45, eJ45, h⟩ := dz_lt h
        have hP : va_P (dC, dI) classes (wD cB cI o_Model r J45 F) H := by rw [eJ45]; exact hP
        have hD : va_D A (wD cB cI o_Model r J45 F) := by rw [eJ45]; exact hD
        refine lv_aload_n hx hb d_Model_instruction_388 rfl (lv_at hl 3 rfl) ?_
        refine lv_iconst (v := 1) hx hb d_Model_instruction_389 (by decide) ?_
        refine lv_iconst (v := 5) hx hb d_Model_instruction_390 (by decide) ?_
        obtain ⟨⟨z46_1, z46_2⟩, hc46, h⟩ := dz_ob h
        try dsimp only at h
        have hPc := hP
        have hKc := hK
        have hDc := hD
        have hFc := dz_freeall hD hS hA
        refine va_calli (va_runV (As := [.int 1, .int 5]) (rest := []) ⟨hx, hb, hml, hown, hg⟩ (c_Model_next l dC dI N cB cI o_Model r J45 F (1 : Int32) (5 : Int32) H.size (z46_1, z46_2) hc46) (cwV 2 hg (gd_V k871 k872 k873 k707 k870) rfl rfl rfl (by decide +kernel) ⟨Nat.le_of_ble_eq_true rfl, Nat.le_of_ble_eq_true rfl⟩) ⟨dz_blind, va_recv hKc hPc (ci := 10) (q0 := 0) rfl rfl, fun U hU hW => ⟨rfl, dz_Nw hW hN, by rw [hU], by rw [hU]; exact hPc, va_K.moved hW.alike hKc, hDc.weaken (fun _ _ _ _ => trivial)⟩⟩ rfl rfl hl.1 rfl (lv_room (Nat.le_of_ble_eq_true rfl)) d_Model_instruction_391 ⟨Nat.le_of_ble_eq_true rfl, Nat.le_of_ble_eq_true rfl⟩) hS (fun q _ h => hFc q h) hFc (fun r46 u46 t46 H1 locs ht hvm hw hB hz1 hk1 hS => ?_)
        obtain ⟨hP1, hK1, hD1⟩ := hB
        rw [ht] at hP1
        have hP := hP1
        have hD := hD1.weaken (fun _ q _ h => hFc q.1 h)
        have hw : z46_1 = r46 := hw.symm
        subst hw
        generalize H1 = H at hP hS ⊢
        have hP : va_P (dC, dI) classes (wD cB cI o_Model r z46_2 F) H := hP
        have hD : va_D A (wD cB cI o_Model r z46_2 F) := hD
        obtain rfl := Option.some.inj h
        have hP9 := hP
        have hD9 := hD
        have hK9 := hK
        exact W.iret (v := z46_1) hx hb hr (fun t ht hW => ⟨⟨z46_1, (), rfl, rfl, by rw [ht]; exact hP9, va_K.moved hW.alike hK9, hD9⟩, hS.F ht⟩) hS.2.2 d_Model_instruction_394
      rw [if_neg s9_8] at h
      by_cases s9_9 : ((F 14) (I 35).toNatClampNeg) = 9
      · rw [if_pos s9_9] at h
        refine lv_tableIn (off := 344) (tgt := 395) hx hb d_Model_instruction_51 (by rw [s9_9]; decide) (by rw [s9_9]; decide) (by rw [s9_9]; decide) (by decide) ?_
        refine lv_aload_n hx hb d_Model_instruction_395 rfl (lv_at hl 3 rfl) ?_
        refine lv_iconst (v := 1) hx hb d_Model_instruction_396 (by decide) ?_
        refine lv_aload_n hx hb d_Model_instruction_397 rfl (lv_at hl 3 rfl) ?_
        refine lv_aload_n hx hb d_Model_instruction_398 rfl (lv_at hl 3 rfl) ?_
        refine va_get (D := (dC, dI)) (ci := 10) (v := .ref (r 27)) (C := R_Model) (T := F_Model) (N := 54) hx hb hg i_Model hown hK hP 0 rfl rfl 27 (by decide) (hg _ k731) (fun _ h9 => h9) rfl d_Model_instruction_399 ?_
        refine lv_aload_n hx hb d_Model_instruction_402 rfl (lv_at hl 3 rfl) ?_
        refine va_get (D := (dC, dI)) (ci := 10) (v := .int (I 29)) (C := R_Model) (T := F_Model) (N := 54) hx hb hg i_Model hown hK hP 0 rfl rfl 29 (by decide) (hg _ k719) (fun _ h9 => h9) rfl d_Model_instruction_403 ?_
        refine lv_iconst (v := 1) hx hb d_Model_instruction_406 (by decide) ?_
        refine lv_isub hx hb d_Model_instruction_407 ?_
        obtain ⟨i47, h⟩ := dz_oi h
        refine va_iald (D := (dC, dI)) (f := F 27) hx hb hK hP 17 1 rfl rfl i47 d_Model_instruction_408 ?_
        refine lv_aload_n hx hb d_Model_instruction_409 rfl (lv_at hl 3 rfl) ?_
        refine va_get (D := (dC, dI)) (ci := 10) (v := .ref (r 28)) (C := R_Model) (T := F_Model) (N := 54) hx hb hg i_Model hown hK hP 0 rfl rfl 28 (by decide) (hg _ k732) (fun _ h9 => h9) rfl d_Model_instruction_410 ?_
        refine lv_aload_n hx hb d_Model_instruction_413 rfl (lv_at hl 3 rfl) ?_
        refine va_get (D := (dC, dI)) (ci := 10) (v := .int (I 29)) (C := R_Model) (T := F_Model) (N := 54) hx hb hg i_Model hown hK hP 0 rfl rfl 29 (by decide) (hg _ k719) (fun _ h9 => h9) rfl d_Model_instruction_414 ?_
        refine lv_iconst (v := 1) hx hb d_Model_instruction_417 (by decide) ?_
        refine lv_isub hx hb d_Model_instruction_418 ?_
        obtain ⟨i48, h⟩ := dz_oi h
        refine va_iald (D := (dC, dI)) (f := F 28) hx hb hK hP 18 1 rfl rfl i48 d_Model_instruction_419 ?_
        obtain ⟨⟨z49_1, z49_2, z49_3⟩, hc49, h⟩ := dz_ob h
        try dsimp only at h
        have hPc := hP
        have hKc := hK
        have hDc := hD
        have hFc := dz_freeall hD hS hA
        refine va_calli (va_runV (As := [.int ((F 27) ((I 29) - 1).toNatClampNeg), .int ((F 28) ((I 29) - 1).toNatClampNeg)]) (rest := [.int 1, .ref o_Model]) ⟨hx, hb, hml, hown, hg⟩ (c_Model_more l dC dI N cB cI o_Model r I F ((F 27) ((I 29) - 1).toNatClampNeg) ((F 28) ((I 29) - 1).toNatClampNeg) H.size (z49_1, z49_2, z49_3) hc49) (cwV 2 hg (gd_V k800 k801 k802 k707 k799) rfl rfl rfl (by decide +kernel) ⟨Nat.le_of_ble_eq_true rfl, Nat.le_of_ble_eq_true rfl⟩) ⟨dz_blind, va_recv hKc hPc (ci := 10) (q0 := 0) rfl rfl, fun U hU hW => ⟨rfl, dz_Nw hW hN, by rw [hU], by rw [hU]; exact hPc, va_K.moved hW.alike hKc, hDc.weaken (fun _ _ _ _ => trivial)⟩⟩ rfl rfl hl.1 rfl (lv_room (Nat.le_of_ble_eq_true rfl)) d_Model_instruction_420 ⟨Nat.le_of_ble_eq_true rfl, Nat.le_of_ble_eq_true rfl⟩) hS (fun q _ h => hFc q h) hFc (fun r49 u49 t49 H1 locs ht hvm hw hB hz1 hk1 hS => ?_)
        obtain ⟨hP1, hK1, hD1⟩ := hB
        rw [ht] at hP1
        have hP := hP1
        have hD := hD1.weaken (fun _ q _ h => hFc q.1 h)
        have hw : z49_1 = r49 := hw.symm
        subst hw
        generalize H1 = H at hP hS ⊢
        have hP : va_P (dC, dI) classes (wD cB cI o_Model r z49_3 z49_2) H := hP
        have hD : va_D A (wD cB cI o_Model r z49_3 z49_2) := hD
        obtain ⟨⟨z50_1, z50_2⟩, hc50, h⟩ := dz_ob h
        try dsimp only at h
        have hPc := hP
        have hKc := hK
        have hDc := hD
        have hFc := dz_freeall hD hS hA
        refine va_calli (va_runV (As := [.int 1, .int z49_1]) (rest := []) ⟨hx, hb, hml, hown, hg⟩ (c_Model_next l dC dI N cB cI o_Model r z49_3 z49_2 (1 : Int32) z49_1 H.size (z50_1, z50_2) hc50) (cwV 2 hg (gd_V k871 k872 k873 k707 k870) rfl rfl rfl (by decide +kernel) ⟨Nat.le_of_ble_eq_true rfl, Nat.le_of_ble_eq_true rfl⟩) ⟨dz_blind, va_recv hKc hPc (ci := 10) (q0 := 0) rfl rfl, fun U hU hW => ⟨rfl, dz_Nw hW hN, by rw [hU], by rw [hU]; exact hPc, va_K.moved hW.alike hKc, hDc.weaken (fun _ _ _ _ => trivial)⟩⟩ rfl rfl hl.1 rfl (lv_room (Nat.le_of_ble_eq_true rfl)) d_Model_instruction_423 ⟨Nat.le_of_ble_eq_true rfl, Nat.le_of_ble_eq_true rfl⟩) hS (fun q _ h => hFc q h) hFc (fun r50 u50 t50 H1 locs ht hvm hw hB hz1 hk1 hS => ?_)
        obtain ⟨hP1, hK1, hD1⟩ := hB
        rw [ht] at hP1
        have hP := hP1
        have hD := hD1.weaken (fun _ q _ h => hFc q.1 h)
        have hw : z50_1 = r50 := hw.symm
        subst hw
        generalize H1 = H at hP hS ⊢
        have hP : va_P (dC, dI) classes (wD cB cI o_Model r z50_2 z49_2) H := hP
        have hD : va_D A (wD cB cI o_Model r z50_2 z49_2) := hD
        obtain rfl := Option.some.inj h
        have hP9 := hP
        have hD9 := hD
        have hK9 := hK
        exact W.iret (v := z50_1) hx hb hr (fun t ht hW => ⟨⟨z50_1, (), rfl, rfl, by rw [ht]; exact hP9, va_K.moved hW.alike hK9, hD9⟩, hS.F ht⟩) hS.2.2 d_Model_instruction_426
      rw [if_neg s9_9] at h
      by_cases s9_10 : ((F 14) (I 35).toNatClampNeg) = 10
      · rw [if_pos s9_10] at h
        refine lv_tableIn (off := 376) (tgt := 427) hx hb d_Model_instruction_51 (by rw [s9_10]; decide) (by rw [s9_10]; decide) (by rw [s9_10]; decide) (by decide) ?_
        refine lv_aload_n hx hb d_Model_instruction_427 rfl (lv_at hl 3 rfl) ?_
        refine lv_iconst (v := 2) hx hb d_Model_instruction_428 (by decide) ?_
        refine lv_iload_n hx hb d_Model_instruction_429 rfl (lv_at hl 0 rfl) ?_
        refine lv_iconst (v := 1) hx hb d_Model_instruction_430 (by decide) ?_
        refine lv_icmp_lt (tgt := 441) hx hb d_Model_instruction_431 (by decide) (fun c51 => ?_) (fun c51 => ?_)
        · rw [if_pos c51] at h
          refine lv_iconst (v := 4) hx hb d_Model_instruction_441 (by decide) ?_
          refine lv_goto (tgt := 452) hx hb d_Model_instruction_442 (by decide) ?_
          obtain ⟨⟨z52_1, z52_2⟩, hc52, h⟩ := dz_ob h
          try dsimp only at h
          have hPc := hP
          have hKc := hK
          have hDc := hD
          have hFc := dz_freeall hD hS hA
          refine va_calli (va_runV (As := [.int 2, .int 4]) (rest := []) ⟨hx, hb, hml, hown, hg⟩ (c_Model_next l dC dI N cB cI o_Model r I F (2 : Int32) (4 : Int32) H.size (z52_1, z52_2) hc52) (cwV 2 hg (gd_V k871 k872 k873 k707 k870) rfl rfl rfl (by decide +kernel) ⟨Nat.le_of_ble_eq_true rfl, Nat.le_of_ble_eq_true rfl⟩) ⟨dz_blind, va_recv hKc hPc (ci := 10) (q0 := 0) rfl rfl, fun U hU hW => ⟨rfl, dz_Nw hW hN, by rw [hU], by rw [hU]; exact hPc, va_K.moved hW.alike hKc, hDc.weaken (fun _ _ _ _ => trivial)⟩⟩ rfl rfl hl.1 rfl (lv_room (Nat.le_of_ble_eq_true rfl)) d_Model_instruction_452 ⟨Nat.le_of_ble_eq_true rfl, Nat.le_of_ble_eq_true rfl⟩) hS (fun q _ h => hFc q h) hFc (fun r52 u52 t52 H1 locs ht hvm hw hB hz1 hk1 hS => ?_)
          obtain ⟨hP1, hK1, hD1⟩ := hB
          rw [ht] at hP1
          have hP := hP1
          have hD := hD1.weaken (fun _ q _ h => hFc q.1 h)
          have hw : z52_1 = r52 := hw.symm
          subst hw
          generalize H1 = H at hP hS ⊢
          have hP : va_P (dC, dI) classes (wD cB cI o_Model r z52_2 F) H := hP
          have hD : va_D A (wD cB cI o_Model r z52_2 F) := hD
          obtain rfl := Option.some.inj h
          have hP9 := hP
          have hD9 := hD
          have hK9 := hK
          exact W.iret (v := z52_1) hx hb hr (fun t ht hW => ⟨⟨z52_1, (), rfl, rfl, by rw [ht]; exact hP9, va_K.moved hW.alike hK9, hD9⟩, hS.F ht⟩) hS.2.2 d_Model_instruction_455
        · rw [if_neg c51] at h
          refine lv_iload_n hx hb d_Model_instruction_434 rfl (lv_at hl 0 rfl) ?_
          refine lv_sipush (v := 255) hx hb d_Model_instruction_435 (by decide) ?_
          refine lv_icmp_le (tgt := 445) hx hb d_Model_instruction_438 (by decide) (fun c53 => ?_) (fun c53 => ?_)
          · rw [if_pos c53] at h
            refine lv_aload_n hx hb d_Model_instruction_445 rfl (lv_at hl 3 rfl) ?_
            refine lv_iconst (v := 2) hx hb d_Model_instruction_446 (by decide) ?_
            refine lv_iload_n hx hb d_Model_instruction_447 rfl (lv_at hl 0 rfl) ?_
            refine lv_iconst (v := 0) hx hb d_Model_instruction_448 (by decide) ?_
            obtain ⟨⟨z54_1, z54_2, z54_3⟩, hc54, h⟩ := dz_ob h
            try dsimp only at h
            have hPc := hP
            have hKc := hK
            have hDc := hD
            have hFc := dz_freeall hD hS hA
            refine va_calli (va_runV (As := [.int 2, .int y1_0, .int 0]) (rest := [.int 2, .ref o_Model]) ⟨hx, hb, hml, hown, hg⟩ (c_Model_gather l dC dI N cB cI o_Model r I F (2 : Int32) y1_0 (0 : Int32) H.size (z54_1, z54_2, z54_3) hc54) (cwV 3 hg (gd_V k994 k995 k996 k707 k993) rfl rfl rfl (by decide +kernel) ⟨Nat.le_of_ble_eq_true rfl, Nat.le_of_ble_eq_true rfl⟩) ⟨dz_blind, va_recv hKc hPc (ci := 10) (q0 := 0) rfl rfl, fun U hU hW => ⟨rfl, dz_Nw hW hN, by rw [hU], by rw [hU]; exact hPc, va_K.moved hW.alike hKc, hDc.weaken (fun _ _ _ _ => trivial)⟩⟩ rfl rfl hl.1 rfl (lv_room (Nat.le_of_ble_eq_true rfl)) d_Model_instruction_449 ⟨Nat.le_of_ble_eq_true rfl, Nat.le_of_ble_eq_true rfl⟩) hS (fun q _ h => hFc q h) hFc (fun r54 u54 t54 H1 locs ht hvm hw hB hz1 hk1 hS => ?_)
            obtain ⟨hP1, hK1, hD1⟩ := hB
            rw [ht] at hP1
            have hP := hP1
            have hD := hD1.weaken (fun _ q _ h => hFc q.1 h)
            have hw : z54_1 = r54 := hw.symm
            subst hw
            generalize H1 = H at hP hS ⊢
            have hP : va_P (dC, dI) classes (wD cB cI o_Model r z54_3 z54_2) H := hP
            have hD : va_D A (wD cB cI o_Model r z54_3 z54_2) := hD
            obtain ⟨⟨z55_1, z55_2⟩, hc55, h⟩ := dz_ob h
            try dsimp only at h
            have hPc := hP
            have hKc := hK
            have hDc := hD
            have hFc := dz_freeall hD hS hA
            refine va_calli (va_runV (As := [.int 2, .int z54_1]) (rest := []) ⟨hx, hb, hml, hown, hg⟩ (c_Model_next l dC dI N cB cI o_Model r z54_3 z54_2 (2 : Int32) z54_1 H.size (z55_1, z55_2) hc55) (cwV 2 hg (gd_V k871 k872 k873 k707 k870) rfl rfl rfl (by decide +kernel) ⟨Nat.le_of_ble_eq_true rfl, Nat.le_of_ble_eq_true rfl⟩) ⟨dz_blind, va_recv hKc hPc (ci := 10) (q0 := 0) rfl rfl, fun U hU hW => ⟨rfl, dz_Nw hW hN, by rw [hU], by rw [hU]; exact hPc, va_K.moved hW.alike hKc, hDc.weaken (fun _ _ _ _ => trivial)⟩⟩ rfl rfl hl.1 rfl (lv_room (Nat.le_of_ble_eq_true rfl)) d_Model_instruction_452 ⟨Nat.le_of_ble_eq_true rfl, Nat.le_of_ble_eq_true rfl⟩) hS (fun q _ h => hFc q h) hFc (fun r55 u55 t55 H1 locs ht hvm hw hB hz1 hk1 hS => ?_)
            obtain ⟨hP1, hK1, hD1⟩ := hB
            rw [ht] at hP1
            have hP := hP1
            have hD := hD1.weaken (fun _ q _ h => hFc q.1 h)
            have hw : z55_1 = r55 := hw.symm
            subst hw
            generalize H1 = H at hP hS ⊢
            have hP : va_P (dC, dI) classes (wD cB cI o_Model r z55_2 z54_2) H := hP
            have hD : va_D A (wD cB cI o_Model r z55_2 z54_2) := hD
            obtain rfl := Option.some.inj h
            have hP9 := hP
            have hD9 := hD
            have hK9 := hK
            exact W.iret (v := z55_1) hx hb hr (fun t ht hW => ⟨⟨z55_1, (), rfl, rfl, by rw [ht]; exact hP9, va_K.moved hW.alike hK9, hD9⟩, hS.F ht⟩) hS.2.2 d_Model_instruction_455
          · rw [if_neg c53] at h
            refine lv_iconst (v := 4) hx hb d_Model_instruction_441 (by decide) ?_
            refine lv_goto (tgt := 452) hx hb d_Model_instruction_442 (by decide) ?_
            obtain ⟨⟨z56_1, z56_2⟩, hc56, h⟩ := dz_ob h
            try dsimp only at h
            have hPc := hP
            have hKc := hK
            have hDc := hD
            have hFc := dz_freeall hD hS hA
            refine va_calli (va_runV (As := [.int 2, .int 4]) (rest := []) ⟨hx, hb, hml, hown, hg⟩ (c_Model_next l dC dI N cB cI o_Model r I F (2 : Int32) (4 : Int32) H.size (z56_1, z56_2) hc56) (cwV 2 hg (gd_V k871 k872 k873 k707 k870) rfl rfl rfl (by decide +kernel) ⟨Nat.le_of_ble_eq_true rfl, Nat.le_of_ble_eq_true rfl⟩) ⟨dz_blind, va_recv hKc hPc (ci := 10) (q0 := 0) rfl rfl, fun U hU hW => ⟨rfl, dz_Nw hW hN, by rw [hU], by rw [hU]; exact hPc, va_K.moved hW.alike hKc, hDc.weaken (fun _ _ _ _ => trivial)⟩⟩ rfl rfl hl.1 rfl (lv_room (Nat.le_of_ble_eq_true rfl)) d_Model_instruction_452 ⟨Nat.le_of_ble_eq_true rfl, Nat.le_of_ble_eq_true rfl⟩) hS (fun q _ h => hFc q h) hFc (fun r56 u56 t56 H1 locs ht hvm hw hB hz1 hk1 hS => ?_)
            obtain ⟨hP1, hK1, hD1⟩ := hB
            rw [ht] at hP1
            have hP := hP1
            have hD := hD1.weaken (fun _ q _ h => hFc q.1 h)
            have hw : z56_1 = r56 := hw.symm
            subst hw
            generalize H1 = H at hP hS ⊢
            have hP : va_P (dC, dI) classes (wD cB cI o_Model r z56_2 F) H := hP
            have hD : va_D A (wD cB cI o_Model r z56_2 F) := hD
            obtain rfl := Option.some.inj h
            have hP9 := hP
            have hD9 := hD
            have hK9 := hK
            exact W.iret (v := z56_1) hx hb hr (fun t ht hW => ⟨⟨z56_1, (), rfl, rfl, by rw [ht]; exact hP9, va_K.moved hW.alike hK9, hD9⟩, hS.F ht⟩) hS.2.2 d_Model_instruction_455
      rw [if_neg s9_10] at h
      by_cases s9_11 : ((F 14) (I 35).toNatClampNeg) = 11
      · rw [if_pos s9_11] at h
        refine lv_tableIn (off := 405) (tgt := 456) hx hb d_Model_instruction_51 (by rw [s9_11]; decide) (by rw [s9_11]; decide) (by rw [s9_11]; decide) (by decide) ?_
        refine lv_aload_n hx hb d_Model_instruction_456 rfl (lv_at hl 3 rfl) ?_
        refine lv_iconst (v := 2) hx hb d_Model_instruction_457 (by decide) ?_
        refine lv_aload_n hx hb d_Model_instruction_458 rfl (lv_at hl 3 rfl) ?_
        refine lv_iconst (v := 1) hx hb d_Model_instruction_459 (by decide) ?_
        refine lv_iconst (v := 2) hx hb d_Model_instruction_460 (by decide) ?_
        obtain ⟨z57_1, hc57, h⟩ := dz_ob h
        try dsimp only at h
        have hPc := hP
        have hKc := hK
        refine vp_callSi (va_Run.run (va_runV (As := [.int 1, .int 2]) (rest := [.int 2, .ref o_Model]) ⟨hx, hb, hml, hown, hg⟩ (c_Model_is l dC dI N cB cI o_Model r I F (1 : Int32) (2 : Int32) z57_1 hc57) (cwV 2 hg (gd_V k808 k809 k810 k707 k807) rfl rfl rfl (by decide +kernel) ⟨Nat.le_of_ble_eq_true rfl, Nat.le_of_ble_eq_true rfl⟩) ⟨dz_blindR, va_recv hKc hPc (ci := 10) (q0 := 0) rfl rfl, fun U hU hW => ⟨rfl, dz_Nw hW hN, by rw [hU]; exact hPc, va_K.moved hW.alike hKc⟩⟩ rfl rfl hl.1 rfl (lv_room (Nat.le_of_ble_eq_true rfl)) d_Model_instruction_461 ⟨Nat.le_of_ble_eq_true rfl, Nat.le_of_ble_eq_true rfl⟩)) (fun r57 hw => ?_)
        obtain ⟨hw, hbz57⟩ := hw
        have hw : z57_1 = r57 := hw.symm
        subst hw
        refine lv_if_eq (tgt := 484) hx hb d_Model_instruction_464 (by decide) (fun c58 => ?_) (fun c58 => ?_)
        · rw [if_pos c58] at h
          refine lv_iconst (v := 4) hx hb d_Model_instruction_484 (by decide) ?_
          refine lv_goto (tgt := 493) hx hb d_Model_instruction_485 (by decide) ?_
          obtain ⟨⟨z59_1, z59_2⟩, hc59, h⟩ := dz_ob h
          try dsimp only at h
          have hPc := hP
          have hKc := hK
          have hDc := hD
          have hFc := dz_freeall hD hS hA
          refine va_calli (va_runV (As := [.int 2, .int 4]) (rest := []) ⟨hx, hb, hml, hown, hg⟩ (c_Model_next l dC dI N cB cI o_Model r I F (2 : Int32) (4 : Int32) H.size (z59_1, z59_2) hc59) (cwV 2 hg (gd_V k871 k872 k873 k707 k870) rfl rfl rfl (by decide +kernel) ⟨Nat.le_of_ble_eq_true rfl, Nat.le_of_ble_eq_true rfl⟩) ⟨dz_blind, va_recv hKc hPc (ci := 10) (q0 := 0) rfl rfl, fun U hU hW => ⟨rfl, dz_Nw hW hN, by rw [hU], by rw [hU]; exact hPc, va_K.moved hW.alike hKc, hDc.weaken (fun _ _ _ _ => trivial)⟩⟩ rfl rfl hl.1 rfl (lv_room (Nat.le_of_ble_eq_true rfl)) d_Model_instruction_493 ⟨Nat.le_of_ble_eq_true rfl, Nat.le_of_ble_eq_true rfl⟩) hS (fun q _ h => hFc q h) hFc (fun r59 u59 t59 H1 locs ht hvm hw hB hz1 hk1 hS => ?_)
          obtain ⟨hP1, hK1, hD1⟩ := hB
          rw [ht] at hP1
          have hP := hP1
          have hD := hD1.weaken (fun _ q _ h => hFc q.1 h)
          have hw : z59_1 = r59 := hw.symm
          subst hw
          generalize H1 = H at hP hS ⊢
          have hP : va_P (dC, dI) classes (wD cB cI o_Model r z59_2 F) H := hP
          have hD : va_D A (wD cB cI o_Model r z59_2 F) := hD
          obtain rfl := Option.some.inj h
          have hP9 := hP
          have hD9 := hD
          have hK9 := hK
          exact W.iret (v := z59_1) hx hb hr (fun t ht hW => ⟨⟨z59_1, (), rfl, rfl, by rw [ht]; exact hP9, va_K.moved hW.alike hK9, hD9⟩, hS.F ht⟩) hS.2.2 d_Model_instruction_496
        · rw [if_neg c58] at h
          refine lv_iload_n hx hb d_Model_instruction_467 rfl (lv_at hl 0 rfl) ?_
          refine lv_if_lt (tgt := 484) hx hb d_Model_instruction_468 (by decide) (fun c60 => ?_) (fun c60 => ?_)
          · rw [if_pos c60] at h
            refine lv_iconst (v := 4) hx hb d_Model_instruction_484 (by decide) ?_
            refine lv_goto (tgt := 493) hx hb d_Model_instruction_485 (by decide) ?_
            obtain ⟨⟨z61_1, z61_2⟩, hc61, h⟩ := dz_ob h
            try dsimp only at h
            have hPc := hP
            have hKc := hK
            have hDc := hD
            have hFc := dz_freeall hD hS hA
            refine va_calli (va_runV (As := [.int 2, .int 4]) (rest := []) ⟨hx, hb, hml, hown, hg⟩ (c_Model_next l dC dI N cB cI o_Model r I F (2 : Int32) (4 : Int32) H.size (z61_1, z61_2) hc61) (cwV 2 hg (gd_V k871 k872 k873 k707 k870) rfl rfl rfl (by decide +kernel) ⟨Nat.le_of_ble_eq_true rfl, Nat.le_of_ble_eq_true rfl⟩) ⟨dz_blind, va_recv hKc hPc (ci := 10) (q0 := 0) rfl rfl, fun U hU hW => ⟨rfl, dz_Nw hW hN, by rw [hU], by rw [hU]; exact hPc, va_K.moved hW.alike hKc, hDc.weaken (fun _ _ _ _ => trivial)⟩⟩ rfl rfl hl.1 rfl (lv_room (Nat.le_of_ble_eq_true rfl)) d_Model_instruction_493 ⟨Nat.le_of_ble_eq_true rfl, Nat.le_of_ble_eq_true rfl⟩) hS (fun q _ h => hFc q h) hFc (fun r61 u61 t61 H1 locs ht hvm hw hB hz1 hk1 hS => ?_)
            obtain ⟨hP1, hK1, hD1⟩ := hB
            rw [ht] at hP1
            have hP := hP1
            have hD := hD1.weaken (fun _ q _ h => hFc q.1 h)
            have hw : z61_1 = r61 := hw.symm
            subst hw
            generalize H1 = H at hP hS ⊢
            have hP : va_P (dC, dI) classes (wD cB cI o_Model r z61_2 F) H := hP
            have hD : va_D A (wD cB cI o_Model r z61_2 F) := hD
            obtain rfl := Option.some.inj h
            have hP9 := hP
            have hD9 := hD
            have hK9 := hK
            exact W.iret (v := z61_1) hx hb hr (fun t ht hW => ⟨⟨z61_1, (), rfl, rfl, by rw [ht]; exact hP9, va_K.moved hW.alike hK9, hD9⟩, hS.F ht⟩) hS.2.2 d_Model_instruction_496
          · rw [if_neg c60] at h
            refine lv_iload_n hx hb d_Model_instruction_471 rfl (lv_at hl 0 rfl) ?_
            refine lv_aload_n hx hb d_Model_instruction_472 rfl (lv_at hl 3 rfl) ?_
            refine lv_aload_n hx hb d_Model_instruction_473 rfl (lv_at hl 3 rfl) ?_
            refine lv_iconst (v := 1) hx hb d_Model_instruction_474 (by decide) ?_
            obtain ⟨z62_1, hc62, h⟩ := dz_ob h
            try dsimp only at h
            have hPc := hP
            have hKc := hK
            refine vp_callSi (va_Run.run (va_runV (As := [.int 1]) (rest := [.ref o_Model, .int y1_0, .int 2, .ref o_Model]) ⟨hx, hb, hml, hown, hg⟩ (c_Model_scalar l dC dI N cB cI o_Model r I F (1 : Int32) z62_1 hc62) (cwV 1 hg (gd_V k804 k805 k806 k707 k803) rfl rfl rfl (by decide +kernel) ⟨Nat.le_of_ble_eq_true rfl, Nat.le_of_ble_eq_true rfl⟩) ⟨dz_blindR, va_recv hKc hPc (ci := 10) (q0 := 0) rfl rfl, fun U hU hW => ⟨rfl, dz_Nw hW hN, by rw [hU]; exact hPc, va_K.moved hW.alike hKc⟩⟩ rfl rfl hl.1 rfl (lv_room (Nat.le_of_ble_eq_true rfl)) d_Model_instruction_475 ⟨Nat.le_of_ble_eq_true rfl, Nat.le_of_ble_eq_true rfl⟩)) (fun r62 hw => ?_)
            have hw : z62_1 = r62 := hw.symm
            subst hw
            obtain ⟨z63_1, hc63, h⟩ := dz_ob h
            try dsimp only at h
            have hPc := hP
            have hKc := hK
            refine vp_callSi (va_Run.run (va_runV (As := [.int z62_1]) (rest := [.int y1_0, .int 2, .ref o_Model]) ⟨hx, hb, hml, hown, hg⟩ (c_Model_partsAt l dC dI N cB cI o_Model r I F z62_1 z63_1 hc63) (cwV 1 hg (gd_V k744 k745 k746 k707 k743) rfl rfl rfl (by decide +kernel) ⟨Nat.le_of_ble_eq_true rfl, Nat.le_of_ble_eq_true rfl⟩) ⟨dz_blindR, va_recv hKc hPc (ci := 10) (q0 := 0) rfl rfl, fun U hU hW => ⟨rfl, dz_Nw hW hN, by rw [hU]; exact hPc, va_K.moved hW.alike hKc⟩⟩ rfl rfl hl.1 rfl (lv_room (Nat.le_of_ble_eq_true rfl)) d_Model_instruction_478 ⟨Nat.le_of_ble_eq_true rfl, Nat.le_of_ble_eq_true rfl⟩)) (fun r63 hw => ?_)
            have hw : z63_1 = r63 := hw.symm
            subst hw
            refine lv_icmp_lt (tgt := 488) hx hb d_Model_instruction_481 (by decide) (fun c64 => ?_) (fun c64 => ?_)
            · rw [if_pos c64] at h
              refine lv_aload_n hx hb d_Model_instruction_488 rfl (lv_at hl 3 rfl) ?_
              refine lv_iload_n hx hb d_Model_instruction_489 rfl (lv_at hl 0 rfl) ?_
              obtain ⟨⟨z65_1, z65_2, z65_3⟩, hc65, h⟩ := dz_ob h
              try dsimp only at h
              have hPc := hP
              have hKc := hK
              have hDc := hD
              have hFc := dz_freeall hD hS hA
              refine va_calli (va_runV (As := [.int y1_0]) (rest := [.int 2, .ref o_Model]) ⟨hx, hb, hml, hown, hg⟩ (c_Model_part l dC dI N cB cI o_Model r I F y1_0 H.size (z65_1, z65_2, z65_3) hc65) (cwV 1 hg (gd_V k998 k999 k1000 k707 k997) rfl rfl rfl (by decide +kernel) ⟨Nat.le_of_ble_eq_true rfl, Nat.le_of_ble_eq_true rfl⟩) ⟨dz_blind, va_recv hKc hPc (ci := 10) (q0 := 0) rfl rfl, fun U hU hW => ⟨rfl, dz_Nw hW hN, by rw [hU], by rw [hU]; exact hPc, va_K.moved hW.alike hKc, hDc.weaken (fun _ _ _ _ => trivial)⟩⟩ rfl rfl hl.1 rfl (lv_room (Nat.le_of_ble_eq_true rfl)) d_Model_instruction_490 ⟨Nat.le_of_ble_eq_true rfl, Nat.le_of_ble_eq_true rfl⟩) hS (fun q _ h => hFc q h) hFc (fun r65 u65 t65 H1 locs ht hvm hw hB hz1 hk1 hS => ?_)
              obtain ⟨hP1, hK1, hD1⟩ := hB
              rw [ht] at hP1
              have hP := hP1
              have hD := hD1.weaken (fun _ q _ h => hFc q.1 h)
              have hw : z65_1 = r65 := hw.symm
              subst hw
              generalize H1 = H at hP hS ⊢
              have hP : va_P (dC, dI) classes (wD cB cI o_Model r z65_3 z65_2) H := hP
              have hD : va_D A (wD cB cI o_Model r z65_3 z65_2) := hD
              obtain ⟨⟨z66_1, z66_2⟩, hc66, h⟩ := dz_ob h
              try dsimp only at h
              have hPc := hP
              have hKc := hK
              have hDc := hD
              have hFc := dz_freeall hD hS hA
              refine va_calli (va_runV (As := [.int 2, .int z65_1]) (rest := []) ⟨hx, hb, hml, hown, hg⟩ (c_Model_next l dC dI N cB cI o_Model r z65_3 z65_2 (2 : Int32) z65_1 H.size (z66_1, z66_2) hc66) (cwV 2 hg (gd_V k871 k872 k873 k707 k870) rfl rfl rfl (by decide +kernel) ⟨Nat.le_of_ble_eq_true rfl, Nat.le_of_ble_eq_true rfl⟩) ⟨dz_blind, va_recv hKc hPc (ci := 10) (q0 := 0) rfl rfl, fun U hU hW => ⟨rfl, dz_Nw hW hN, by rw [hU], by rw [hU]; exact hPc, va_K.moved hW.alike hKc, hDc.weaken (fun _ _ _ _ => trivial)⟩⟩ rfl rfl hl.1 rfl (lv_room (Nat.le_of_ble_eq_true rfl)) d_Model_instruction_493 ⟨Nat.le_of_ble_eq_true rfl, Nat.le_of_ble_eq_true rfl⟩) hS (fun q _ h => hFc q h) hFc (fun r66 u66 t66 H1 locs ht hvm hw hB hz1 hk1 hS => ?_)
              obtain ⟨hP1, hK1, hD1⟩ := hB
              rw [ht] at hP1
              have hP := hP1
              have hD := hD1.weaken (fun _ q _ h => hFc q.1 h)
              have hw : z66_1 = r66 := hw.symm
              subst hw
              generalize H1 = H at hP hS ⊢
              have hP : va_P (dC, dI) classes (wD cB cI o_Model r z66_2 z65_2) H := hP
              have hD : va_D A (wD cB cI o_Model r z66_2 z65_2) := hD
              obtain rfl := Option.some.inj h
              have hP9 := hP
              have hD9 := hD
              have hK9 := hK
              exact W.iret (v := z66_1) hx hb hr (fun t ht hW => ⟨⟨z66_1, (), rfl, rfl, by rw [ht]; exact hP9, va_K.moved hW.alike hK9, hD9⟩, hS.F ht⟩) hS.2.2 d_Model_instruction_496
            · rw [if_neg c64] at h
              refine lv_iconst (v := 4) hx hb d_Model_instruction_484 (by decide) ?_
              refine lv_goto (tgt := 493) hx hb d_Model_instruction_485 (by decide) ?_
              obtain ⟨⟨z67_1, z67_2⟩, hc67, h⟩ := dz_ob h
              try dsimp only at h
              have hPc := hP
              have hKc := hK
              have hDc := hD
              have hFc := dz_freeall hD hS hA
              refine va_calli (va_runV (As := [.int 2, .int 4]) (rest := []) ⟨hx, hb, hml, hown, hg⟩ (c_Model_next l dC dI N cB cI o_Model r I F (2 : Int32) (4 : Int32) H.size (z67_1, z67_2) hc67) (cwV 2 hg (gd_V k871 k872 k873 k707 k870) rfl rfl rfl (by decide +kernel) ⟨Nat.le_of_ble_eq_true rfl, Nat.le_of_ble_eq_true rfl⟩) ⟨dz_blind, va_recv hKc hPc (ci := 10) (q0 := 0) rfl rfl, fun U hU hW => ⟨rfl, dz_Nw hW hN, by rw [hU], by rw [hU]; exact hPc, va_K.moved hW.alike hKc, hDc.weaken (fun _ _ _ _ => trivial)⟩⟩ rfl rfl hl.1 rfl (lv_room (Nat.le_of_ble_eq_true rfl)) d_Model_instruction_493 ⟨Nat.le_of_ble_eq_true rfl, Nat.le_of_ble_eq_true rfl⟩) hS (fun q _ h => hFc q h) hFc (fun r67 u67 t67 H1 locs ht hvm hw hB hz1 hk1 hS => ?_)
              obtain ⟨hP1, hK1, hD1⟩ := hB
              rw [ht] at hP1
              have hP := hP1
              have hD := hD1.weaken (fun _ q _ h => hFc q.1 h)
              have hw : z67_1 = r67 := hw.symm
              subst hw
              generalize H1 = H at hP hS ⊢
              have hP : va_P (dC, dI) classes (wD cB cI o_Model r z67_2 F) H := hP
              have hD : va_D A (wD cB cI o_Model r z67_2 F) := hD
              obtain rfl := Option.some.inj h
              have hP9 := hP
              have hD9 := hD
              have hK9 := hK
              exact W.iret (v := z67_1) hx hb hr (fun t ht hW => ⟨⟨z67_1, (), rfl, rfl, by rw [ht]; exact hP9, va_K.moved hW.alike hK9, hD9⟩, hS.F ht⟩) hS.2.2 d_Model_instruction_496
      rw [if_neg s9_11] at h
      by_cases s9_12 : ((F 14) (I 35).toNatClampNeg) = 12
      · rw [if_pos s9_12] at h
        refine lv_tableIn (off := 446) (tgt := 497) hx hb d_Model_instruction_51 (by rw [s9_12]; decide) (by rw [s9_12]; decide) (by rw [s9_12]; decide) (by decide) ?_
        refine lv_aload_n hx hb d_Model_instruction_497 rfl (lv_at hl 3 rfl) ?_
        refine lv_iconst (v := 2) hx hb d_Model_instruction_498 (by decide) ?_
        refine lv_aload_n hx hb d_Model_instruction_499 rfl (lv_at hl 3 rfl) ?_
        refine lv_iconst (v := 3) hx hb d_Model_instruction_500 (by decide) ?_
        refine lv_iconst (v := 1) hx hb d_Model_instruction_501 (by decide) ?_
        refine lv_iload_n hx hb d_Model_instruction_502 rfl (lv_at hl 0 rfl) ?_
        obtain ⟨⟨z68_1, z68_2, z68_3⟩, hc68, h⟩ := dz_ob h
        try dsimp only at h
        have hPc := hP
        have hKc := hK
        have hDc := hD
        have hFc := dz_freeall hD hS hA
        refine va_calli (va_runV (As := [.int 3, .int 1, .int y1_0]) (rest := [.int 2, .ref o_Model]) ⟨hx, hb, hml, hown, hg⟩ (c_Model_gather l dC dI N cB cI o_Model r I F (3 : Int32) (1 : Int32) y1_0 H.size (z68_1, z68_2, z68_3) hc68) (cwV 3 hg (gd_V k994 k995 k996 k707 k993) rfl rfl rfl (by decide +kernel) ⟨Nat.le_of_ble_eq_true rfl, Nat.le_of_ble_eq_true rfl⟩) ⟨dz_blind, va_recv hKc hPc (ci := 10) (q0 := 0) rfl rfl, fun U hU hW => ⟨rfl, dz_Nw hW hN, by rw [hU], by rw [hU]; exact hPc, va_K.moved hW.alike hKc, hDc.weaken (fun _ _ _ _ => trivial)⟩⟩ rfl rfl hl.1 rfl (lv_room (Nat.le_of_ble_eq_true rfl)) d_Model_instruction_503 ⟨Nat.le_of_ble_eq_true rfl, Nat.le_of_ble_eq_true rfl⟩) hS (fun q _ h => hFc q h) hFc (fun r68 u68 t68 H1 locs ht hvm hw hB hz1 hk1 hS => ?_)
        obtain ⟨hP1, hK1, hD1⟩ := hB
        rw [ht] at hP1
        have hP := hP1
        have hD := hD1.weaken (fun _ q _ h => hFc q.1 h)
        have hw : z68_1 = r68 := hw.symm
        subst hw
        generalize H1 = H at hP hS ⊢
        have hP : va_P (dC, dI) classes (wD cB cI o_Model r z68_3 z68_2) H := hP
        have hD : va_D A (wD cB cI o_Model r z68_3 z68_2) := hD
        obtain ⟨⟨z69_1, z69_2⟩, hc69, h⟩ := dz_ob h
        try dsimp only at h
        have hPc := hP
        have hKc := hK
        have hDc := hD
        have hFc := dz_freeall hD hS hA
        refine va_calli (va_runV (As := [.int 2, .int z68_1]) (rest := []) ⟨hx, hb, hml, hown, hg⟩ (c_Model_next l dC dI N cB cI o_Model r z68_3 z68_2 (2 : Int32) z68_1 H.size (z69_1, z69_2) hc69) (cwV 2 hg (gd_V k871 k872 k873 k707 k870) rfl rfl rfl (by decide +kernel) ⟨Nat.le_of_ble_eq_true rfl, Nat.le_of_ble_eq_true rfl⟩) ⟨dz_blind, va_recv hKc hPc (ci := 10) (q0 := 0) rfl rfl, fun U hU hW => ⟨rfl, dz_Nw hW hN, by rw [hU], by rw [hU]; exact hPc, va_K.moved hW.alike hKc, hDc.weaken (fun _ _ _ _ => trivial)⟩⟩ rfl rfl hl.1 rfl (lv_room (Nat.le_of_ble_eq_true rfl)) d_Model_instruction_506 ⟨Nat.le_of_ble_eq_true rfl, Nat.le_of_ble_eq_true rfl⟩) hS (fun q _ h => hFc q h) hFc (fun r69 u69 t69 H1 locs ht hvm hw hB hz1 hk1 hS => ?_)
        obtain ⟨hP1, hK1, hD1⟩ := hB
        rw [ht] at hP1
        have hP := hP1
        have hD := hD1.weaken (fun _ q _ h => hFc q.1 h)
        have hw : z69_1 = r69 := hw.symm
        subst hw
        generalize H1 = H at hP hS ⊢
        have hP : va_P (dC, dI) classes (wD cB cI o_Model r z69_2 z68_2) H := hP
        have hD : va_D A (wD cB cI o_Model r z69_2 z68_2) := hD
        obtain rfl := Option.some.inj h
        have hP9 := hP
        have hD9 := hD
        have hK9 := hK
        exact W.iret (v := z69_1) hx hb hr (fun t ht hW => ⟨⟨z69_1, (), rfl, rfl, by rw [ht]; exact hP9, va_K.moved hW.alike hK9, hD9⟩, hS.F ht⟩) hS.2.2 d_Model_instruction_509
      rw [if_neg s9_12] at h
      by_cases s9_13 : ((F 14) (I 35).toNatClampNeg) = 13
      · rw [if_pos s9_13] at h
        refine lv_tableIn (off := 459) (tgt := 510) hx hb d_Model_instruction_51 (by rw [s9_13]; decide) (by rw [s9_13]; decide) (by rw [s9_13]; decide) (by decide) ?_
        refine lv_aload_n hx hb d_Model_instruction_510 rfl (lv_at hl 3 rfl) ?_
        refine lv_iconst (v := 1) hx hb d_Model_instruction_511 (by decide) ?_
        refine lv_aload_n hx hb d_Model_instruction_512 rfl (lv_at hl 3 rfl) ?_
        refine lv_iconst (v := 1) hx hb d_Model_instruction_513 (by decide) ?_
        refine lv_iconst (v := 3) hx hb d_Model_instruction_514 (by decide) ?_
        obtain ⟨z70_1, hc70, h⟩ := dz_ob h
        try dsimp only at h
        have hPc := hP
        have hKc := hK
        refine vp_callSi (va_Run.run (va_runV (As := [.int 1, .int 3]) (rest := [.int 1, .ref o_Model]) ⟨hx, hb, hml, hown, hg⟩ (c_Model_is l dC dI N cB cI o_Model r I F (1 : Int32) (3 : Int32) z70_1 hc70) (cwV 2 hg (gd_V k808 k809 k810 k707 k807) rfl rfl rfl (by decide +kernel) ⟨Nat.le_of_ble_eq_true rfl, Nat.le_of_ble_eq_true rfl⟩) ⟨dz_blindR, va_recv hKc hPc (ci := 10) (q0 := 0) rfl rfl, fun U hU hW => ⟨rfl, dz_Nw hW hN, by rw [hU]; exact hPc, va_K.moved hW.alike hKc⟩⟩ rfl rfl hl.1 rfl (lv_room (Nat.le_of_ble_eq_true rfl)) d_Model_instruction_515 ⟨Nat.le_of_ble_eq_true rfl, Nat.le_of_ble_eq_true rfl⟩)) (fun r70 hw => ?_)
        obtain ⟨hw, hbz70⟩ := hw
        have hw : z70_1 = r70 := hw.symm
        subst hw
        refine lv_if_ne (tgt := 531) hx hb d_Model_instruction_518 (by decide) (fun c71 => ?_) (fun c71 => ?_)
        · rw [if_neg c71] at h
          refine lv_aload_n hx hb d_Model_instruction_531 rfl (lv_at hl 3 rfl) ?_
          refine lv_iconst (v := 0) hx hb d_Model_instruction_532 (by decide) ?_
          obtain ⟨⟨z72_1, z72_2, z72_3⟩, hc72, h⟩ := dz_ob h
          try dsimp only at h
          have hPc := hP
          have hKc := hK
          have hDc := hD
          have hFc := dz_freeall hD hS hA
          refine va_calli (va_runV (As := [.int 0]) (rest := [.int 1, .ref o_Model]) ⟨hx, hb, hml, hown, hg⟩ (c_Model_part l dC dI N cB cI o_Model r I F (0 : Int32) H.size (z72_1, z72_2, z72_3) hc72) (cwV 1 hg (gd_V k998 k999 k1000 k707 k997) rfl rfl rfl (by decide +kernel) ⟨Nat.le_of_ble_eq_true rfl, Nat.le_of_ble_eq_true rfl⟩) ⟨dz_blind, va_recv hKc hPc (ci := 10) (q0 := 0) rfl rfl, fun U hU hW => ⟨rfl, dz_Nw hW hN, by rw [hU], by rw [hU]; exact hPc, va_K.moved hW.alike hKc, hDc.weaken (fun _ _ _ _ => trivial)⟩⟩ rfl rfl hl.1 rfl (lv_room (Nat.le_of_ble_eq_true rfl)) d_Model_instruction_533 ⟨Nat.le_of_ble_eq_true rfl, Nat.le_of_ble_eq_true rfl⟩) hS (fun q _ h => hFc q h) hFc (fun r72 u72 t72 H1 locs ht hvm hw hB hz1 hk1 hS => ?_)
          obtain ⟨hP1, hK1, hD1⟩ := hB
          rw [ht] at hP1
          have hP := hP1
          have hD := hD1.weaken (fun _ q _ h => hFc q.1 h)
          have hw : z72_1 = r72 := hw.symm
          subst hw
          generalize H1 = H at hP hS ⊢
          have hP : va_P (dC, dI) classes (wD cB cI o_Model r z72_3 z72_2) H := hP
          have hD : va_D A (wD cB cI o_Model r z72_3 z72_2) := hD
          refine lv_goto (tgt := 540) hx hb d_Model_instruction_536 (by decide) ?_
          obtain ⟨⟨z73_1, z73_2⟩, hc73, h⟩ := dz_ob h
          try dsimp only at h
          have hPc := hP
          have hKc := hK
          have hDc := hD
          have hFc := dz_freeall hD hS hA
          refine va_calli (va_runV (As := [.int 1, .int z72_1]) (rest := []) ⟨hx, hb, hml, hown, hg⟩ (c_Model_next l dC dI N cB cI o_Model r z72_3 z72_2 (1 : Int32) z72_1 H.size (z73_1, z73_2) hc73) (cwV 2 hg (gd_V k871 k872 k873 k707 k870) rfl rfl rfl (by decide +kernel) ⟨Nat.le_of_ble_eq_true rfl, Nat.le_of_ble_eq_true rfl⟩) ⟨dz_blind, va_recv hKc hPc (ci := 10) (q0 := 0) rfl rfl, fun U hU hW => ⟨rfl, dz_Nw hW hN, by rw [hU], by rw [hU]; exact hPc, va_K.moved hW.alike hKc, hDc.weaken (fun _ _ _ _ => trivial)⟩⟩ rfl rfl hl.1 rfl (lv_room (Nat.le_of_ble_eq_true rfl)) d_Model_instruction_540 ⟨Nat.le_of_ble_eq_true rfl, Nat.le_of_ble_eq_true rfl⟩) hS (fun q _ h => hFc q h) hFc (fun r73 u73 t73 H1 locs ht hvm hw hB hz1 hk1 hS => ?_)
          obtain ⟨hP1, hK1, hD1⟩ := hB
          rw [ht] at hP1
          have hP := hP1
          have hD := hD1.weaken (fun _ q _ h => hFc q.1 h)
          have hw : z73_1 = r73 := hw.symm
          subst hw
          generalize H1 = H at hP hS ⊢
          have hP : va_P (dC, dI) classes (wD cB cI o_Model r z73_2 z72_2) H := hP
          have hD : va_D A (wD cB cI o_Model r z73_2 z72_2) := hD
          obtain rfl := Option.some.inj h
          have hP9 := hP
          have hD9 := hD
          have hK9 := hK
          exact W.iret (v := z73_1) hx hb hr (fun t ht hW => ⟨⟨z73_1, (), rfl, rfl, by rw [ht]; exact hP9, va_K.moved hW.alike hK9, hD9⟩, hS.F ht⟩) hS.2.2 d_Model_instruction_543
        · rw [if_pos c71] at h
          refine lv_aload_n hx hb d_Model_instruction_521 rfl (lv_at hl 3 rfl) ?_
          refine lv_iconst (v := 1) hx hb d_Model_instruction_522 (by decide) ?_
          refine lv_bipush (v := 7) hx hb d_Model_instruction_523 (by decide) ?_
          obtain ⟨z74_1, hc74, h⟩ := dz_ob h
          try dsimp only at h
          have hPc := hP
          have hKc := hK
          refine vp_callSi (va_Run.run (va_runV (As := [.int 1, .int 7]) (rest := [.int 1, .ref o_Model]) ⟨hx, hb, hml, hown, hg⟩ (c_Model_is l dC dI N cB cI o_Model r I F (1 : Int32) (7 : Int32) z74_1 hc74) (cwV 2 hg (gd_V k808 k809 k810 k707 k807) rfl rfl rfl (by decide +kernel) ⟨Nat.le_of_ble_eq_true rfl, Nat.le_of_ble_eq_true rfl⟩) ⟨dz_blindR, va_recv hKc hPc (ci := 10) (q0 := 0) rfl rfl, fun U hU hW => ⟨rfl, dz_Nw hW hN, by rw [hU]; exact hPc, va_K.moved hW.alike hKc⟩⟩ rfl rfl hl.1 rfl (lv_room (Nat.le_of_ble_eq_true rfl)) d_Model_instruction_525 ⟨Nat.le_of_ble_eq_true rfl, Nat.le_of_ble_eq_true rfl⟩)) (fun r74 hw => ?_)
          obtain ⟨hw, hbz74⟩ := hw
          have hw : z74_1 = r74 := hw.symm
          subst hw
          refine lv_if_eq (tgt := 539) hx hb d_Model_instruction_528 (by decide) (fun c75 => ?_) (fun c75 => ?_)
          · rw [if_pos c75] at h
            refine lv_iconst (v := 4) hx hb d_Model_instruction_539 (by decide) ?_
            obtain ⟨⟨z76_1, z76_2⟩, hc76, h⟩ := dz_ob h
            try dsimp only at h
            have hPc := hP
            have hKc := hK
            have hDc := hD
            have hFc := dz_freeall hD hS hA
            refine va_calli (va_runV (As := [.int 1, .int 4]) (rest := []) ⟨hx, hb, hml, hown, hg⟩ (c_Model_next l dC dI N cB cI o_Model r I F (1 : Int32) (4 : Int32) H.size (z76_1, z76_2) hc76) (cwV 2 hg (gd_V k871 k872 k873 k707 k870) rfl rfl rfl (by decide +kernel) ⟨Nat.le_of_ble_eq_true rfl, Nat.le_of_ble_eq_true rfl⟩) ⟨dz_blind, va_recv hKc hPc (ci := 10) (q0 := 0) rfl rfl, fun U hU hW => ⟨rfl, dz_Nw hW hN, by rw [hU], by rw [hU]; exact hPc, va_K.moved hW.alike hKc, hDc.weaken (fun _ _ _ _ => trivial)⟩⟩ rfl rfl hl.1 rfl (lv_room (Nat.le_of_ble_eq_true rfl)) d_Model_instruction_540 ⟨Nat.le_of_ble_eq_true rfl, Nat.le_of_ble_eq_true rfl⟩) hS (fun q _ h => hFc q h) hFc (fun r76 u76 t76 H1 locs ht hvm hw hB hz1 hk1 hS => ?_)
            obtain ⟨hP1, hK1, hD1⟩ := hB
            rw [ht] at hP1
            have hP := hP1
            have hD := hD1.weaken (fun _ q _ h => hFc q.1 h)
            have hw : z76_1 = r76 := hw.symm
            subst hw
            generalize H1 = H at hP hS ⊢
            have hP : va_P (dC, dI) classes (wD cB cI o_Model r z76_2 F) H := hP
            have hD : va_D A (wD cB cI o_Model r z76_2 F) := hD
            obtain rfl := Option.some.inj h
            have hP9 := hP
            have hD9 := hD
            have hK9 := hK
            exact W.iret (v := z76_1) hx hb hr (fun t ht hW => ⟨⟨z76_1, (), rfl, rfl, by rw [ht]; exact hP9, va_K.moved hW.alike hK9, hD9⟩, hS.F ht⟩) hS.2.2 d_Model_instruction_543
          · rw [if_neg c75] at h
            refine lv_aload_n hx hb d_Model_instruction_531 rfl (lv_at hl 3 rfl) ?_
            refine lv_iconst (v := 0) hx hb d_Model_instruction_532 (by decide) ?_
            obtain ⟨⟨z77_1, z77_2, z77_3⟩, hc77, h⟩ := dz_ob h
            try dsimp only at h
            have hPc := hP
            have hKc := hK
            have hDc := hD
            have hFc := dz_freeall hD hS hA
            refine va_calli (va_runV (As := [.int 0]) (rest := [.int 1, .ref o_Model]) ⟨hx, hb, hml, hown, hg⟩ (c_Model_part l dC dI N cB cI o_Model r I F (0 : Int32) H.size (z77_1, z77_2, z77_3) hc77) (cwV 1 hg (gd_V k998 k999 k1000 k707 k997) rfl rfl rfl (by decide +kernel) ⟨Nat.le_of_ble_eq_true rfl, Nat.le_of_ble_eq_true rfl⟩) ⟨dz_blind, va_recv hKc hPc (ci := 10) (q0 := 0) rfl rfl, fun U hU hW => ⟨rfl, dz_Nw hW hN, by rw [hU], by rw [hU]; exact hPc, va_K.moved hW.alike hKc, hDc.weaken (fun _ _ _ _ => trivial)⟩⟩ rfl rfl hl.1 rfl (lv_room (Nat.le_of_ble_eq_true rfl)) d_Model_instruction_533 ⟨Nat.le_of_ble_eq_true rfl, Nat.le_of_ble_eq_true rfl⟩) hS (fun q _ h => hFc q h) hFc (fun r77 u77 t77 H1 locs ht hvm hw hB hz1 hk1 hS => ?_)
            obtain ⟨hP1, hK1, hD1⟩ := hB
            rw [ht] at hP1
            have hP := hP1
            have hD := hD1.weaken (fun _ q _ h => hFc q.1 h)
            have hw : z77_1 = r77 := hw.symm
            subst hw
            generalize H1 = H at hP hS ⊢
            have hP : va_P (dC, dI) classes (wD cB cI o_Model r z77_3 z77_2) H := hP
            have hD : va_D A (wD cB cI o_Model r z77_3 z77_2) := hD
            refine lv_goto (tgt := 540) hx hb d_Model_instruction_536 (by decide) ?_
            obtain ⟨⟨z78_1, z78_2⟩, hc78, h⟩ := dz_ob h
            try dsimp only at h
            have hPc := hP
            have hKc := hK
            have hDc := hD
            have hFc := dz_freeall hD hS hA
            refine va_calli (va_runV (As := [.int 1, .int z77_1]) (rest := []) ⟨hx, hb, hml, hown, hg⟩ (c_Model_next l dC dI N cB cI o_Model r z77_3 z77_2 (1 : Int32) z77_1 H.size (z78_1, z78_2) hc78) (cwV 2 hg (gd_V k871 k872 k873 k707 k870) rfl rfl rfl (by decide +kernel) ⟨Nat.le_of_ble_eq_true rfl, Nat.le_of_ble_eq_true rfl⟩) ⟨dz_blind, va_recv hKc hPc (ci := 10) (q0 := 0) rfl rfl, fun U hU hW => ⟨rfl, dz_Nw hW hN, by rw [hU], by rw [hU]; exact hPc, va_K.moved hW.alike hKc, hDc.weaken (fun _ _ _ _ => trivial)⟩⟩ rfl rfl hl.1 rfl (lv_room (Nat.le_of_ble_eq_true rfl)) d_Model_instruction_540 ⟨Nat.le_of_ble_eq_true rfl, Nat.le_of_ble_eq_true rfl⟩) hS (fun q _ h => hFc q h) hFc (fun r78 u78 t78 H1 locs ht hvm hw hB hz1 hk1 hS => ?_)
            obtain ⟨hP1, hK1, hD1⟩ := hB
            rw [ht] at hP1
            have hP := hP1
            have hD := hD1.weaken (fun _ q _ h => hFc q.1 h)
            have hw : z78_1 = r78 := hw.symm
            subst hw
            generalize H1 = H at hP hS ⊢
            have hP : va_P (dC, dI) classes (wD cB cI o_Model r z78_2 z77_2) H := hP
            have hD : va_D A (wD cB cI o_Model r z78_2 z77_2) := hD
            obtain rfl := Option.some.inj h
            have hP9 := hP
            have hD9 := hD
            have hK9 := hK
            exact W.iret (v := z78_1) hx hb hr (fun t ht hW => ⟨⟨z78_1, (), rfl, rfl, by rw [ht]; exact hP9, va_K.moved hW.alike hK9, hD9⟩, hS.F ht⟩) hS.2.2 d_Model_instruction_543
      rw [if_neg s9_13] at h
      by_cases s9_14 : ((F 14) (I 35).toNatClampNeg) = 14
      · rw [if_pos s9_14] at h
        refine lv_tableIn (off := 493) (tgt := 544) hx hb d_Model_instruction_51 (by rw [s9_14]; decide) (by rw [s9_14]; decide) (by rw [s9_14]; decide) (by decide) ?_
        refine lv_aload_n hx hb d_Model_instruction_544 rfl (lv_at hl 3 rfl) ?_
        refine lv_iconst (v := 1) hx hb d_Model_instruction_545 (by decide) ?_
        refine lv_aload_n hx hb d_Model_instruction_546 rfl (lv_at hl 3 rfl) ?_
        refine lv_iconst (v := 1) hx hb d_Model_instruction_547 (by decide) ?_
        refine lv_iconst (v := 3) hx hb d_Model_instruction_548 (by decide) ?_
        obtain ⟨z79_1, hc79, h⟩ := dz_ob h
        try dsimp only at h
        have hPc := hP
        have hKc := hK
        refine vp_callSi (va_Run.run (va_runV (As := [.int 1, .int 3]) (rest := [.int 1, .ref o_Model]) ⟨hx, hb, hml, hown, hg⟩ (c_Model_is l dC dI N cB cI o_Model r I F (1 : Int32) (3 : Int32) z79_1 hc79) (cwV 2 hg (gd_V k808 k809 k810 k707 k807) rfl rfl rfl (by decide +kernel) ⟨Nat.le_of_ble_eq_true rfl, Nat.le_of_ble_eq_true rfl⟩) ⟨dz_blindR, va_recv hKc hPc (ci := 10) (q0 := 0) rfl rfl, fun U hU hW => ⟨rfl, dz_Nw hW hN, by rw [hU]; exact hPc, va_K.moved hW.alike hKc⟩⟩ rfl rfl hl.1 rfl (lv_room (Nat.le_of_ble_eq_true rfl)) d_Model_instruction_549 ⟨Nat.le_of_ble_eq_true rfl, Nat.le_of_ble_eq_true rfl⟩)) (fun r79 hw => ?_)
        obtain ⟨hw, hbz79⟩ := hw
        have hw : z79_1 = r79 := hw.symm
        subst hw
        refine lv_if_eq (tgt := 574) hx hb d_Model_instruction_552 (by decide) (fun c80 => ?_) (fun c80 => ?_)
        · rw [if_pos c80] at h
          refine lv_aload_n hx hb d_Model_instruction_574 rfl (lv_at hl 3 rfl) ?_
          refine lv_iconst (v := 1) hx hb d_Model_instruction_575 (by decide) ?_
          obtain ⟨z81_1, hc81, h⟩ := dz_ob h
          try dsimp only at h
          have hPc := hP
          have hKc := hK
          refine vp_callSi (va_Run.run (va_runV (As := [.int 1]) (rest := [.int 1, .ref o_Model]) ⟨hx, hb, hml, hown, hg⟩ (c_Model_isScalar l dC dI N cB cI o_Model r I F (1 : Int32) z81_1 hc81) (cwV 1 hg (gd_V k818 k819 k820 k707 k817) rfl rfl rfl (by decide +kernel) ⟨Nat.le_of_ble_eq_true rfl, Nat.le_of_ble_eq_true rfl⟩) ⟨dz_blindR, va_recv hKc hPc (ci := 10) (q0 := 0) rfl rfl, fun U hU hW => ⟨rfl, dz_Nw hW hN, by rw [hU]; exact hPc, va_K.moved hW.alike hKc⟩⟩ rfl rfl hl.1 rfl (lv_room (Nat.le_of_ble_eq_true rfl)) d_Model_instruction_576 ⟨Nat.le_of_ble_eq_true rfl, Nat.le_of_ble_eq_true rfl⟩)) (fun r81 hw => ?_)
          obtain ⟨hw, hbz81⟩ := hw
          have hw : z81_1 = r81 := hw.symm
          subst hw
          refine lv_if_eq (tgt := 586) hx hb d_Model_instruction_579 (by decide) (fun c82 => ?_) (fun c82 => ?_)
          · rw [if_pos c82] at h
            refine lv_iconst (v := 4) hx hb d_Model_instruction_586 (by decide) ?_
            obtain ⟨⟨z83_1, z83_2⟩, hc83, h⟩ := dz_ob h
            try dsimp only at h
            have hPc := hP
            have hKc := hK
            have hDc := hD
            have hFc := dz_freeall hD hS hA
            refine va_calli (va_runV (As := [.int 1, .int 4]) (rest := []) ⟨hx, hb, hml, hown, hg⟩ (c_Model_next l dC dI N cB cI o_Model r I F (1 : Int32) (4 : Int32) H.size (z83_1, z83_2) hc83) (cwV 2 hg (gd_V k871 k872 k873 k707 k870) rfl rfl rfl (by decide +kernel) ⟨Nat.le_of_ble_eq_true rfl, Nat.le_of_ble_eq_true rfl⟩) ⟨dz_blind, va_recv hKc hPc (ci := 10) (q0 := 0) rfl rfl, fun U hU hW => ⟨rfl, dz_Nw hW hN, by rw [hU], by rw [hU]; exact hPc, va_K.moved hW.alike hKc, hDc.weaken (fun _ _ _ _ => trivial)⟩⟩ rfl rfl hl.1 rfl (lv_room (Nat.le_of_ble_eq_true rfl)) d_Model_instruction_587 ⟨Nat.le_of_ble_eq_true rfl, Nat.le_of_ble_eq_true rfl⟩) hS (fun q _ h => hFc q h) hFc (fun r83 u83 t83 H1 locs ht hvm hw hB hz1 hk1 hS => ?_)
            obtain ⟨hP1, hK1, hD1⟩ := hB
            rw [ht] at hP1
            have hP := hP1
            have hD := hD1.weaken (fun _ q _ h => hFc q.1 h)
            have hw : z83_1 = r83 := hw.symm
            subst hw
            generalize H1 = H at hP hS ⊢
            have hP : va_P (dC, dI) classes (wD cB cI o_Model r z83_2 F) H := hP
            have hD : va_D A (wD cB cI o_Model r z83_2 F) := hD
            obtain rfl := Option.some.inj h
            have hP9 := hP
            have hD9 := hD
            have hK9 := hK
            exact W.iret (v := z83_1) hx hb hr (fun t ht hW => ⟨⟨z83_1, (), rfl, rfl, by rw [ht]; exact hP9, va_K.moved hW.alike hK9, hD9⟩, hS.F ht⟩) hS.2.2 d_Model_instruction_590
          · rw [if_neg c82] at h
            refine lv_iconst (v := 5) hx hb d_Model_instruction_582 (by decide) ?_
            refine lv_goto (tgt := 587) hx hb d_Model_instruction_583 (by decide) ?_
            obtain ⟨⟨z84_1, z84_2⟩, hc84, h⟩ := dz_ob h
            try dsimp only at h
            have hPc := hP
            have hKc := hK
            have hDc := hD
            have hFc := dz_freeall hD hS hA
            refine va_calli (va_runV (As := [.int 1, .int 5]) (rest := []) ⟨hx, hb, hml, hown, hg⟩ (c_Model_next l dC dI N cB cI o_Model r I F (1 : Int32) (5 : Int32) H.size (z84_1, z84_2) hc84) (cwV 2 hg (gd_V k871 k872 k873 k707 k870) rfl rfl rfl (by decide +kernel) ⟨Nat.le_of_ble_eq_true rfl, Nat.le_of_ble_eq_true rfl⟩) ⟨dz_blind, va_recv hKc hPc (ci := 10) (q0 := 0) rfl rfl, fun U hU hW => ⟨rfl, dz_Nw hW hN, by rw [hU], by rw [hU]; exact hPc, va_K.moved hW.alike hKc, hDc.weaken (fun _ _ _ _ => trivial)⟩⟩ rfl rfl hl.1 rfl (lv_room (Nat.le_of_ble_eq_true rfl)) d_Model_instruction_587 ⟨Nat.le_of_ble_eq_true rfl, Nat.le_of_ble_eq_true rfl⟩) hS (fun q _ h => hFc q h) hFc (fun r84 u84 t84 H1 locs ht hvm hw hB hz1 hk1 hS => ?_)
            obtain ⟨hP1, hK1, hD1⟩ := hB
            rw [ht] at hP1
            have hP := hP1
            have hD := hD1.weaken (fun _ q _ h => hFc q.1 h)
            have hw : z84_1 = r84 := hw.symm
            subst hw
            generalize H1 = H at hP hS ⊢
            have hP : va_P (dC, dI) classes (wD cB cI o_Model r z84_2 F) H := hP
            have hD : va_D A (wD cB cI o_Model r z84_2 F) := hD
            obtain rfl := Option.some.inj h
            have hP9 := hP
            have hD9 := hD
            have hK9 := hK
            exact W.iret (v := z84_1) hx hb hr (fun t ht hW => ⟨⟨z84_1, (), rfl, rfl, by rw [ht]; exact hP9, va_K.moved hW.alike hK9, hD9⟩, hS.F ht⟩) hS.2.2 d_Model_instruction_590
        · rw [if_neg c80] at h
          refine lv_aload_n hx hb d_Model_instruction_555 rfl (lv_at hl 3 rfl) ?_
          refine lv_iconst (v := 1) hx hb d_Model_instruction_556 (by decide) ?_
          refine lv_iconst (v := 0) hx hb d_Model_instruction_557 (by decide) ?_
          refine lv_aload_n hx hb d_Model_instruction_558 rfl (lv_at hl 3 rfl) ?_
          refine va_get (D := (dC, dI)) (ci := 10) (v := .ref (r 1)) (C := R_Model) (T := F_Model) (N := 54) hx hb hg i_Model hown hK hP 0 rfl rfl 1 (by decide) (hg _ k742) (fun _ h9 => h9) rfl d_Model_instruction_559 ?_
          refine lv_aload_n hx hb d_Model_instruction_562 rfl (lv_at hl 3 rfl) ?_
          refine lv_iconst (v := 1) hx hb d_Model_instruction_563 (by decide) ?_
          obtain ⟨z85_1, hc85, h⟩ := dz_ob h
          try dsimp only at h
          have hPc := hP
          have hKc := hK
          refine vp_callSi (va_Run.run (va_runV (As := [.int 1]) (rest := [.ref (r 1), .int 0, .int 1, .ref o_Model, .int 1, .ref o_Model]) ⟨hx, hb, hml, hown, hg⟩ (c_Model_scalar l dC dI N cB cI o_Model r I F (1 : Int32) z85_1 hc85) (cwV 1 hg (gd_V k804 k805 k806 k707 k803) rfl rfl rfl (by decide +kernel) ⟨Nat.le_of_ble_eq_true rfl, Nat.le_of_ble_eq_true rfl⟩) ⟨dz_blindR, va_recv hKc hPc (ci := 10) (q0 := 0) rfl rfl, fun U hU hW => ⟨rfl, dz_Nw hW hN, by rw [hU]; exact hPc, va_K.moved hW.alike hKc⟩⟩ rfl rfl hl.1 rfl (lv_room (Nat.le_of_ble_eq_true rfl)) d_Model_instruction_564 ⟨Nat.le_of_ble_eq_true rfl, Nat.le_of_ble_eq_true rfl⟩)) (fun r85 hw => ?_)
          have hw : z85_1 = r85 := hw.symm
          subst hw
          obtain ⟨i86, h⟩ := dz_oi h
          refine va_iald (D := (dC, dI)) (f := F 1) hx hb hK hP 2 1 rfl rfl i86 d_Model_instruction_567 ?_
          obtain ⟨⟨z87_1, z87_2, z87_3⟩, hc87, h⟩ := dz_ob h
          try dsimp only at h
          have hPc := hP
          have hKc := hK
          have hDc := hD
          have hFc := dz_freeall hD hS hA
          refine va_calli (va_runV (As := [.int 1, .int 0, .int ((F 1) z85_1.toNatClampNeg)]) (rest := [.int 1, .ref o_Model]) ⟨hx, hb, hml, hown, hg⟩ (c_Model_give l dC dI N cB cI o_Model r I F (1 : Int32) (0 : Int32) ((F 1) z85_1.toNatClampNeg) H.size (z87_1, z87_2, z87_3) hc87) (cwV 3 hg (gd_V k734 k735 k736 k707 k733) rfl rfl rfl (by decide +kernel) ⟨Nat.le_of_ble_eq_true rfl, Nat.le_of_ble_eq_true rfl⟩) ⟨dz_blind, va_recv hKc hPc (ci := 10) (q0 := 0) rfl rfl, fun U hU hW => ⟨rfl, dz_Nw hW hN, by rw [hU], by rw [hU]; exact hPc, va_K.moved hW.alike hKc, hDc.weaken (fun _ _ _ _ => trivial)⟩⟩ rfl rfl hl.1 rfl (lv_room (Nat.le_of_ble_eq_true rfl)) d_Model_instruction_568 ⟨Nat.le_of_ble_eq_true rfl, Nat.le_of_ble_eq_true rfl⟩) hS (fun q _ h => hFc q h) hFc (fun r87 u87 t87 H1 locs ht hvm hw hB hz1 hk1 hS => ?_)
          obtain ⟨hP1, hK1, hD1⟩ := hB
          rw [ht] at hP1
          have hP := hP1
          have hD := hD1.weaken (fun _ q _ h => hFc q.1 h)
          have hw : z87_1 = r87 := hw.symm
          subst hw
          generalize H1 = H at hP hS ⊢
          have hP : va_P (dC, dI) classes (wD cB cI o_Model r z87_3 z87_2) H := hP
          have hD : va_D A (wD cB cI o_Model r z87_3 z87_2) := hD
          refine lv_goto (tgt := 587) hx hb d_Model_instruction_571 (by decide) ?_
          obtain ⟨⟨z88_1, z88_2⟩, hc88, h⟩ := dz_ob h
          try dsimp only at h
          have hPc := hP
          have hKc := hK
          have hDc := hD
          have hFc := dz_freeall hD hS hA
          refine va_calli (va_runV (As := [.int 1, .int z87_1]) (rest := []) ⟨hx, hb, hml, hown, hg⟩ (c_Model_next l dC dI N cB cI o_Model r z87_3 z87_2 (1 : Int32) z87_1 H.size (z88_1, z88_2) hc88) (cwV 2 hg (gd_V k871 k872 k873 k707 k870) rfl rfl rfl (by decide +kernel) ⟨Nat.le_of_ble_eq_true rfl, Nat.le_of_ble_eq_true rfl⟩) ⟨dz_blind, va_recv hKc hPc (ci := 10) (q0 := 0) rfl rfl, fun U hU hW => ⟨rfl, dz_Nw hW hN, by rw [hU], by rw [hU]; exact hPc, va_K.moved hW.alike hKc, hDc.weaken (fun _ _ _ _ => trivial)⟩⟩ rfl rfl hl.1 rfl (lv_room (Nat.le_of_ble_eq_true rfl)) d_Model_instruction_587 ⟨Nat.le_of_ble_eq_true rfl, Nat.le_of_ble_eq_true rfl⟩) hS (fun q _ h => hFc q h) hFc (fun r88 u88 t88 H1 locs ht hvm hw hB hz1 hk1 hS => ?_)
          obtain ⟨hP1, hK1, hD1⟩ := hB
          rw [ht] at hP1
          have hP := hP1
          have hD := hD1.weaken (fun _ q _ h => hFc q.1 h)
          have hw : z88_1 = r88 := hw.symm
          subst hw
          generalize H1 = H at hP hS ⊢
          have hP : va_P (dC, dI) classes (wD cB cI o_Model r z88_2 z87_2) H := hP
          have hD : va_D A (wD cB cI o_Model r z88_2 z87_2) := hD
          obtain rfl := Option.some.inj h
          have hP9 := hP
          have hD9 := hD
          have hK9 := hK
          exact W.iret (v := z88_1) hx hb hr (fun t ht hW => ⟨⟨z88_1, (), rfl, rfl, by rw [ht]; exact hP9, va_K.moved hW.alike hK9, hD9⟩, hS.F ht⟩) hS.2.2 d_Model_instruction_590
      rw [if_neg s9_14] at h
      by_cases s9_15 : ((F 14) (I 35).toNatClampNeg) = 15
      · rw [if_pos s9_15] at h
        refine lv_tableIn (off := 540) (tgt := 591) hx hb d_Model_instruction_51 (by rw [s9_15]; decide) (by rw [s9_15]; decide) (by rw [s9_15]; decide) (by decide) ?_
        refine lv_aload_n hx hb d_Model_instruction_591 rfl (lv_at hl 3 rfl) ?_
        refine lv_iconst (v := 3) hx hb d_Model_instruction_592 (by decide) ?_
        refine lv_aload_n hx hb d_Model_instruction_593 rfl (lv_at hl 3 rfl) ?_
        refine lv_iconst (v := 2) hx hb d_Model_instruction_594 (by decide) ?_
        obtain ⟨z89_1, hc89, h⟩ := dz_ob h
        try dsimp only at h
        have hPc := hP
        have hKc := hK
        refine vp_callSi (va_Run.run (va_runV (As := [.int 2]) (rest := [.int 3, .ref o_Model]) ⟨hx, hb, hml, hown, hg⟩ (c_Model_word l dC dI N cB cI o_Model r I F (2 : Int32) z89_1 hc89) (cwV 1 hg (gd_V k822 k823 k824 k707 k821) rfl rfl rfl (by decide +kernel) ⟨Nat.le_of_ble_eq_true rfl, Nat.le_of_ble_eq_true rfl⟩) ⟨dz_blindR, va_recv hKc hPc (ci := 10) (q0 := 0) rfl rfl, fun U hU hW => ⟨rfl, dz_Nw hW hN, by rw [hU]; exact hPc, va_K.moved hW.alike hKc⟩⟩ rfl rfl hl.1 rfl (lv_room (Nat.le_of_ble_eq_true rfl)) d_Model_instruction_595 ⟨Nat.le_of_ble_eq_true rfl, Nat.le_of_ble_eq_true rfl⟩)) (fun r89 hw => ?_)
        have hw : z89_1 = r89 := hw.symm
        subst hw
        refine lv_if_lt (tgt := 624) hx hb d_Model_instruction_598 (by decide) (fun c90 => ?_) (fun c90 => ?_)
        · rw [if_pos c90] at h
          refine lv_iconst (v := 4) hx hb d_Model_instruction_624 (by decide) ?_
          refine lv_goto (tgt := 639) hx hb d_Model_instruction_625 (by decide) ?_
          obtain ⟨⟨z91_1, z91_2⟩, hc91, h⟩ := dz_ob h
          try dsimp only at h
          have hPc := hP
          have hKc := hK
          have hDc := hD
          have hFc := dz_freeall hD hS hA
          refine va_calli (va_runV (As := [.int 3, .int 4]) (rest := []) ⟨hx, hb, hml, hown, hg⟩ (c_Model_next l dC dI N cB cI o_Model r I F (3 : Int32) (4 : Int32) H.size (z91_1, z91_2) hc91) (cwV 2 hg (gd_V k871 k872 k873 k707 k870) rfl rfl rfl (by decide +kernel) ⟨Nat.le_of_ble_eq_true rfl, Nat.le_of_ble_eq_true rfl⟩) ⟨dz_blind, va_recv hKc hPc (ci := 10) (q0 := 0) rfl rfl, fun U hU hW => ⟨rfl, dz_Nw hW hN, by rw [hU], by rw [hU]; exact hPc, va_K.moved hW.alike hKc, hDc.weaken (fun _ _ _ _ => trivial)⟩⟩ rfl rfl hl.1 rfl (lv_room (Nat.le_of_ble_eq_true rfl)) d_Model_instruction_639 ⟨Nat.le_of_ble_eq_true rfl, Nat.le_of_ble_eq_true rfl⟩) hS (fun q _ h => hFc q h) hFc (fun r91 u91 t91 H1 locs ht hvm hw hB hz1 hk1 hS => ?_)
          obtain ⟨hP1, hK1, hD1⟩ := hB
          rw [ht] at hP1
          have hP := hP1
          have hD := hD1.weaken (fun _ q _ h => hFc q.1 h)
          have hw : z91_1 = r91 := hw.symm
          subst hw
          generalize H1 = H at hP hS ⊢
          have hP : va_P (dC, dI) classes (wD cB cI o_Model r z91_2 F) H := hP
          have hD : va_D A (wD cB cI o_Model r z91_2 F) := hD
          obtain rfl := Option.some.inj h
          have hP9 := hP
          have hD9 := hD
          have hK9 := hK
          exact W.iret (v := z91_1) hx hb hr (fun t ht hW => ⟨⟨z91_1, (), rfl, rfl, by rw [ht]; exact hP9, va_K.moved hW.alike hK9, hD9⟩, hS.F ht⟩) hS.2.2 d_Model_instruction_642
        · rw [if_neg c90] at h
          refine lv_aload_n hx hb d_Model_instruction_601 rfl (lv_at hl 3 rfl) ?_
          refine lv_iconst (v := 2) hx hb d_Model_instruction_602 (by decide) ?_
          obtain ⟨z92_1, hc92, h⟩ := dz_ob h
          try dsimp only at h
          have hPc := hP
          have hKc := hK
          refine vp_callSi (va_Run.run (va_runV (As := [.int 2]) (rest := [.int 3, .ref o_Model]) ⟨hx, hb, hml, hown, hg⟩ (c_Model_word l dC dI N cB cI o_Model r I F (2 : Int32) z92_1 hc92) (cwV 1 hg (gd_V k822 k823 k824 k707 k821) rfl rfl rfl (by decide +kernel) ⟨Nat.le_of_ble_eq_true rfl, Nat.le_of_ble_eq_true rfl⟩) ⟨dz_blindR, va_recv hKc hPc (ci := 10) (q0 := 0) rfl rfl, fun U hU hW => ⟨rfl, dz_Nw hW hN, by rw [hU]; exact hPc, va_K.moved hW.alike hKc⟩⟩ rfl rfl hl.1 rfl (lv_room (Nat.le_of_ble_eq_true rfl)) d_Model_instruction_603 ⟨Nat.le_of_ble_eq_true rfl, Nat.le_of_ble_eq_true rfl⟩)) (fun r92 hw => ?_)
          have hw : z92_1 = r92 := hw.symm
          subst hw
          refine lv_sipush (v := 4095) hx hb d_Model_instruction_606 (by decide) ?_
          refine lv_icmp_gt (tgt := 624) hx hb d_Model_instruction_609 (by decide) (fun c93 => ?_) (fun c93 => ?_)
          · rw [if_pos c93] at h
            refine lv_iconst (v := 4) hx hb d_Model_instruction_624 (by decide) ?_
            refine lv_goto (tgt := 639) hx hb d_Model_instruction_625 (by decide) ?_
            obtain ⟨⟨z94_1, z94_2⟩, hc94, h⟩ := dz_ob h
            try dsimp only at h
            have hPc := hP
            have hKc := hK
            have hDc := hD
            have hFc := dz_freeall hD hS hA
            refine va_calli (va_runV (As := [.int 3, .int 4]) (rest := []) ⟨hx, hb, hml, hown, hg⟩ (c_Model_next l dC dI N cB cI o_Model r I F (3 : Int32) (4 : Int32) H.size (z94_1, z94_2) hc94) (cwV 2 hg (gd_V k871 k872 k873 k707 k870) rfl rfl rfl (by decide +kernel) ⟨Nat.le_of_ble_eq_true rfl, Nat.le_of_ble_eq_true rfl⟩) ⟨dz_blind, va_recv hKc hPc (ci := 10) (q0 := 0) rfl rfl, fun U hU hW => ⟨rfl, dz_Nw hW hN, by rw [hU], by rw [hU]; exact hPc, va_K.moved hW.alike hKc, hDc.weaken (fun _ _ _ _ => trivial)⟩⟩ rfl rfl hl.1 rfl (lv_room (Nat.le_of_ble_eq_true rfl)) d_Model_instruction_639 ⟨Nat.le_of_ble_eq_true rfl, Nat.le_of_ble_eq_true rfl⟩) hS (fun q _ h => hFc q h) hFc (fun r94 u94 t94 H1 locs ht hvm hw hB hz1 hk1 hS => ?_)
            obtain ⟨hP1, hK1, hD1⟩ := hB
            rw [ht] at hP1
            have hP := hP1
            have hD := hD1.weaken (fun _ q _ h => hFc q.1 h)
            have hw : z94_1 = r94 := hw.symm
            subst hw
            generalize H1 = H at hP hS ⊢
            have hP : va_P (dC, dI) classes (wD cB cI o_Model r z94_2 F) H := hP
            have hD : va_D A (wD cB cI o_Model r z94_2 F) := hD
            obtain rfl := Option.some.inj h
            have hP9 := hP
            have hD9 := hD
            have hK9 := hK
            exact W.iret (v := z94_1) hx hb hr (fun t ht hW => ⟨⟨z94_1, (), rfl, rfl, by rw [ht]; exact hP9, va_K.moved hW.alike hK9, hD9⟩, hS.F ht⟩) hS.2.2 d_Model_instruction_642
          · rw [if_neg c93] at h
            refine lv_aload_n hx hb d_Model_instruction_612 rfl (lv_at hl 3 rfl) ?_
            obtain ⟨z95_1, hc95, h⟩ := dz_ob h
            try dsimp only at h
            have hPc := hP
            have hKc := hK
            refine vp_callSi (va_Run.run (va_runV (As := []) (rest := [.int 3, .ref o_Model]) ⟨hx, hb, hml, hown, hg⟩ (c_Model_height l dC dI N cB cI o_Model r I F z95_1 hc95) (cwV 0 hg (gd_V k829 k830 k831 k707 k828) rfl rfl rfl (by decide +kernel) ⟨Nat.le_of_ble_eq_true rfl, Nat.le_of_ble_eq_true rfl⟩) ⟨dz_blindR, va_recv hKc hPc (ci := 10) (q0 := 0) rfl rfl, fun U hU hW => ⟨rfl, dz_Nw hW hN, by rw [hU]; exact hPc, va_K.moved hW.alike hKc⟩⟩ rfl rfl hl.1 rfl (lv_room (Nat.le_of_ble_eq_true rfl)) d_Model_instruction_613 ⟨Nat.le_of_ble_eq_true rfl, Nat.le_of_ble_eq_true rfl⟩)) (fun r95 hw => ?_)
            have hw : z95_1 = r95 := hw.symm
            subst hw
            refine lv_aload_n hx hb d_Model_instruction_616 rfl (lv_at hl 3 rfl) ?_
            refine lv_iconst (v := 2) hx hb d_Model_instruction_617 (by decide) ?_
            obtain ⟨z96_1, hc96, h⟩ := dz_ob h
            try dsimp only at h
            have hPc := hP
            have hKc := hK
            refine vp_callSi (va_Run.run (va_runV (As := [.int 2]) (rest := [.int z95_1, .int 3, .ref o_Model]) ⟨hx, hb, hml, hown, hg⟩ (c_Model_word l dC dI N cB cI o_Model r I F (2 : Int32) z96_1 hc96) (cwV 1 hg (gd_V k822 k823 k824 k707 k821) rfl rfl rfl (by decide +kernel) ⟨Nat.le_of_ble_eq_true rfl, Nat.le_of_ble_eq_true rfl⟩) ⟨dz_blindR, va_recv hKc hPc (ci := 10) (q0 := 0) rfl rfl, fun U hU hW => ⟨rfl, dz_Nw hW hN, by rw [hU]; exact hPc, va_K.moved hW.alike hKc⟩⟩ rfl rfl hl.1 rfl (lv_room (Nat.le_of_ble_eq_true rfl)) d_Model_instruction_618 ⟨Nat.le_of_ble_eq_true rfl, Nat.le_of_ble_eq_true rfl⟩)) (fun r96 hw => ?_)
            have hw : z96_1 = r96 := hw.symm
            subst hw
            refine lv_icmp_ge (tgt := 628) hx hb d_Model_instruction_621 (by decide) (fun c97 => ?_) (fun c97 => ?_)
            · rw [if_pos c97] at h
              refine lv_aload_n hx hb d_Model_instruction_628 rfl (lv_at hl 3 rfl) ?_
              refine lv_iconst (v := 4) hx hb d_Model_instruction_629 (by decide) ?_
              refine lv_aload_n hx hb d_Model_instruction_630 rfl (lv_at hl 3 rfl) ?_
              refine lv_iconst (v := 2) hx hb d_Model_instruction_631 (by decide) ?_
              obtain ⟨z98_1, hc98, h⟩ := dz_ob h
              try dsimp only at h
              have hPc := hP
              have hKc := hK
              refine vp_callSi (va_Run.run (va_runV (As := [.int 2]) (rest := [.int 4, .ref o_Model, .int 3, .ref o_Model]) ⟨hx, hb, hml, hown, hg⟩ (c_Model_word l dC dI N cB cI o_Model r I F (2 : Int32) z98_1 hc98) (cwV 1 hg (gd_V k822 k823 k824 k707 k821) rfl rfl rfl (by decide +kernel) ⟨Nat.le_of_ble_eq_true rfl, Nat.le_of_ble_eq_true rfl⟩) ⟨dz_blindR, va_recv hKc hPc (ci := 10) (q0 := 0) rfl rfl, fun U hU hW => ⟨rfl, dz_Nw hW hN, by rw [hU]; exact hPc, va_K.moved hW.alike hKc⟩⟩ rfl rfl hl.1 rfl (lv_room (Nat.le_of_ble_eq_true rfl)) d_Model_instruction_632 ⟨Nat.le_of_ble_eq_true rfl, Nat.le_of_ble_eq_true rfl⟩)) (fun r98 hw => ?_)
              have hw : z98_1 = r98 := hw.symm
              subst hw
              refine lv_iload_n hx hb d_Model_instruction_635 rfl (lv_at hl 0 rfl) ?_
              obtain ⟨⟨z99_1, z99_2, z99_3⟩, hc99, h⟩ := dz_ob h
              try dsimp only at h
              have hPc := hP
              have hKc := hK
              have hDc := hD
              have hFc := dz_freeall hD hS hA
              refine va_calli (va_runV (As := [.int 4, .int z98_1, .int y1_0]) (rest := [.int 3, .ref o_Model]) ⟨hx, hb, hml, hown, hg⟩ (c_Model_gather l dC dI N cB cI o_Model r I F (4 : Int32) z98_1 y1_0 H.size (z99_1, z99_2, z99_3) hc99) (cwV 3 hg (gd_V k994 k995 k996 k707 k993) rfl rfl rfl (by decide +kernel) ⟨Nat.le_of_ble_eq_true rfl, Nat.le_of_ble_eq_true rfl⟩) ⟨dz_blind, va_recv hKc hPc (ci := 10) (q0 := 0) rfl rfl, fun U hU hW => ⟨rfl, dz_Nw hW hN, by rw [hU], by rw [hU]; exact hPc, va_K.moved hW.alike hKc, hDc.weaken (fun _ _ _ _ => trivial)⟩⟩ rfl rfl hl.1 rfl (lv_room (Nat.le_of_ble_eq_true rfl)) d_Model_instruction_636 ⟨Nat.le_of_ble_eq_true rfl, Nat.le_of_ble_eq_true rfl⟩) hS (fun q _ h => hFc q h) hFc (fun r99 u99 t99 H1 locs ht hvm hw hB hz1 hk1 hS => ?_)
              obtain ⟨hP1, hK1, hD1⟩ := hB
              rw [ht] at hP1
              have hP := hP1
              have hD := hD1.weaken (fun _ q _ h => hFc q.1 h)
              have hw : z99_1 = r99 := hw.symm
              subst hw
              generalize H1 = H at hP hS ⊢
              have hP : va_P (dC, dI) classes (wD cB cI o_Model r z99_3 z99_2) H := hP
              have hD : va_D A (wD cB cI o_Model r z99_3 z99_2) := hD
              obtain ⟨⟨z100_1, z100_2⟩, hc100, h⟩ := dz_ob h
              try dsimp only at h
              have hPc := hP
              have hKc := hK
              have hDc := hD
              have hFc := dz_freeall hD hS hA
              refine va_calli (va_runV (As := [.int 3, .int z99_1]) (rest := []) ⟨hx, hb, hml, hown, hg⟩ (c_Model_next l dC dI N cB cI o_Model r z99_3 z99_2 (3 : Int32) z99_1 H.size (z100_1, z100_2) hc100) (cwV 2 hg (gd_V k871 k872 k873 k707 k870) rfl rfl rfl (by decide +kernel) ⟨Nat.le_of_ble_eq_true rfl, Nat.le_of_ble_eq_true rfl⟩) ⟨dz_blind, va_recv hKc hPc (ci := 10) (q0 := 0) rfl rfl, fun U hU hW => ⟨rfl, dz_Nw hW hN, by rw [hU], by rw [hU]; exact hPc, va_K.moved hW.alike hKc, hDc.weaken (fun _ _ _ _ => trivial)⟩⟩ rfl rfl hl.1 rfl (lv_room (Nat.le_of_ble_eq_true rfl)) d_Model_instruction_639 ⟨Nat.le_of_ble_eq_true rfl, Nat.le_of_ble_eq_true rfl⟩) hS (fun q _ h => hFc q h) hFc (fun r100 u100 t100 H1 locs ht hvm hw hB hz1 hk1 hS => ?_)
              obtain ⟨hP1, hK1, hD1⟩ := hB
              rw [ht] at hP1
              have hP := hP1
              have hD := hD1.weaken (fun _ q _ h => hFc q.1 h)
              have hw : z100_1 = r100 := hw.symm
              subst hw
              generalize H1 = H at hP hS ⊢
              have hP : va_P (dC, dI) classes (wD cB cI o_Model r z100_2 z99_2) H := hP
              have hD : va_D A (wD cB cI o_Model r z100_2 z99_2) := hD
              obtain rfl := Option.some.inj h
              have hP9 := hP
              have hD9 := hD
              have hK9 := hK
              exact W.iret (v := z100_1) hx hb hr (fun t ht hW => ⟨⟨z100_1, (), rfl, rfl, by rw [ht]; exact hP9, va_K.moved hW.alike hK9, hD9⟩, hS.F ht⟩) hS.2.2 d_Model_instruction_642
            · rw [if_neg c97] at h
              refine lv_iconst (v := 4) hx hb d_Model_instruction_624 (by decide) ?_
              refine lv_goto (tgt := 639) hx hb d_Model_instruction_625 (by decide) ?_
              obtain ⟨⟨z101_1, z101_2⟩, hc101, h⟩ := dz_ob h
              try dsimp only at h
              have hPc := hP
              have hKc := hK
              have hDc := hD
              have hFc := dz_freeall hD hS hA
              refine va_calli (va_runV (As := [.int 3, .int 4]) (rest := []) ⟨hx, hb, hml, hown, hg⟩ (c_Model_next l dC dI N cB cI o_Model r I F (3 : Int32) (4 : Int32) H.size (z101_1, z101_2) hc101) (cwV 2 hg (gd_V k871 k872 k873 k707 k870) rfl rfl rfl (by decide +kernel) ⟨Nat.le_of_ble_eq_true rfl, Nat.le_of_ble_eq_true rfl⟩) ⟨dz_blind, va_recv hKc hPc (ci := 10) (q0 := 0) rfl rfl, fun U hU hW => ⟨rfl, dz_Nw hW hN, by rw [hU], by rw [hU]; exact hPc, va_K.moved hW.alike hKc, hDc.weaken (fun _ _ _ _ => trivial)⟩⟩ rfl rfl hl.1 rfl (lv_room (Nat.le_of_ble_eq_true rfl)) d_Model_instruction_639 ⟨Nat.le_of_ble_eq_true rfl, Nat.le_of_ble_eq_true rfl⟩) hS (fun q _ h => hFc q h) hFc (fun r101 u101 t101 H1 locs ht hvm hw hB hz1 hk1 hS => ?_)
              obtain ⟨hP1, hK1, hD1⟩ := hB
              rw [ht] at hP1
              have hP := hP1
              have hD := hD1.weaken (fun _ q _ h => hFc q.1 h)
              have hw : z101_1 = r101 := hw.symm
              subst hw
              generalize H1 = H at hP hS ⊢
              have hP : va_P (dC, dI) classes (wD cB cI o_Model r z101_2 F) H := hP
              have hD : va_D A (wD cB cI o_Model r z101_2 F) := hD
              obtain rfl := Option.some.inj h
              have hP9 := hP
              have hD9 := hD
              have hK9 := hK
              exact W.iret (v := z101_1) hx hb hr (fun t ht hW => ⟨⟨z101_1, (), rfl, rfl, by rw [ht]; exact hP9, va_K.moved hW.alike hK9, hD9⟩, hS.F ht⟩) hS.2.2 d_Model_instruction_642
      rw [if_neg s9_15] at h
      by_cases s9_16 : ((F 14) (I 35).toNatClampNeg) = 16
      · rw [if_pos s9_16] at h
        refine lv_tableIn (off := 592) (tgt := 643) hx hb d_Model_instruction_51 (by rw [s9_16]; decide) (by rw [s9_16]; decide) (by rw [s9_16]; decide) (by decide) ?_
        refine lv_aload_n hx hb d_Model_instruction_643 rfl (lv_at hl 3 rfl) ?_
        refine lv_iconst (v := 2) hx hb d_Model_instruction_644 (by decide) ?_
        refine lv_aload_n hx hb d_Model_instruction_645 rfl (lv_at hl 3 rfl) ?_
        refine lv_iload_n hx hb d_Model_instruction_646 rfl (lv_at hl 0 rfl) ?_
        obtain ⟨⟨z102_1, z102_2, z102_3⟩, hc102, h⟩ := dz_ob h
        try dsimp only at h
        have hPc := hP
        have hKc := hK
        have hDc := hD
        have hFc := dz_freeall hD hS hA
        refine va_calli (va_runV (As := [.int y1_0]) (rest := [.int 2, .ref o_Model]) ⟨hx, hb, hml, hown, hg⟩ (c_Model_patch l dC dI N cB cI o_Model r I F y1_0 H.size (z102_1, z102_2, z102_3) hc102) (cwV 1 hg (gd_V k1002 k1003 k1004 k707 k1001) rfl rfl rfl (by decide +kernel) ⟨Nat.le_of_ble_eq_true rfl, Nat.le_of_ble_eq_true rfl⟩) ⟨dz_blind, va_recv hKc hPc (ci := 10) (q0 := 0) rfl rfl, fun U hU hW => ⟨rfl, dz_Nw hW hN, by rw [hU], by rw [hU]; exact hPc, va_K.moved hW.alike hKc, hDc.weaken (fun _ _ _ _ => trivial)⟩⟩ rfl rfl hl.1 rfl (lv_room (Nat.le_of_ble_eq_true rfl)) d_Model_instruction_647 ⟨Nat.le_of_ble_eq_true rfl, Nat.le_of_ble_eq_true rfl⟩) hS (fun q _ h => hFc q h) hFc (fun r102 u102 t102 H1 locs ht hvm hw hB hz1 hk1 hS => ?_)
        obtain ⟨hP1, hK1, hD1⟩ := hB
        rw [ht] at hP1
        have hP := hP1
        have hD := hD1.weaken (fun _ q _ h => hFc q.1 h)
        have hw : z102_1 = r102 := hw.symm
        subst hw
        generalize H1 = H at hP hS ⊢
        have hP : va_P (dC, dI) classes (wD cB cI o_Model r z102_3 z102_2) H := hP
        have hD : va_D A (wD cB cI o_Model r z102_3 z102_2) := hD
        obtain ⟨⟨z103_1, z103_2⟩, hc103, h⟩ := dz_ob h
        try dsimp only at h
        have hPc := hP
        have hKc := hK
        have hDc := hD
        have hFc := dz_freeall hD hS hA
        refine va_calli (va_runV (As := [.int 2, .int z102_1]) (rest := []) ⟨hx, hb, hml, hown, hg⟩ (c_Model_next l dC dI N cB cI o_Model r z102_3 z102_2 (2 : Int32) z102_1 H.size (z103_1, z103_2) hc103) (cwV 2 hg (gd_V k871 k872 k873 k707 k870) rfl rfl rfl (by decide +kernel) ⟨Nat.le_of_ble_eq_true rfl, Nat.le_of_ble_eq_true rfl⟩) ⟨dz_blind, va_recv hKc hPc (ci := 10) (q0 := 0) rfl rfl, fun U hU hW => ⟨rfl, dz_Nw hW hN, by rw [hU], by rw [hU]; exact hPc, va_K.moved hW.alike hKc, hDc.weaken (fun _ _ _ _ => trivial)⟩⟩ rfl rfl hl.1 rfl (lv_room (Nat.le_of_ble_eq_true rfl)) d_Model_instruction_650 ⟨Nat.le_of_ble_eq_true rfl, Nat.le_of_ble_eq_true rfl⟩) hS (fun q _ h => hFc q h) hFc (fun r103 u103 t103 H1 locs ht hvm hw hB hz1 hk1 hS => ?_)
        obtain ⟨hP1, hK1, hD1⟩ := hB
        rw [ht] at hP1
        have hP := hP1
        have hD := hD1.weaken (fun _ q _ h => hFc q.1 h)
        have hw : z103_1 = r103 := hw.symm
        subst hw
        generalize H1 = H at hP hS ⊢
        have hP : va_P (dC, dI) classes (wD cB cI o_Model r z103_2 z102_2) H := hP
        have hD : va_D A (wD cB cI o_Model r z103_2 z102_2) := hD
        obtain rfl := Option.some.inj h
        have hP9 := hP
        have hD9 := hD
        have hK9 := hK
        exact W.iret (v := z103_1) hx hb hr (fun t ht hW => ⟨⟨z103_1, (), rfl, rfl, by rw [ht]; exact hP9, va_K.moved hW.alike hK9, hD9⟩, hS.F ht⟩) hS.2.2 d_Model_instruction_653
      rw [if_neg s9_16] at h
      by_cases s9_17 : ((F 14) (I 35).toNatClampNeg) = 17
      · rw [if_pos s9_17] at h
        refine lv_tableIn (off := 603) (tgt := 654) hx hb d_Model_instruction_51 (by rw [s9_17]; decide) (by rw [s9_17]; decide) (by rw [s9_17]; decide) (by decide) ?_
        refine lv_aload_n hx hb d_Model_instruction_654 rfl (lv_at hl 3 rfl) ?_
        obtain ⟨⟨z104_1, z104_2, z104_3⟩, hc104, h⟩ := dz_ob h
        try dsimp only at h
        have hPc := hP
        have hKc := hK
        have hDc := hD
        have hFc := dz_freeall hD hS hA
        refine va_calli (va_runV (As := []) (rest := []) ⟨hx, hb, hml, hown, hg⟩ (c_Model_call l dC dI N cB cI o_Model r I F H.size (z104_1, z104_2, z104_3) hc104) (cwV 0 hg (gd_V k1006 k1007 k1008 k707 k1005) rfl rfl rfl (by decide +kernel) ⟨Nat.le_of_ble_eq_true rfl, Nat.le_of_ble_eq_true rfl⟩) ⟨dz_blind, va_recv hKc hPc (ci := 10) (q0 := 0) rfl rfl, fun U hU hW => ⟨rfl, dz_Nw hW hN, by rw [hU], by rw [hU]; exact hPc, va_K.moved hW.alike hKc, hDc.weaken (fun _ _ _ _ => trivial)⟩⟩ rfl rfl hl.1 rfl (lv_room (Nat.le_of_ble_eq_true rfl)) d_Model_instruction_655 ⟨Nat.le_of_ble_eq_true rfl, Nat.le_of_ble_eq_true rfl⟩) hS (fun q _ h => hFc q h) hFc (fun r104 u104 t104 H1 locs ht hvm hw hB hz1 hk1 hS => ?_)
        obtain ⟨hP1, hK1, hD1⟩ := hB
        rw [ht] at hP1
        have hP := hP1
        have hD := hD1.weaken (fun _ q _ h => hFc q.1 h)
        have hw : z104_1 = r104 := hw.symm
        subst hw
        generalize H1 = H at hP hS ⊢
        have hP : va_P (dC, dI) classes (wD cB cI o_Model r z104_3 z104_2) H := hP
        have hD : va_D A (wD cB cI o_Model r z104_3 z104_2) := hD
        obtain rfl := Option.some.inj h
        have hP9 := hP
        have hD9 := hD
        have hK9 := hK
        exact W.iret (v := z104_1) hx hb hr (fun t ht hW => ⟨⟨z104_1, (), rfl, rfl, by rw [ht]; exact hP9, va_K.moved hW.alike hK9, hD9⟩, hS.F ht⟩) hS.2.2 d_Model_instruction_658
      rw [if_neg s9_17] at h
      by_cases s9_18 : ((F 14) (I 35).toNatClampNeg) = 18
      · rw [if_pos s9_18] at h
        refine lv_tableIn (off := 608) (tgt := 659) hx hb d_Model_instruction_51 (by rw [s9_18]; decide) (by rw [s9_18]; decide) (by rw [s9_18]; decide) (by decide) ?_
        refine lv_aload_n hx hb d_Model_instruction_659 rfl (lv_at hl 3 rfl) ?_
        obtain ⟨⟨z105_1, z105_2, z105_3⟩, hc105, h⟩ := dz_ob h
        try dsimp only at h
        have hPc := hP
        have hKc := hK
        have hDc := hD
        have hFc := dz_freeall hD hS hA
        refine va_calli (va_runV (As := []) (rest := []) ⟨hx, hb, hml, hown, hg⟩ (c_Model_tail l dC dI N cB cI o_Model r I F H.size (z105_1, z105_2, z105_3) hc105) (cwV 0 hg (gd_V k1010 k1011 k1012 k707 k1009) rfl rfl rfl (by decide +kernel) ⟨Nat.le_of_ble_eq_true rfl, Nat.le_of_ble_eq_true rfl⟩) ⟨dz_blind, va_recv hKc hPc (ci := 10) (q0 := 0) rfl rfl, fun U hU hW => ⟨rfl, dz_Nw hW hN, by rw [hU], by rw [hU]; exact hPc, va_K.moved hW.alike hKc, hDc.weaken (fun _ _ _ _ => trivial)⟩⟩ rfl rfl hl.1 rfl (lv_room (Nat.le_of_ble_eq_true rfl)) d_Model_instruction_660 ⟨Nat.le_of_ble_eq_true rfl, Nat.le_of_ble_eq_true rfl⟩) hS (fun q _ h => hFc q h) hFc (fun r105 u105 t105 H1 locs ht hvm hw hB hz1 hk1 hS => ?_)
        obtain ⟨hP1, hK1, hD1⟩ := hB
        rw [ht] at hP1
        have hP := hP1
        have hD := hD1.weaken (fun _ q _ h => hFc q.1 h)
        have hw : z105_1 = r105 := hw.symm
        subst hw
        generalize H1 = H at hP hS ⊢
        have hP : va_P (dC, dI) classes (wD cB cI o_Model r z105_3 z105_2) H := hP
        have hD : va_D A (wD cB cI o_Model r z105_3 z105_2) := hD
        obtain rfl := Option.some.inj h
        have hP9 := hP
        have hD9 := hD
        have hK9 := hK
        exact W.iret (v := z105_1) hx hb hr (fun t ht hW => ⟨⟨z105_1, (), rfl, rfl, by rw [ht]; exact hP9, va_K.moved hW.alike hK9, hD9⟩, hS.F ht⟩) hS.2.2 d_Model_instruction_663
      rw [if_neg s9_18] at h
      by_cases s9_19 : ((F 14) (I 35).toNatClampNeg) = 19
      · rw [if_pos s9_19] at h
        refine lv_tableIn (off := 613) (tgt := 664) hx hb d_Model_instruction_51 (by rw [s9_19]; decide) (by rw [s9_19]; decide) (by rw [s9_19]; decide) (by decide) ?_
        refine lv_aload_n hx hb d_Model_instruction_664 rfl (lv_at hl 3 rfl) ?_
        obtain ⟨⟨z106_1, z106_2, z106_3⟩, hc106, h⟩ := dz_ob h
        try dsimp only at h
        have hPc := hP
        have hKc := hK
        have hDc := hD
        have hFc := dz_freeall hD hS hA
        refine va_calli (va_runV (As := []) (rest := []) ⟨hx, hb, hml, hown, hg⟩ (c_Model_back l dC dI N cB cI o_Model r I F H.size (z106_1, z106_2, z106_3) hc106) (cwV 0 hg (gd_V k1014 k1015 k1016 k707 k1013) rfl rfl rfl (by decide +kernel) ⟨Nat.le_of_ble_eq_true rfl, Nat.le_of_ble_eq_true rfl⟩) ⟨dz_blind, va_recv hKc hPc (ci := 10) (q0 := 0) rfl rfl, fun U hU hW => ⟨rfl, dz_Nw hW hN, by rw [hU], by rw [hU]; exact hPc, va_K.moved hW.alike hKc, hDc.weaken (fun _ _ _ _ => trivial)⟩⟩ rfl rfl hl.1 rfl (lv_room (Nat.le_of_ble_eq_true rfl)) d_Model_instruction_665 ⟨Nat.le_of_ble_eq_true rfl, Nat.le_of_ble_eq_true rfl⟩) hS (fun q _ h => hFc q h) hFc (fun r106 u106 t106 H1 locs ht hvm hw hB hz1 hk1 hS => ?_)
        obtain ⟨hP1, hK1, hD1⟩ := hB
        rw [ht] at hP1
        have hP := hP1
        have hD := hD1.weaken (fun _ q _ h => hFc q.1 h)
        have hw : z106_1 = r106 := hw.symm
        subst hw
        generalize H1 = H at hP hS ⊢
        have hP : va_P (dC, dI) classes (wD cB cI o_Model r z106_3 z106_2) H := hP
        have hD : va_D A (wD cB cI o_Model r z106_3 z106_2) := hD
        obtain rfl := Option.some.inj h
        have hP9 := hP
        have hD9 := hD
        have hK9 := hK
        exact W.iret (v := z106_1) hx hb hr (fun t ht hW => ⟨⟨z106_1, (), rfl, rfl, by rw [ht]; exact hP9, va_K.moved hW.alike hK9, hD9⟩, hS.F ht⟩) hS.2.2 d_Model_instruction_668
      rw [if_neg s9_19] at h
      by_cases s9_20 : ((F 14) (I 35).toNatClampNeg) = 20
      · rw [if_pos s9_20] at h
        refine lv_tableIn (off := 618) (tgt := 669) hx hb d_Model_instruction_51 (by rw [s9_20]; decide) (by rw [s9_20]; decide) (by rw [s9_20]; decide) (by decide) ?_
        refine lv_aload_n hx hb d_Model_instruction_669 rfl (lv_at hl 3 rfl) ?_
        refine lv_iload_n hx hb d_Model_instruction_670 rfl (lv_at hl 0 rfl) ?_
        refine va_put (D := (dC, dI)) (ci := 10) (v := .int y1_0) (ty := .int) (C := R_Model) (T := F_Model) (N := 54) hx hb hg i_Model t_Model t_Model_ok n_Model hown hK hP hD hS 0 rfl rfl 35 (by decide) (hg _ k721) (fun _ h9 => h9) rfl (by decide +kernel) rfl rfl (Nat.le_of_ble_eq_true rfl) d_Model_instruction_671 (fun H locs hP hD hS => ?_)
        obtain ⟨J107, eJ107, h⟩ := dz_lt h
        have hP : va_P (dC, dI) classes (wD cB cI o_Model r J107 F) H := by rw [eJ107]; exact hP
        have hD : va_D A (wD cB cI o_Model r J107 F) := by rw [eJ107]; exact hD
        refine lv_iconst (v := 5) hx hb d_Model_instruction_674 (by decide) ?_
        obtain rfl := Option.some.inj h
        have hP9 := hP
        have hD9 := hD
        have hK9 := hK
        exact W.iret (v := 5) hx hb hr (fun t ht hW => ⟨⟨5, (), rfl, rfl, by rw [ht]; exact hP9, va_K.moved hW.alike hK9, hD9⟩, hS.F ht⟩) hS.2.2 d_Model_instruction_675
      rw [if_neg s9_20] at h
      by_cases s9_21 : ((F 14) (I 35).toNatClampNeg) = 21
      · rw [if_pos s9_21] at h
        refine lv_tableIn (off := 625) (tgt := 676) hx hb d_Model_instruction_51 (by rw [s9_21]; decide) (by rw [s9_21]; decide) (by rw [s9_21]; decide) (by decide) ?_
        refine lv_aload_n hx hb d_Model_instruction_676 rfl (lv_at hl 3 rfl) ?_
        refine lv_iload_n hx hb d_Model_instruction_677 rfl (lv_at hl 2 rfl) ?_
        refine lv_iload_n hx hb d_Model_instruction_678 rfl (lv_at hl 0 rfl) ?_
        obtain ⟨⟨z108_1, z108_2⟩, hc108, h⟩ := dz_ob h
        try dsimp only at h
        have hPc := hP
        have hKc := hK
        have hDc := hD
        have hFc := dz_freeall hD hS hA
        refine va_calli (va_runV (As := [.int z1_1, .int y1_0]) (rest := []) ⟨hx, hb, hml, hown, hg⟩ (c_Model_branch l dC dI N cB cI o_Model r I F z1_1 y1_0 H.size (z108_1, z108_2) hc108) (cwV 2 hg (gd_V k1018 k1019 k1020 k707 k1017) rfl rfl rfl (by decide +kernel) ⟨Nat.le_of_ble_eq_true rfl, Nat.le_of_ble_eq_true rfl⟩) ⟨dz_blind, va_recv hKc hPc (ci := 10) (q0 := 0) rfl rfl, fun U hU hW => ⟨rfl, dz_Nw hW hN, by rw [hU], by rw [hU]; exact hPc, va_K.moved hW.alike hKc, hDc.weaken (fun _ _ _ _ => trivial)⟩⟩ rfl rfl hl.1 rfl (lv_room (Nat.le_of_ble_eq_true rfl)) d_Model_instruction_679 ⟨Nat.le_of_ble_eq_true rfl, Nat.le_of_ble_eq_true rfl⟩) hS (fun q _ h => hFc q h) hFc (fun r108 u108 t108 H1 locs ht hvm hw hB hz1 hk1 hS => ?_)
        obtain ⟨hP1, hK1, hD1⟩ := hB
        rw [ht] at hP1
        have hP := hP1
        have hD := hD1.weaken (fun _ q _ h => hFc q.1 h)
        have hw : z108_1 = r108 := hw.symm
        subst hw
        generalize H1 = H at hP hS ⊢
        have hP : va_P (dC, dI) classes (wD cB cI o_Model r z108_2 F) H := hP
        have hD : va_D A (wD cB cI o_Model r z108_2 F) := hD
        obtain rfl := Option.some.inj h
        have hP9 := hP
        have hD9 := hD
        have hK9 := hK
        exact W.iret (v := z108_1) hx hb hr (fun t ht hW => ⟨⟨z108_1, (), rfl, rfl, by rw [ht]; exact hP9, va_K.moved hW.alike hK9, hD9⟩, hS.F ht⟩) hS.2.2 d_Model_instruction_682
      rw [if_neg s9_21] at h
      by_cases s9_22 : ((F 14) (I 35).toNatClampNeg) = 22
      · rw [if_pos s9_22] at h
        refine lv_tableIn (off := 632) (tgt := 683) hx hb d_Model_instruction_51 (by rw [s9_22]; decide) (by rw [s9_22]; decide) (by rw [s9_22]; decide) (by decide) ?_
        refine lv_aload_n hx hb d_Model_instruction_683 rfl (lv_at hl 3 rfl) ?_
        refine lv_iload_n hx hb d_Model_instruction_684 rfl (lv_at hl 2 rfl) ?_
        refine lv_iload_n hx hb d_Model_instruction_685 rfl (lv_at hl 0 rfl) ?_
        obtain ⟨⟨z109_1, z109_2⟩, hc109, h⟩ := dz_ob h
        try dsimp only at h
        have hPc := hP
        have hKc := hK
        have hDc := hD
        have hFc := dz_freeall hD hS hA
        refine va_calli (va_runV (As := [.int z1_1, .int y1_0]) (rest := []) ⟨hx, hb, hml, hown, hg⟩ (c_Model_branch l dC dI N cB cI o_Model r I F z1_1 y1_0 H.size (z109_1, z109_2) hc109) (cwV 2 hg (gd_V k1018 k1019 k1020 k707 k1017) rfl rfl rfl (by decide +kernel) ⟨Nat.le_of_ble_eq_true rfl, Nat.le_of_ble_eq_true rfl⟩) ⟨dz_blind, va_recv hKc hPc (ci := 10) (q0 := 0) rfl rfl, fun U hU hW => ⟨rfl, dz_Nw hW hN, by rw [hU], by rw [hU]; exact hPc, va_K.moved hW.alike hKc, hDc.weaken (fun _ _ _ _ => trivial)⟩⟩ rfl rfl hl.1 rfl (lv_room (Nat.le_of_ble_eq_true rfl)) d_Model_instruction_686 ⟨Nat.le_of_ble_eq_true rfl, Nat.le_of_ble_eq_true rfl⟩) hS (fun q _ h => hFc q h) hFc (fun r109 u109 t109 H1 locs ht hvm hw hB hz1 hk1 hS => ?_)
        obtain ⟨hP1, hK1, hD1⟩ := hB
        rw [ht] at hP1
        have hP := hP1
        have hD := hD1.weaken (fun _ q _ h => hFc q.1 h)
        have hw : z109_1 = r109 := hw.symm
        subst hw
        generalize H1 = H at hP hS ⊢
        have hP : va_P (dC, dI) classes (wD cB cI o_Model r z109_2 F) H := hP
        have hD : va_D A (wD cB cI o_Model r z109_2 F) := hD
        obtain rfl := Option.some.inj h
        have hP9 := hP
        have hD9 := hD
        have hK9 := hK
        exact W.iret (v := z109_1) hx hb hr (fun t ht hW => ⟨⟨z109_1, (), rfl, rfl, by rw [ht]; exact hP9, va_K.moved hW.alike hK9, hD9⟩, hS.F ht⟩) hS.2.2 d_Model_instruction_689
      rw [if_neg s9_22] at h
      by_cases s9_23 : ((F 14) (I 35).toNatClampNeg) = 23
      · rw [if_pos s9_23] at h
        refine lv_tableIn (off := 639) (tgt := 690) hx hb d_Model_instruction_51 (by rw [s9_23]; decide) (by rw [s9_23]; decide) (by rw [s9_23]; decide) (by decide) ?_
        refine lv_aload_n hx hb d_Model_instruction_690 rfl (lv_at hl 3 rfl) ?_
        refine lv_iconst (v := 1) hx hb d_Model_instruction_691 (by decide) ?_
        refine lv_aload_n hx hb d_Model_instruction_692 rfl (lv_at hl 3 rfl) ?_
        refine lv_iconst (v := 5) hx hb d_Model_instruction_693 (by decide) ?_
        refine lv_iconst (v := 1) hx hb d_Model_instruction_694 (by decide) ?_
        refine lv_iconst (v := 0) hx hb d_Model_instruction_695 (by decide) ?_
        obtain ⟨⟨z110_1, z110_2, z110_3⟩, hc110, h⟩ := dz_ob h
        try dsimp only at h
        have hPc := hP
        have hKc := hK
        have hDc := hD
        have hFc := dz_freeall hD hS hA
        refine va_calli (va_runV (As := [.int 5, .int 1, .int 0]) (rest := [.int 1, .ref o_Model]) ⟨hx, hb, hml, hown, hg⟩ (c_Model_gather l dC dI N cB cI o_Model r I F (5 : Int32) (1 : Int32) (0 : Int32) H.size (z110_1, z110_2, z110_3) hc110) (cwV 3 hg (gd_V k994 k995 k996 k707 k993) rfl rfl rfl (by decide +kernel) ⟨Nat.le_of_ble_eq_true rfl, Nat.le_of_ble_eq_true rfl⟩) ⟨dz_blind, va_recv hKc hPc (ci := 10) (q0 := 0) rfl rfl, fun U hU hW => ⟨rfl, dz_Nw hW hN, by rw [hU], by rw [hU]; exact hPc, va_K.moved hW.alike hKc, hDc.weaken (fun _ _ _ _ => trivial)⟩⟩ rfl rfl hl.1 rfl (lv_room (Nat.le_of_ble_eq_true rfl)) d_Model_instruction_696 ⟨Nat.le_of_ble_eq_true rfl, Nat.le_of_ble_eq_true rfl⟩) hS (fun q _ h => hFc q h) hFc (fun r110 u110 t110 H1 locs ht hvm hw hB hz1 hk1 hS => ?_)
        obtain ⟨hP1, hK1, hD1⟩ := hB
        rw [ht] at hP1
        have hP := hP1
        have hD := hD1.weaken (fun _ q _ h => hFc q.1 h)
        have hw : z110_1 = r110 := hw.symm
        subst hw
        generalize H1 = H at hP hS ⊢
        have hP : va_P (dC, dI) classes (wD cB cI o_Model r z110_3 z110_2) H := hP
        have hD : va_D A (wD cB cI o_Model r z110_3 z110_2) := hD
        obtain ⟨⟨z111_1, z111_2⟩, hc111, h⟩ := dz_ob h
        try dsimp only at h
        have hPc := hP
        have hKc := hK
        have hDc := hD
        have hFc := dz_freeall hD hS hA
        refine va_calli (va_runV (As := [.int 1, .int z110_1]) (rest := []) ⟨hx, hb, hml, hown, hg⟩ (c_Model_next l dC dI N cB cI o_Model r z110_3 z110_2 (1 : Int32) z110_1 H.size (z111_1, z111_2) hc111) (cwV 2 hg (gd_V k871 k872 k873 k707 k870) rfl rfl rfl (by decide +kernel) ⟨Nat.le_of_ble_eq_true rfl, Nat.le_of_ble_eq_true rfl⟩) ⟨dz_blind, va_recv hKc hPc (ci := 10) (q0 := 0) rfl rfl, fun U hU hW => ⟨rfl, dz_Nw hW hN, by rw [hU], by rw [hU]; exact hPc, va_K.moved hW.alike hKc, hDc.weaken (fun _ _ _ _ => trivial)⟩⟩ rfl rfl hl.1 rfl (lv_room (Nat.le_of_ble_eq_true rfl)) d_Model_instruction_699 ⟨Nat.le_of_ble_eq_true rfl, Nat.le_of_ble_eq_true rfl⟩) hS (fun q _ h => hFc q h) hFc (fun r111 u111 t111 H1 locs ht hvm hw hB hz1 hk1 hS => ?_)
        obtain ⟨hP1, hK1, hD1⟩ := hB
        rw [ht] at hP1
        have hP := hP1
        have hD := hD1.weaken (fun _ q _ h => hFc q.1 h)
        have hw : z111_1 = r111 := hw.symm
        subst hw
        generalize H1 = H at hP hS ⊢
        have hP : va_P (dC, dI) classes (wD cB cI o_Model r z111_2 z110_2) H := hP
        have hD : va_D A (wD cB cI o_Model r z111_2 z110_2) := hD
        obtain rfl := Option.some.inj h
        have hP9 := hP
        have hD9 := hD
        have hK9 := hK
        exact W.iret (v := z111_1) hx hb hr (fun t ht hW => ⟨⟨z111_1, (), rfl, rfl, by rw [ht]; exact hP9, va_K.moved hW.alike hK9, hD9⟩, hS.F ht⟩) hS.2.2 d_Model_instruction_702
      rw [if_neg s9_23] at h
      by_cases s9_24 : ((F 14) (I 35).toNatClampNeg) = 24
      · rw [if_pos s9_24] at h
        refine lv_tableIn (off := 652) (tgt := 703) hx hb d_Model_instruction_51 (by rw [s9_24]; decide) (by rw [s9_24]; decide) (by rw [s9_24]; decide) (by decide) ?_
        refine lv_aload_n hx hb d_Model_instruction_703 rfl (lv_at hl 3 rfl) ?_
        refine lv_iconst (v := 1) hx hb d_Model_instruction_704 (by decide) ?_
        refine lv_aload_n hx hb d_Model_instruction_705 rfl (lv_at hl 3 rfl) ?_
        refine lv_iconst (v := 1) hx hb d_Model_instruction_706 (by decide) ?_
        refine lv_iconst (v := 5) hx hb d_Model_instruction_707 (by decide) ?_
        obtain ⟨z112_1, hc112, h⟩ := dz_ob h
        try dsimp only at h
        have hPc := hP
        have hKc := hK
        refine vp_callSi (va_Run.run (va_runV (As := [.int 1, .int 5]) (rest := [.int 1, .ref o_Model]) ⟨hx, hb, hml, hown, hg⟩ (c_Model_is l dC dI N cB cI o_Model r I F (1 : Int32) (5 : Int32) z112_1 hc112) (cwV 2 hg (gd_V k808 k809 k810 k707 k807) rfl rfl rfl (by decide +kernel) ⟨Nat.le_of_ble_eq_true rfl, Nat.le_of_ble_eq_true rfl⟩) ⟨dz_blindR, va_recv hKc hPc (ci := 10) (q0 := 0) rfl rfl, fun U hU hW => ⟨rfl, dz_Nw hW hN, by rw [hU]; exact hPc, va_K.moved hW.alike hKc⟩⟩ rfl rfl hl.1 rfl (lv_room (Nat.le_of_ble_eq_true rfl)) d_Model_instruction_708 ⟨Nat.le_of_ble_eq_true rfl, Nat.le_of_ble_eq_true rfl⟩)) (fun r112 hw => ?_)
        obtain ⟨hw, hbz112⟩ := hw
        have hw : z112_1 = r112 := hw.symm
        subst hw
        refine lv_if_eq (tgt := 722) hx hb d_Model_instruction_711 (by decide) (fun c113 => ?_) (fun c113 => ?_)
        · rw [if_pos c113] at h
          refine lv_iconst (v := 4) hx hb d_Model_instruction_722 (by decide) ?_
          obtain ⟨⟨z114_1, z114_2⟩, hc114, h⟩ := dz_ob h
          try dsimp only at h
          have hPc := hP
          have hKc := hK
          have hDc := hD
          have hFc := dz_freeall hD hS hA
          refine va_calli (va_runV (As := [.int 1, .int 4]) (rest := []) ⟨hx, hb, hml, hown, hg⟩ (c_Model_next l dC dI N cB cI o_Model r I F (1 : Int32) (4 : Int32) H.size (z114_1, z114_2) hc114) (cwV 2 hg (gd_V k871 k872 k873 k707 k870) rfl rfl rfl (by decide +kernel) ⟨Nat.le_of_ble_eq_true rfl, Nat.le_of_ble_eq_true rfl⟩) ⟨dz_blind, va_recv hKc hPc (ci := 10) (q0 := 0) rfl rfl, fun U hU hW => ⟨rfl, dz_Nw hW hN, by rw [hU], by rw [hU]; exact hPc, va_K.moved hW.alike hKc, hDc.weaken (fun _ _ _ _ => trivial)⟩⟩ rfl rfl hl.1 rfl (lv_room (Nat.le_of_ble_eq_true rfl)) d_Model_instruction_723 ⟨Nat.le_of_ble_eq_true rfl, Nat.le_of_ble_eq_true rfl⟩) hS (fun q _ h => hFc q h) hFc (fun r114 u114 t114 H1 locs ht hvm hw hB hz1 hk1 hS => ?_)
          obtain ⟨hP1, hK1, hD1⟩ := hB
          rw [ht] at hP1
          have hP := hP1
          have hD := hD1.weaken (fun _ q _ h => hFc q.1 h)
          have hw : z114_1 = r114 := hw.symm
          subst hw
          generalize H1 = H at hP hS ⊢
          have hP : va_P (dC, dI) classes (wD cB cI o_Model r z114_2 F) H := hP
          have hD : va_D A (wD cB cI o_Model r z114_2 F) := hD
          obtain rfl := Option.some.inj h
          have hP9 := hP
          have hD9 := hD
          have hK9 := hK
          exact W.iret (v := z114_1) hx hb hr (fun t ht hW => ⟨⟨z114_1, (), rfl, rfl, by rw [ht]; exact hP9, va_K.moved hW.alike hK9, hD9⟩, hS.F ht⟩) hS.2.2 d_Model_instruction_726
        · rw [if_neg c113] at h
          refine lv_aload_n hx hb d_Model_instruction_714 rfl (lv_at hl 3 rfl) ?_
          refine lv_iconst (v := 0) hx hb d_Model_instruction_715 (by decide) ?_
          obtain ⟨⟨z115_1, z115_2, z115_3⟩, hc115, h⟩ := dz_ob h
          try dsimp only at h
          have hPc := hP
          have hKc := hK
          have hDc := hD
          have hFc := dz_freeall hD hS hA
          refine va_calli (va_runV (As := [.int 0]) (rest := [.int 1, .ref o_Model]) ⟨hx, hb, hml, hown, hg⟩ (c_Model_part l dC dI N cB cI o_Model r I F (0 : Int32) H.size (z115_1, z115_2, z115_3) hc115) (cwV 1 hg (gd_V k998 k999 k1000 k707 k997) rfl rfl rfl (by decide +kernel) ⟨Nat.le_of_ble_eq_true rfl, Nat.le_of_ble_eq_true rfl⟩) ⟨dz_blind, va_recv hKc hPc (ci := 10) (q0 := 0) rfl rfl, fun U hU hW => ⟨rfl, dz_Nw hW hN, by rw [hU], by rw [hU]; exact hPc, va_K.moved hW.alike hKc, hDc.weaken (fun _ _ _ _ => trivial)⟩⟩ rfl rfl hl.1 rfl (lv_room (Nat.le_of_ble_eq_true rfl)) d_Model_instruction_716 ⟨Nat.le_of_ble_eq_true rfl, Nat.le_of_ble_eq_true rfl⟩) hS (fun q _ h => hFc q h) hFc (fun r115 u115 t115 H1 locs ht hvm hw hB hz1 hk1 hS => ?_)
          obtain ⟨hP1, hK1, hD1⟩ := hB
          rw [ht] at hP1
          have hP := hP1
          have hD := hD1.weaken (fun _ q _ h => hFc q.1 h)
          have hw : z115_1 = r115 := hw.symm
          subst hw
          generalize H1 = H at hP hS ⊢
          have hP : va_P (dC, dI) classes (wD cB cI o_Model r z115_3 z115_2) H := hP
          have hD : va_D A (wD cB cI o_Model r z115_3 z115_2) := hD
          refine lv_goto (tgt := 723) hx hb d_Model_instruction_719 (by decide) ?_
          obtain ⟨⟨z116_1, z116_2⟩, hc116, h⟩ := dz_ob h
          try dsimp only at h
          have hPc := hP
          have hKc := hK
          have hDc := hD
          have hFc := dz_freeall hD hS hA
          refine va_calli (va_runV (As := [.int 1, .int z115_1]) (rest := []) ⟨hx, hb, hml, hown, hg⟩ (c_Model_next l dC dI N cB cI o_Model r z115_3 z115_2 (1 : Int32) z115_1 H.size (z116_1, z116_2) hc116) (cwV 2 hg (gd_V k871 k872 k873 k707 k870) rfl rfl rfl (by decide +kernel) ⟨Nat.le_of_ble_eq_true rfl, Nat.le_of_ble_eq_true rfl⟩) ⟨dz_blind, va_recv hKc hPc (ci := 10) (q0 := 0) rfl rfl, fun U hU hW => ⟨rfl, dz_Nw hW hN, by rw [hU], by rw [hU]; exact hPc, va_K.moved hW.alike hKc, hDc.weaken (fun _ _ _ _ => trivial)⟩⟩ rfl rfl hl.1 rfl (lv_room (Nat.le_of_ble_eq_true rfl)) d_Model_instruction_723 ⟨Nat.le_of_ble_eq_true rfl, Nat.le_of_ble_eq_true rfl⟩) hS (fun q _ h => hFc q h) hFc (fun r116 u116 t116 H1 locs ht hvm hw hB hz1 hk1 hS => ?_)
          obtain ⟨hP1, hK1, hD1⟩ := hB
          rw [ht] at hP1
          have hP := hP1
          have hD := hD1.weaken (fun _ q _ h => hFc q.1 h)
          have hw : z116_1 = r116 := hw.symm
          subst hw
          generalize H1 = H at hP hS ⊢
          have hP : va_P (dC, dI) classes (wD cB cI o_Model r z116_2 z115_2) H := hP
          have hD : va_D A (wD cB cI o_Model r z116_2 z115_2) := hD
          obtain rfl := Option.some.inj h
          have hP9 := hP
          have hD9 := hD
          have hK9 := hK
          exact W.iret (v := z116_1) hx hb hr (fun t ht hW => ⟨⟨z116_1, (), rfl, rfl, by rw [ht]; exact hP9, va_K.moved hW.alike hK9, hD9⟩, hS.F ht⟩) hS.2.2 d_Model_instruction_726
      rw [if_neg s9_24] at h
      by_cases s9_25 : ((F 14) (I 35).toNatClampNeg) = 25
      · rw [if_pos s9_25] at h
        refine lv_tableIn (off := 676) (tgt := 727) hx hb d_Model_instruction_51 (by rw [s9_25]; decide) (by rw [s9_25]; decide) (by rw [s9_25]; decide) (by decide) ?_
        refine lv_aload_n hx hb d_Model_instruction_727 rfl (lv_at hl 3 rfl) ?_
        refine lv_iconst (v := 1) hx hb d_Model_instruction_728 (by decide) ?_
        refine lv_aload_n hx hb d_Model_instruction_729 rfl (lv_at hl 3 rfl) ?_
        obtain ⟨⟨z117_1, z117_2, z117_3⟩, hc117, h⟩ := dz_ob h
        try dsimp only at h
        have hPc := hP
        have hKc := hK
        have hDc := hD
        have hFc := dz_freeall hD hS hA
        refine va_calli (va_runV (As := []) (rest := [.int 1, .ref o_Model]) ⟨hx, hb, hml, hown, hg⟩ (c_Model_assign l dC dI N cB cI o_Model r I F H.size (z117_1, z117_2, z117_3) hc117) (cwV 0 hg (gd_V k1022 k1023 k1024 k707 k1021) rfl rfl rfl (by decide +kernel) ⟨Nat.le_of_ble_eq_true rfl, Nat.le_of_ble_eq_true rfl⟩) ⟨dz_blind, va_recv hKc hPc (ci := 10) (q0 := 0) rfl rfl, fun U hU hW => ⟨rfl, dz_Nw hW hN, by rw [hU], by rw [hU]; exact hPc, va_K.moved hW.alike hKc, hDc.weaken (fun _ _ _ _ => trivial)⟩⟩ rfl rfl hl.1 rfl (lv_room (Nat.le_of_ble_eq_true rfl)) d_Model_instruction_730 ⟨Nat.le_of_ble_eq_true rfl, Nat.le_of_ble_eq_true rfl⟩) hS (fun q _ h => hFc q h) hFc (fun r117 u117 t117 H1 locs ht hvm hw hB hz1 hk1 hS => ?_)
        obtain ⟨hP1, hK1, hD1⟩ := hB
        rw [ht] at hP1
        have hP := hP1
        have hD := hD1.weaken (fun _ q _ h => hFc q.1 h)
        have hw : z117_1 = r117 := hw.symm
        subst hw
        generalize H1 = H at hP hS ⊢
        have hP : va_P (dC, dI) classes (wD cB cI o_Model r z117_3 z117_2) H := hP
        have hD : va_D A (wD cB cI o_Model r z117_3 z117_2) := hD
        obtain ⟨⟨z118_1, z118_2⟩, hc118, h⟩ := dz_ob h
        try dsimp only at h
        have hPc := hP
        have hKc := hK
        have hDc := hD
        have hFc := dz_freeall hD hS hA
        refine va_calli (va_runV (As := [.int 1, .int z117_1]) (rest := []) ⟨hx, hb, hml, hown, hg⟩ (c_Model_next l dC dI N cB cI o_Model r z117_3 z117_2 (1 : Int32) z117_1 H.size (z118_1, z118_2) hc118) (cwV 2 hg (gd_V k871 k872 k873 k707 k870) rfl rfl rfl (by decide +kernel) ⟨Nat.le_of_ble_eq_true rfl, Nat.le_of_ble_eq_true rfl⟩) ⟨dz_blind, va_recv hKc hPc (ci := 10) (q0 := 0) rfl rfl, fun U hU hW => ⟨rfl, dz_Nw hW hN, by rw [hU], by rw [hU]; exact hPc, va_K.moved hW.alike hKc, hDc.weaken (fun _ _ _ _ => trivial)⟩⟩ rfl rfl hl.1 rfl (lv_room (Nat.le_of_ble_eq_true rfl)) d_Model_instruction_733 ⟨Nat.le_of_ble_eq_true rfl, Nat.le_of_ble_eq_true rfl⟩) hS (fun q _ h => hFc q h) hFc (fun r118 u118 t118 H1 locs ht hvm hw hB hz1 hk1 hS => ?_)
        obtain ⟨hP1, hK1, hD1⟩ := hB
        rw [ht] at hP1
        have hP := hP1
        have hD := hD1.weaken (fun _ q _ h => hFc q.1 h)
        have hw : z118_1 = r118 := hw.symm
        subst hw
        generalize H1 = H at hP hS ⊢
        have hP : va_P (dC, dI) classes (wD cB cI o_Model r z118_2 z117_2) H := hP
        have hD : va_D A (wD cB cI o_Model r z118_2 z117_2) := hD
        obtain rfl := Option.some.inj h
        have hP9 := hP
        have hD9 := hD
        have hK9 := hK
        exact W.iret (v := z118_1) hx hb hr (fun t ht hW => ⟨⟨z118_1, (), rfl, rfl, by rw [ht]; exact hP9, va_K.moved hW.alike hK9, hD9⟩, hS.F ht⟩) hS.2.2 d_Model_instruction_736
      rw [if_neg s9_25] at h
      refine lv_tableOut (tgt := 737) hx hb d_Model_instruction_51 (by have q0 := lv_neT s9_0 (a := 0) (by decide); have q1 := lv_neT s9_1 (a := 1) (by decide); have q2 := lv_neT s9_2 (a := 2) (by decide); have q3 := lv_neT s9_3 (a := 3) (by decide); have q4 := lv_neT s9_4 (a := 4) (by decide); have q5 := lv_neT s9_5 (a := 5) (by decide); have q6 := lv_neT s9_6 (a := 6) (by decide); have q7 := lv_neT s9_7 (a := 7) (by decide); have q8 := lv_neT s9_8 (a := 8) (by decide); have q9 := lv_neT s9_9 (a := 9) (by decide); have q10 := lv_neT s9_10 (a := 10) (by decide); have q11 := lv_neT s9_11 (a := 11) (by decide); have q12 := lv_neT s9_12 (a := 12) (by decide); have q13 := lv_neT s9_13 (a := 13) (by decide); have q14 := lv_neT s9_14 (a := 14) (by decide); have q15 := lv_neT s9_15 (a := 15) (by decide); have q16 := lv_neT s9_16 (a := 16) (by decide); have q17 := lv_neT s9_17 (a := 17) (by decide); have q18 := lv_neT s9_18 (a := 18) (by decide); have q19 := lv_neT s9_19 (a := 19) (by decide); have q20 := lv_neT s9_20 (a := 20) (by decide); have q21 := lv_neT s9_21 (a := 21) (by decide); have q22 := lv_neT s9_22 (a := 22) (by decide); have q23 := lv_neT s9_23 (a := 23) (by decide); have q24 := lv_neT s9_24 (a := 24) (by decide); have q25 := lv_neT s9_25 (a := 25) (by decide); omega) (by decide) ?_
      refine lv_aload_n hx hb d_Model_instruction_737 rfl (lv_at hl 3 rfl) ?_
      refine lv_iload_n hx hb d_Model_instruction_738 rfl (lv_at hl 2 rfl) ?_
      refine lv_iload_n hx hb d_Model_instruction_739 rfl (lv_at hl 1 rfl) ?_
      refine lv_iload_n hx hb d_Model_instruction_740 rfl (lv_at hl 0 rfl) ?_
      obtain ⟨⟨z119_1, z119_2, z119_3⟩, hc119, h⟩ := dz_ob h
      try dsimp only at h
      have hPc := hP
      have hKc := hK
      have hDc := hD
      have hFc := dz_freeall hD hS hA
      refine va_calli (va_runV (As := [.int z1_1, .int ((F 14) (I 35).toNatClampNeg), .int y1_0]) (rest := []) ⟨hx, hb, hml, hown, hg⟩ (c_Model_others l dC dI N cB cI o_Model r I F z1_1 ((F 14) (I 35).toNatClampNeg) y1_0 H.size (z119_1, z119_2, z119_3) hc119) (cwV 3 hg (gd_V k1026 k1027 k1028 k707 k1025) rfl rfl rfl (by decide +kernel) ⟨Nat.le_of_ble_eq_true rfl, Nat.le_of_ble_eq_true rfl⟩) ⟨dz_blind, va_recv hKc hPc (ci := 10) (q0 := 0) rfl rfl, fun U hU hW => ⟨rfl, dz_Nw hW hN, by rw [hU], by rw [hU]; exact hPc, va_K.moved hW.alike hKc, hDc.weaken (fun _ _ _ _ => trivial)⟩⟩ rfl rfl hl.1 rfl (lv_room (Nat.le_of_ble_eq_true rfl)) d_Model_instruction_741 ⟨Nat.le_of_ble_eq_true rfl, Nat.le_of_ble_eq_true rfl⟩) hS (fun q _ h => hFc q h) hFc (fun r119 u119 t119 H1 locs ht hvm hw hB hz1 hk1 hS => ?_)
      obtain ⟨hP1, hK1, hD1⟩ := hB
      rw [ht] at hP1
      have hP := hP1
      have hD := hD1.weaken (fun _ q _ h => hFc q.1 h)
      have hw : z119_1 = r119 := hw.symm
      subst hw
      generalize H1 = H at hP hS ⊢
      have hP : va_P (dC, dI) classes (wD cB cI o_Model r z119_3 z119_2) H := hP
      have hD : va_D A (wD cB cI o_Model r z119_3 z119_2) := hD
      obtain rfl := Option.some.inj h
      have hP9 := hP
      have hD9 := hD
      have hK9 := hK
      exact W.iret (v := z119_1) hx hb hr (fun t ht hW => ⟨⟨z119_1, (), rfl, rfl, by rw [ht]; exact hP9, va_K.moved hW.alike hK9, hD9⟩, hS.F ht⟩) hS.2.2 d_Model_instruction_744
    · rw [if_neg c8] at h
      refine lv_iconst (v := 4) hx hb d_Model_instruction_48 (by decide) ?_
      obtain rfl := Option.some.inj h
      have hP9 := hP
      have hD9 := hD
      have hK9 := hK
      exact W.iret (v := 4) hx hb hr (fun t ht hW => ⟨⟨4, (), rfl, rfl, by rw [ht]; exact hP9, va_K.moved hW.alike hK9, hD9⟩, hS.F ht⟩) hS.2.2 d_Model_instruction_49
  · rw [if_pos c2] at h
    refine lv_iconst (v := 4) hx hb d_Model_instruction_9 (by decide) ?_
    obtain rfl := Option.some.inj h
    have hP9 := hP
    have hD9 := hD
    have hK9 := hK
    exact W.iret (v := 4) hx hb hr (fun t ht hW => ⟨⟨4, (), rfl, rfl, by rw [ht]; exact hP9, va_K.moved hW.alike hK9, hD9⟩, hS.F ht⟩) hS.2.2 d_Model_instruction_10

set_option maxHeartbeats 4000000 in
set_option maxRecDepth 100000 in
theorem l_Model_step_2 {p : Program} {l : Launch} {e : Env} {s : State} {m : MethodId} {args : Array Value} {below : List Frame} {meth : Method} {c : Code} {Q : State → Prop} {A : Nat → Prop} (dC : Nat → ClassId) (dI : Nat → Nat → Nat) (N : Nat) (cB : ClassId) (cI : ClassId) (o_Model : Nat) (r : Nat → Nat) (p0 : Int32) (v1_2 : Int32) (z6_1 : Int32) (z6_2 : Nat → Nat → Int32) {ζ : Type} {z : ζ} (hx : p.tables.exec = Jvm.exec) (hb : c.code = b_Model_step) (hml : c.maxLocals = 4) (hown : s.vm.findClass R_Model = some m.cls) (hg : ∀ w ∈ lw_g, w.before args s = true) (hN : dz_N s) (hK : va_K (dC, dI) classes [(cB, .byte), (cI, .int)] s) (hA : ∀ q : Nat, s.heap.size ≤ q → A q) {k2_59 : (Nat → Int32) → Option (ζ)} (hk2_59 : ∀ (w2_I : (Nat → Int32))    (H : Heap) (locs : List Loc) (ls : Array Slot), k2_59 w2_I = some z → va_P (dC, dI) classes (wD cB cI o_Model r w2_I z6_2) H → va_D A (wD cB cI o_Model r w2_I z6_2) → va_S A s.heap H locs → lv_has ls 4 [(3, .int z6_1), (2, .int v1_2), (0, .ref o_Model), (1, .int p0)] → W p l e ({ frames := 13, cells := 0, slots := 0, locals := 296 } : Room) s m args below meth c H locs 0 0 Q (F0 m 59 ls [])) : ∀ (w2_I : (Nat → Int32))   (H : Heap) (locs : List Loc) (ls : Array Slot), lm_Model_step_2 N z6_1 k2_59 w2_I = some z → va_P (dC, dI) classes (wD cB cI o_Model r w2_I z6_2) H → va_D A (wD cB cI o_Model r w2_I z6_2) → va_S A s.heap H locs → lv_has ls 4 [(3, .int z6_1), (2, .int v1_2), (0, .ref o_Model), (1, .int p0)] → W p l e ({ frames := 13, cells := 0, slots := 0, locals := 296 } : Room) s m args below meth c H locs 0 0 Q (F0 m 39 ls []) := by
  intro w2_I H locs ls h hP hD hS hl
  unfold lm_Model_step_2 at h
  refine lv_iload_n hx hb d_Model_step_39 rfl (lv_at hl 0 rfl) ?_
  refine lv_iconst (v := 5) hx hb d_Model_step_40 (by decide) ?_
  refine lv_icmp_eq (tgt := 49) hx hb d_Model_step_41 (by decide) (fun c7 => ?_) (fun c7 => ?_)
  · rw [if_pos c7] at h
    refine lv_aload_n hx hb d_Model_step_49 rfl (lv_at hl 2 rfl) ?_
    refine lv_dup hx hb d_Model_step_50 rfl ?_
    refine va_get (D := (dC, dI)) (ci := 10) (v := .int (w2_I 40)) (C := R_Model) (T := F_Model) (N := 54) hx hb hg i_Model hown hK hP 0 rfl rfl 40 (by decide) (hg _ k726) (fun _ h9 => h9) rfl d_Model_step_51 ?_
    refine lv_iconst (v := 1) hx hb d_Model_step_54 (by decide) ?_
    refine lv_iadd hx hb d_Model_step_55 ?_
    refine va_put (D := (dC, dI)) (ci := 10) (v := .int ((w2_I 40) + 1)) (ty := .int) (C := R_Model) (T := F_Model) (N := 54) hx hb hg i_Model t_Model t_Model_ok n_Model hown hK hP hD hS 0 rfl rfl 40 (by decide) (hg _ k726) (fun _ h9 => h9) rfl (by decide +kernel) rfl rfl (Nat.le_of_ble_eq_true rfl) d_Model_step_56 (fun H locs hP hD hS => ?_)
    obtain ⟨J8, eJ8, h⟩ := dz_lt h
    have hP : va_P (dC, dI) classes (wD cB cI o_Model r J8 z6_2) H := by rw [eJ8]; exact hP
    have hD : va_D A (wD cB cI o_Model r J8 z6_2) := by rw [eJ8]; exact hD
    exact hk2_59 J8 _ _ _ h hP hD hS (lv_sub hl [0, 1, 2, 3] rfl)
  · rw [if_neg c7] at h
    refine lv_iload_n hx hb d_Model_step_44 rfl (lv_at hl 0 rfl) ?_
    refine lv_iconst (v := 2) hx hb d_Model_step_45 (by decide) ?_
    refine lv_icmp_ge (tgt := 59) hx hb d_Model_step_46 (by decide) (fun c9 => ?_) (fun c9 => ?_)
    · rw [if_pos c9] at h
      exact hk2_59 w2_I _ _ _ h hP hD hS (lv_sub hl [0, 1, 2, 3] rfl)
    · rw [if_neg c9] at h
      refine lv_aload_n hx hb d_Model_step_49 rfl (lv_at hl 2 rfl) ?_
      refine lv_dup hx hb d_Model_step_50 rfl ?_
      refine va_get (D := (dC, dI)) (ci := 10) (v := .int (w2_I 40)) (C := R_Model) (T := F_Model) (N := 54) hx hb hg i_Model hown hK hP 0 rfl rfl 40 (by decide) (hg _ k726) (fun _ h9 => h9) rfl d_Model_step_51 ?_
      refine lv_iconst (v := 1) hx hb d_Model_step_54 (by decide) ?_
      refine lv_iadd hx hb d_Model_step_55 ?_
      refine va_put (D := (dC, dI)) (ci := 10) (v := .int ((w2_I 40) + 1)) (ty := .int) (C := R_Model) (T := F_Model) (N := 54) hx hb hg i_Model t_Model t_Model_ok n_Model hown hK hP hD hS 0 rfl rfl 40 (by decide) (hg _ k726) (fun _ h9 => h9) rfl (by decide +kernel) rfl rfl (Nat.le_of_ble_eq_true rfl) d_Model_step_56 (fun H locs hP hD hS => ?_)
      obtain ⟨J10, eJ10, h⟩ := dz_lt h
      have hP : va_P (dC, dI) classes (wD cB cI o_Model r J10 z6_2) H := by rw [eJ10]; exact hP
      have hD : va_D A (wD cB cI o_Model r J10 z6_2) := by rw [eJ10]; exact hD
      exact hk2_59 J10 _ _ _ h hP hD hS (lv_sub hl [0, 1, 2, 3] rfl)
set_option maxHeartbeats 4000000 in
set_option maxRecDepth 100000 in
theorem l_Model_step_1 {p : Program} {l : Launch} {e : Env} {s : State} {m : MethodId} {args : Array Value} {below : List Frame} {meth : Method} {c : Code} {Q : State → Prop} {A : Nat → Prop} (dC : Nat → ClassId) (dI : Nat → Nat → Nat) (N : Nat) (cB : ClassId) (cI : ClassId) (o_Model : Nat) (r : Nat → Nat) (p0 : Int32) {ζ : Type} {z : ζ} (hx : p.tables.exec = Jvm.exec) (hb : c.code = b_Model_step) (hml : c.maxLocals = 4) (hown : s.vm.findClass R_Model = some m.cls) (hg : ∀ w ∈ lw_g, w.before args s = true) (hN : dz_N s) (hK : va_K (dC, dI) classes [(cB, .byte), (cI, .int)] s) (hA : ∀ q : Nat, s.heap.size ≤ q → A q) {k1_70 : Int32 → (Nat → Nat → Int32) → (Nat → Int32) → Option (ζ)} (hk1_70 : ∀ (v1_2 : Int32) (w1_F : (Nat → Nat → Int32)) (w1_I : (Nat → Int32))    (H : Heap) (locs : List Loc) (ls : Array Slot), k1_70 v1_2 w1_F w1_I = some z → va_P (dC, dI) classes (wD cB cI o_Model r w1_I w1_F) H → va_D A (wD cB cI o_Model r w1_I w1_F) → va_S A s.heap H locs → lv_has ls 4 [(2, .int v1_2), (0, .ref o_Model), (1, .int p0)] → W p l e ({ frames := 13, cells := 0, slots := 0, locals := 296 } : Room) s m args below meth c H locs 0 0 Q (F0 m 70 ls [])) : ∀ (n1 : Nat) (v1_2 : Int32) (w1_F : (Nat → Nat → Int32)) (w1_I : (Nat → Int32))   (H : Heap) (locs : List Loc) (ls : Array Slot), lm_Model_step_1 N p0 k1_70 n1 v1_2 w1_F w1_I = some z → va_P (dC, dI) classes (wD cB cI o_Model r w1_I w1_F) H → va_D A (wD cB cI o_Model r w1_I w1_F) → va_S A s.heap H locs → lv_has ls 4 [(2, .int v1_2), (0, .ref o_Model), (1, .int p0)] → W p l e ({ frames := 13, cells := 0, slots := 0, locals := 296 } : Room) s m args below meth c H locs 0 0 Q (F0 m 21 ls []) := by
  intro n1
  induction n1 with
  | zero =>
    intro v1_2 w1_F w1_I H locs ls h hP hD hS hl
    rw [lm_Model_step_1] at h
    cases h
  | succ n1 ih1 =>
    intro v1_2 w1_F w1_I H locs ls h hP hD hS hl
    rw [lm_Model_step_1] at h
    refine lv_iload_n hx hb d_Model_step_21 rfl (lv_at hl 0 rfl) ?_
    refine lv_iload_n hx hb d_Model_step_22 rfl (lv_at hl 2 rfl) ?_
    refine lv_icmp_ge (tgt := 70) hx hb d_Model_step_23 (by decide) (fun c4 => ?_) (fun c4 => ?_)
    · rw [if_pos c4] at h
      exact hk1_70 v1_2 w1_F w1_I _ _ _ h hP hD hS (lv_sub hl [0, 1, 2] rfl)
    · rw [if_neg c4] at h
      refine lv_aload_n hx hb d_Model_step_26 rfl (lv_at hl 1 rfl) ?_
      refine va_get (D := (dC, dI)) (ci := 10) (v := .int (w1_I 21)) (C := R_Model) (T := F_Model) (N := 54) hx hb hg i_Model hown hK hP 0 rfl rfl 21 (by decide) (hg _ k702) (fun _ h9 => h9) rfl d_Model_step_27 ?_
      refine lv_iconst (v := 5) hx hb d_Model_step_30 (by decide) ?_
      refine lv_icmp_ne (tgt := 70) hx hb d_Model_step_31 (by decide) (fun c5 => ?_) (fun c5 => ?_)
      · rw [if_neg c5] at h
        exact hk1_70 v1_2 w1_F w1_I _ _ _ h hP hD hS (lv_sub hl [0, 1, 2] rfl)
      · rw [if_pos c5] at h
        refine lv_aload_n hx hb d_Model_step_34 rfl (lv_at hl 1 rfl) ?_
        obtain ⟨⟨z6_1, z6_2, z6_3⟩, hc6, h⟩ := dz_ob h
        try dsimp only at h
        have hPc := hP
        have hKc := hK
        have hDc := hD
        have hFc := dz_freeall hD hS hA
        refine va_calli (va_runV (As := []) (rest := []) ⟨hx, hb, hml, hown, hg⟩ (c_Model_instruction l dC dI N cB cI o_Model r w1_I w1_F H.size (z6_1, z6_2, z6_3) hc6) (cwV 0 hg (gd_V k1031 k1032 k1033 k707 k1030) rfl rfl rfl (by decide +kernel) ⟨Nat.le_of_ble_eq_true rfl, Nat.le_of_ble_eq_true rfl⟩) ⟨dz_blind, va_recv hKc hPc (ci := 10) (q0 := 0) rfl rfl, fun U hU hW => ⟨rfl, dz_Nw hW hN, by rw [hU], by rw [hU]; exact hPc, va_K.moved hW.alike hKc, hDc.weaken (fun _ _ _ _ => trivial)⟩⟩ rfl rfl hl.1 rfl (lv_room (Nat.le_of_ble_eq_true rfl)) d_Model_step_35 ⟨Nat.le_of_ble_eq_true rfl, Nat.le_of_ble_eq_true rfl⟩) hS (fun q _ h => hFc q h) hFc (fun r6 u6 t6 H1 locs ht hvm hw hB hz1 hk1 hS => ?_)
        obtain ⟨hP1, hK1, hD1⟩ := hB
        rw [ht] at hP1
        have hP := hP1
        have hD := hD1.weaken (fun _ q _ h => hFc q.1 h)
        have hw : z6_1 = r6 := hw.symm
        subst hw
        generalize H1 = H at hP hS ⊢
        have hP : va_P (dC, dI) classes (wD cB cI o_Model r z6_3 z6_2) H := hP
        have hD : va_D A (wD cB cI o_Model r z6_3 z6_2) := hD
        refine lv_istore_n (lv' := [(3, .int z6_1), (2, .int v1_2), (0, .ref o_Model), (1, .int p0)]) hx hb d_Model_step_38 rfl hl (by decide) rfl (fun ls hl => ?_)
        refine l_Model_step_2 dC dI N cB cI o_Model r p0 v1_2 z6_1 z6_2 hx hb hml hown hg hN hK hA (fun w2_I H locs ls h hP hD hS hl => ?_) z6_3 _ _ _ h hP hD hS (lv_sub hl [0, 1, 2, 3] rfl)
        refine lv_aload_n hx hb d_Model_step_59 rfl (lv_at hl 2 rfl) ?_
        refine lv_iload_n hx hb d_Model_step_60 rfl (lv_at hl 0 rfl) ?_
        refine va_put (D := (dC, dI)) (ci := 10) (v := .int z6_1) (ty := .int) (C := R_Model) (T := F_Model) (N := 54) hx hb hg i_Model t_Model t_Model_ok n_Model hown hK hP hD hS 0 rfl rfl 21 (by decide) (hg _ k702) (fun _ h9 => h9) rfl (by decide +kernel) rfl rfl (Nat.le_of_ble_eq_true rfl) d_Model_step_61 (fun H locs hP hD hS => ?_)
        obtain ⟨J11, eJ11, h⟩ := dz_lt h
        have hP : va_P (dC, dI) classes (wD cB cI o_Model r J11 z6_2) H := by rw [eJ11]; exact hP
        have hD : va_D A (wD cB cI o_Model r J11 z6_2) := by rw [eJ11]; exact hD
        refine lv_iinc (v := v1_2 + 1) (lv' := [(2, .int (v1_2 + 1)), (3, .int z6_1), (0, .ref o_Model), (1, .int p0)]) hx hb d_Model_step_64 hl (k := 1) rfl rfl (by decide) rfl (fun ls hl => ?_)
        refine lv_goto (tgt := 21) hx hb d_Model_step_67 (by decide) ?_
        exact ih1 (v1_2 + 1) z6_2 J11 _ _ _ h hP hD hS (lv_sub hl [0, 2, 3] rfl)
set_option maxHeartbeats 4000000 in
set_option maxRecDepth 100000 in
theorem c_Model_step (l : Launch) (dC : Nat → ClassId) (dI : Nat → Nat → Nat) (N : Nat) (cB : ClassId) (cI : ClassId) (o_Model : Nat) (r : Nat → Nat) (I : Nat → Int32) (F : Nat → Nat → Int32) (p0 : Int32) (sz : Nat) (z : Int32 × (Nat → Nat → Int32) × (Nat → Int32)) (h : m_Model_step N I F p0 = some z) : Met l y_Model_step (.code y_Model_step b_Model_step 4 (some .int) :: lw_g) ({ frames := 13, cells := 0, slots := 0, locals := 296 }) (va_Pc [.ref o_Model, .int p0] (fun U => dz_N U ∧ U.heap.size = sz ∧ va_P (dC, dI) classes (wD cB cI o_Model r I F) U.heap ∧ va_K (dC, dI) classes [(cB, .byte), (cI, .int)] U ∧ va_D (fun _ => True) (wD cB cI o_Model r I F))) (va_Qi (fun (r : Int32) (_ : Unit) => r = z.1) (fun (u : Unit) t => va_P (dC, dI) classes (wD cB cI o_Model r z.2.2 z.2.1) t.heap ∧ va_K (dC, dI) classes [(cB, .byte), (cI, .int)] t ∧ va_D (va_A (wD cB cI o_Model r I F) sz) (wD cB cI o_Model r z.2.2 z.2.1)) (va_A (wD cB cI o_Model r I F) sz)) 0 0 (va_A (wD cB cI o_Model r I F) sz) := by
  refine Met.ofW (cc := b_Model_step) (maxL := 4) (ret := (some .int)) (by decide +kernel) rfl ?_
  intro p e s m args below meth c s₁ B hml hv
  obtain ⟨rfl, hN, hsz, hP, hK, hD0⟩ := hv
  have hx := B.exec
  have hb := B.bytes
  have hr := B.returns
  have hg : ∀ w ∈ lw_g, w.before _ s = true := fun w hw => atoms_spec (ws := .code y_Model_step b_Model_step 4 (some .int) :: lw_g) B.pre w (List.mem_cons_of_mem _ hw)
  have hown : s.vm.findClass R_Model = some m.cls := findClass_of_methodNamed B.named
  have hlocks := B.notSynchronized
  clear B
  subst hsz
  have hD := hD0.self (sz := s.heap.size)
  generalize hAe : va_A (wD cB cI o_Model r I F) s.heap.size = A at hD ⊢
  have hA : ∀ q : Nat, s.heap.size ≤ q → A q := fun q h => by rw [← hAe]; exact Or.inr h
  have hS : va_S A s.heap s.heap [] := va_S.rf
  have hP : va_P (dC, dI) classes (wD cB cI o_Model r I F) s.heap := hP
  have hl := lv_entry ([.ref o_Model, .int p0]) (n := 4) (Nat.le_of_ble_eq_true rfl)
  rw [lg_entry_eq]
  generalize (lg_sl ([.ref o_Model, .int p0]) ++ List.replicate (4 - (lg_sl ([.ref o_Model, .int p0])).length) Slot.unset).toArray = ls at hl ⊢
  have hl : lv_has ls 4 [(0, .ref o_Model), (1, .int p0)] := hl
  unfold m_Model_step at h
  refine lv_iload_n hx hb d_Model_step_0 rfl (lv_at hl 1 rfl) ?_
  refine lv_if_lt (tgt := 17) hx hb d_Model_step_1 (by decide) (fun c1 => ?_) (fun c1 => ?_)
  · rw [if_pos c1] at h
    refine lv_iconst (v := (-1)) hx hb d_Model_step_17 (by decide) ?_
    obtain rfl := Option.some.inj h
    have hP9 := hP
    have hD9 := hD
    have hK9 := hK
    exact W.iret (v := (-1)) hx hb hr (fun t ht hW => ⟨⟨(-1), (), rfl, rfl, by rw [ht]; exact hP9, va_K.moved hW.alike hK9, hD9⟩, hS.F ht⟩) hS.2.2 d_Model_step_18
  · rw [if_neg c1] at h
    refine lv_iload_n hx hb d_Model_step_4 rfl (lv_at hl 1 rfl) ?_
    refine lv_ldc (v := 100000) hx hb hown (hg _ k1029) d_Model_step_5 ?_
    refine lv_icmp_gt (tgt := 17) hx hb d_Model_step_7 (by decide) (fun c2 => ?_) (fun c2 => ?_)
    · rw [if_pos c2] at h
      refine lv_iconst (v := (-1)) hx hb d_Model_step_17 (by decide) ?_
      obtain rfl := Option.some.inj h
      have hP9 := hP
      have hD9 := hD
      have hK9 := hK
      exact W.iret (v := (-1)) hx hb hr (fun t ht hW => ⟨⟨(-1), (), rfl, rfl, by rw [ht]; exact hP9, va_K.moved hW.alike hK9, hD9⟩, hS.F ht⟩) hS.2.2 d_Model_step_18
    · rw [if_neg c2] at h
      refine lv_aload_n hx hb d_Model_step_10 rfl (lv_at hl 0 rfl) ?_
      refine va_get (D := (dC, dI)) (ci := 10) (v := .int (I 20)) (C := R_Model) (T := F_Model) (N := 54) hx hb hg i_Model hown hK hP 0 rfl rfl 20 (by decide) (hg _ k701) (fun _ h9 => h9) rfl d_Model_step_11 ?_
      refine lv_if_ne (tgt := 19) hx hb d_Model_step_14 (by decide) (fun c3 => ?_) (fun c3 => ?_)
      · rw [if_neg c3] at h
        refine lv_iconst (v := 0) hx hb d_Model_step_19 (by decide) ?_
        refine lv_istore_n (lv' := [(2, .int 0), (0, .ref o_Model), (1, .int p0)]) hx hb d_Model_step_20 rfl hl (by decide) rfl (fun ls hl => ?_)
        refine l_Model_step_1 dC dI N cB cI o_Model r p0 hx hb hml hown hg hN hK hA (fun v1_2 w1_F w1_I H locs ls h hP hD hS hl => ?_) N (0 : Int32) F I _ _ _ h hP hD hS (lv_sub hl [0, 1, 2] rfl)
        refine lv_aload_n hx hb d_Model_step_70 rfl (lv_at hl 1 rfl) ?_
        refine va_get (D := (dC, dI)) (ci := 10) (v := .int (w1_I 21)) (C := R_Model) (T := F_Model) (N := 54) hx hb hg i_Model hown hK hP 0 rfl rfl 21 (by decide) (hg _ k702) (fun _ h9 => h9) rfl d_Model_step_71 ?_
        obtain rfl := Option.some.inj h
        have hP9 := hP
        have hD9 := hD
        have hK9 := hK
        exact W.iret (v := w1_I 21) hx hb hr (fun t ht hW => ⟨⟨w1_I 21, (), rfl, rfl, by rw [ht]; exact hP9, va_K.moved hW.alike hK9, hD9⟩, hS.F ht⟩) hS.2.2 d_Model_step_74
      · rw [if_pos c3] at h
        refine lv_iconst (v := (-1)) hx hb d_Model_step_17 (by decide) ?_
        obtain rfl := Option.some.inj h
        have hP9 := hP
        have hD9 := hD
        have hK9 := hK
        exact W.iret (v := (-1)) hx hb hr (fun t ht hW => ⟨⟨(-1), (), rfl, rfl, by rw [ht]; exact hP9, va_K.moved hW.alike hK9, hD9⟩, hS.F ht⟩) hS.2.2 d_Model_step_18
