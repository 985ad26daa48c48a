theorem k906 : Cond.code y_Model_join b_Model_join 5 (some .int) ∈ lw_g := kg (List.mem_append_right _ (List.mem_of_getElem? (i := 1458) (by decide +kernel))) rfl
theorem k907 : Cond.methodLink R_Model 386 y_Model_join ∈ lw_g := kg (List.mem_append_right _ (List.mem_of_getElem? (i := 1455) (by decide +kernel))) rfl
theorem k908 : Cond.instanceMethod y_Model_join ∈ lw_g := kg (List.mem_append_right _ (List.mem_of_getElem? (i := 1457) (by decide +kernel))) rfl
theorem k909 : Cond.selects R_Model y_Model_join y_Model_join ∈ lw_g := kg (List.mem_append_left _ (List.mem_of_getElem? (i := 96) (by decide +kernel))) rfl
theorem k910 : Cond.code y_Model_ordered b_Model_ordered 3 (some .int) ∈ lw_g := kg (List.mem_append_right _ (List.mem_of_getElem? (i := 1481) (by decide +kernel))) rfl
theorem k911 : Cond.methodLink R_Model 401 y_Model_ordered ∈ lw_g := kg (List.mem_append_right _ (List.mem_of_getElem? (i := 1479) (by decide +kernel))) rfl
theorem k912 : Cond.static y_Model_ordered ∈ lw_g := kg (List.mem_append_right _ (List.mem_of_getElem? (i := 1480) (by decide +kernel))) rfl
theorem k913 : Cond.code y_Model_slice b_Model_slice 5 (some .int) ∈ lw_g := kg (List.mem_append_right _ (List.mem_of_getElem? (i := 1462) (by decide +kernel))) rfl
theorem k914 : Cond.methodLink R_Model 389 y_Model_slice ∈ lw_g := kg (List.mem_append_right _ (List.mem_of_getElem? (i := 1459) (by decide +kernel))) rfl
theorem k915 : Cond.instanceMethod y_Model_slice ∈ lw_g := kg (List.mem_append_right _ (List.mem_of_getElem? (i := 1461) (by decide +kernel))) rfl
theorem k916 : Cond.selects R_Model y_Model_slice y_Model_slice ∈ lw_g := kg (List.mem_append_left _ (List.mem_of_getElem? (i := 97) (by decide +kernel))) rfl
theorem k917 : Cond.code y_Model_print b_Model_print 3 (some .int) ∈ lw_g := kg (List.mem_append_right _ (List.mem_of_getElem? (i := 1466) (by decide +kernel))) rfl
theorem k918 : Cond.methodLink R_Model 392 y_Model_print ∈ lw_g := kg (List.mem_append_right _ (List.mem_of_getElem? (i := 1463) (by decide +kernel))) rfl
theorem k919 : Cond.instanceMethod y_Model_print ∈ lw_g := kg (List.mem_append_right _ (List.mem_of_getElem? (i := 1465) (by decide +kernel))) rfl
theorem k920 : Cond.selects R_Model y_Model_print y_Model_print ∈ lw_g := kg (List.mem_append_left _ (List.mem_of_getElem? (i := 98) (by decide +kernel))) rfl
theorem k921 : Cond.code y_Model_implode b_Model_implode 8 (some .int) ∈ lw_g := kg (List.mem_append_right _ (List.mem_of_getElem? (i := 1470) (by decide +kernel))) rfl
theorem k922 : Cond.methodLink R_Model 395 y_Model_implode ∈ lw_g := kg (List.mem_append_right _ (List.mem_of_getElem? (i := 1467) (by decide +kernel))) rfl
theorem k923 : Cond.instanceMethod y_Model_implode ∈ lw_g := kg (List.mem_append_right _ (List.mem_of_getElem? (i := 1469) (by decide +kernel))) rfl
theorem k924 : Cond.selects R_Model y_Model_implode y_Model_implode ∈ lw_g := kg (List.mem_append_left _ (List.mem_of_getElem? (i := 99) (by decide +kernel))) rfl
theorem k925 : Cond.code y_Model_explode b_Model_explode 7 (some .int) ∈ lw_g := kg (List.mem_append_right _ (List.mem_of_getElem? (i := 1478) (by decide +kernel))) rfl
theorem k926 : Cond.methodLink R_Model 398 y_Model_explode ∈ lw_g := kg (List.mem_append_right _ (List.mem_of_getElem? (i := 1475) (by decide +kernel))) rfl
theorem k927 : Cond.instanceMethod y_Model_explode ∈ lw_g := kg (List.mem_append_right _ (List.mem_of_getElem? (i := 1477) (by decide +kernel))) rfl
theorem k928 : Cond.selects R_Model y_Model_explode y_Model_explode ∈ lw_g := kg (List.mem_append_left _ (List.mem_of_getElem? (i := 101) (by decide +kernel))) rfl
set_option maxHeartbeats 4000000 in
set_option maxRecDepth 100000 in
theorem c_Model_strings (l : Launch) (dC : Nat → ClassId) (dI : Nat → Nat → Nat) (N : Nat) (cB : ClassId) (cI : ClassId) (o_Model : Nat) (r : Nat → Nat) (I : Nat → Int32) (F : Nat → Nat → Int32) (p0 : Int32) (sz : Nat) (z : Int32 × (Nat → Nat → Int32) × (Nat → Int32)) (h : m_Model_strings N I F p0 = some z) : Met l y_Model_strings (.code y_Model_strings b_Model_strings 2 (some .int) :: lw_g) ({ frames := 9, cells := 0, slots := 0, locals := 198 }) (va_Pc [.ref o_Model, .int p0] (fun U => dz_N U ∧ U.heap.size = sz ∧ va_P (dC, dI) classes (wD cB cI o_Model r I F) U.heap ∧ va_K (dC, dI) classes [(cB, .byte), (cI, .int)] U ∧ va_D (fun _ => True) (wD cB cI o_Model r I F))) (va_Qi (fun (r : Int32) (_ : Unit) => r = z.1) (fun (u : Unit) t => va_P (dC, dI) classes (wD cB cI o_Model r z.2.2 z.2.1) t.heap ∧ va_K (dC, dI) classes [(cB, .byte), (cI, .int)] t ∧ va_D (va_A (wD cB cI o_Model r I F) sz) (wD cB cI o_Model r z.2.2 z.2.1)) (va_A (wD cB cI o_Model r I F) sz)) 0 0 (va_A (wD cB cI o_Model r I F) sz) := by
  refine Met.ofW (cc := b_Model_strings) (maxL := 2) (ret := (some .int)) (by decide +kernel) rfl ?_
  intro p e s m args below meth c s₁ B hml hv
  obtain ⟨rfl, hN, hsz, hP, hK, hD0⟩ := hv
  have hx := B.exec
  have hb := B.bytes
  have hr := B.returns
  have hg : ∀ w ∈ lw_g, w.before _ s = true := fun w hw => atoms_spec (ws := .code y_Model_strings b_Model_strings 2 (some .int) :: lw_g) B.pre w (List.mem_cons_of_mem _ hw)
  have hown : s.vm.findClass R_Model = some m.cls := findClass_of_methodNamed B.named
  have hlocks := B.notSynchronized
  clear B
  subst hsz
  have hD := hD0.self (sz := s.heap.size)
  generalize hAe : va_A (wD cB cI o_Model r I F) s.heap.size = A at hD ⊢
  have hA : ∀ q : Nat, s.heap.size ≤ q → A q := fun q h => by rw [← hAe]; exact Or.inr h
  have hS : va_S A s.heap s.heap [] := va_S.rf
  have hP : va_P (dC, dI) classes (wD cB cI o_Model r I F) s.heap := hP
  have hl := lv_entry ([.ref o_Model, .int p0]) (n := 2) (Nat.le_of_ble_eq_true rfl)
  rw [lg_entry_eq]
  generalize (lg_sl ([.ref o_Model, .int p0]) ++ List.replicate (2 - (lg_sl ([.ref o_Model, .int p0])).length) Slot.unset).toArray = ls at hl ⊢
  have hl : lv_has ls 2 [(0, .ref o_Model), (1, .int p0)] := hl
  unfold m_Model_strings at h
  refine lv_iload_n hx hb d_Model_strings_0 rfl (lv_at hl 1 rfl) ?_
  by_cases s1_27 : p0 = 27
  · rw [if_pos s1_27] at h
    refine lv_tableIn (off := 75) (tgt := 76) hx hb d_Model_strings_1 (by rw [s1_27]; decide) (by rw [s1_27]; decide) (by rw [s1_27]; decide) (by decide) ?_
    refine lv_aload_n hx hb d_Model_strings_76 rfl (lv_at hl 0 rfl) ?_
    refine lv_iconst (v := 1) hx hb d_Model_strings_77 (by decide) ?_
    refine lv_bipush (v := 6) hx hb d_Model_strings_78 (by decide) ?_
    obtain ⟨z2_1, hc2, h⟩ := dz_ob h
    try dsimp only at h
    have hPc := hP
    have hKc := hK
    refine vp_callSi (va_Run.run (va_runV (As := [.int 1, .int 6]) (rest := []) ⟨hx, hb, hml, hown, hg⟩ (c_Model_is l dC dI N cB cI o_Model r I F (1 : Int32) (6 : Int32) z2_1 hc2) (cwV 2 hg (gd_V k808 k809 k810 k707 k807) rfl rfl rfl (by decide +kernel) ⟨Nat.le_of_ble_eq_true rfl, Nat.le_of_ble_eq_true rfl⟩) ⟨dz_blindR, va_recv hKc hPc (ci := 10) (q0 := 0) rfl rfl, fun U hU hW => ⟨rfl, dz_Nw hW hN, by rw [hU]; exact hPc, va_K.moved hW.alike hKc⟩⟩ rfl rfl hl.1 rfl (lv_room (Nat.le_of_ble_eq_true rfl)) d_Model_strings_80 ⟨Nat.le_of_ble_eq_true rfl, Nat.le_of_ble_eq_true rfl⟩)) (fun r2 hw => ?_)
    obtain ⟨hw, hbz2⟩ := hw
    have hw : z2_1 = r2 := hw.symm
    subst hw
    refine lv_if_eq (tgt := 103) hx hb d_Model_strings_83 (by decide) (fun c3 => ?_) (fun c3 => ?_)
    · rw [if_pos c3] at h
      refine lv_iconst (v := 4) hx hb d_Model_strings_103 (by decide) ?_
      obtain rfl := Option.some.inj h
      have hP9 := hP
      have hD9 := hD
      have hK9 := hK
      exact W.iret (v := 4) hx hb hr (fun t ht hW => ⟨⟨4, (), rfl, rfl, by rw [ht]; exact hP9, va_K.moved hW.alike hK9, hD9⟩, hS.F ht⟩) hS.2.2 d_Model_strings_104
    · rw [if_neg c3] at h
      refine lv_aload_n hx hb d_Model_strings_86 rfl (lv_at hl 0 rfl) ?_
      refine lv_iconst (v := 2) hx hb d_Model_strings_87 (by decide) ?_
      refine lv_bipush (v := 6) hx hb d_Model_strings_88 (by decide) ?_
      obtain ⟨z4_1, hc4, h⟩ := dz_ob h
      try dsimp only at h
      have hPc := hP
      have hKc := hK
      refine vp_callSi (va_Run.run (va_runV (As := [.int 2, .int 6]) (rest := []) ⟨hx, hb, hml, hown, hg⟩ (c_Model_is l dC dI N cB cI o_Model r I F (2 : Int32) (6 : Int32) z4_1 hc4) (cwV 2 hg (gd_V k808 k809 k810 k707 k807) rfl rfl rfl (by decide +kernel) ⟨Nat.le_of_ble_eq_true rfl, Nat.le_of_ble_eq_true rfl⟩) ⟨dz_blindR, va_recv hKc hPc (ci := 10) (q0 := 0) rfl rfl, fun U hU hW => ⟨rfl, dz_Nw hW hN, by rw [hU]; exact hPc, va_K.moved hW.alike hKc⟩⟩ rfl rfl hl.1 rfl (lv_room (Nat.le_of_ble_eq_true rfl)) d_Model_strings_90 ⟨Nat.le_of_ble_eq_true rfl, Nat.le_of_ble_eq_true rfl⟩)) (fun r4 hw => ?_)
      obtain ⟨hw, hbz4⟩ := hw
      have hw : z4_1 = r4 := hw.symm
      subst hw
      refine lv_if_eq (tgt := 103) hx hb d_Model_strings_93 (by decide) (fun c5 => ?_) (fun c5 => ?_)
      · rw [if_pos c5] at h
        refine lv_iconst (v := 4) hx hb d_Model_strings_103 (by decide) ?_
        obtain rfl := Option.some.inj h
        have hP9 := hP
        have hD9 := hD
        have hK9 := hK
        exact W.iret (v := 4) hx hb hr (fun t ht hW => ⟨⟨4, (), rfl, rfl, by rw [ht]; exact hP9, va_K.moved hW.alike hK9, hD9⟩, hS.F ht⟩) hS.2.2 d_Model_strings_104
      · rw [if_neg c5] at h
        refine lv_aload_n hx hb d_Model_strings_96 rfl (lv_at hl 0 rfl) ?_
        obtain ⟨⟨z6_1, z6_2, z6_3⟩, hc6, h⟩ := dz_ob h
        try dsimp only at h
        have hPc := hP
        have hKc := hK
        have hDc := hD
        have hFc := dz_freeall hD hS hA
        refine va_calli (va_runV (As := []) (rest := []) ⟨hx, hb, hml, hown, hg⟩ (c_Model_join l dC dI N cB cI o_Model r I F s.heap.size (z6_1, z6_2, z6_3) hc6) (cwV 0 hg (gd_V k907 k908 k909 k707 k906) rfl rfl rfl (by decide +kernel) ⟨Nat.le_of_ble_eq_true rfl, Nat.le_of_ble_eq_true rfl⟩) ⟨dz_blind, va_recv hKc hPc (ci := 10) (q0 := 0) rfl rfl, fun U hU hW => ⟨rfl, dz_Nw hW hN, by rw [hU], by rw [hU]; exact hPc, va_K.moved hW.alike hKc, hDc.weaken (fun _ _ _ _ => trivial)⟩⟩ rfl rfl hl.1 rfl (lv_room (Nat.le_of_ble_eq_true rfl)) d_Model_strings_97 ⟨Nat.le_of_ble_eq_true rfl, Nat.le_of_ble_eq_true rfl⟩) hS (fun q _ h => hFc q h) hFc (fun r6 u6 t6 H1 locs ht hvm hw hB hz1 hk1 hS => ?_)
        obtain ⟨hP1, hK1, hD1⟩ := hB
        rw [ht] at hP1
        have hP := hP1
        have hD := hD1.weaken (fun _ q _ h => hFc q.1 h)
        have hw : z6_1 = r6 := hw.symm
        subst hw
        generalize H1 = H at hP hS ⊢
        have hP : va_P (dC, dI) classes (wD cB cI o_Model r z6_3 z6_2) H := hP
        have hD : va_D A (wD cB cI o_Model r z6_3 z6_2) := hD
        refine lv_goto (tgt := 104) hx hb d_Model_strings_100 (by decide) ?_
        obtain rfl := Option.some.inj h
        have hP9 := hP
        have hD9 := hD
        have hK9 := hK
        exact W.iret (v := z6_1) hx hb hr (fun t ht hW => ⟨⟨z6_1, (), rfl, rfl, by rw [ht]; exact hP9, va_K.moved hW.alike hK9, hD9⟩, hS.F ht⟩) hS.2.2 d_Model_strings_104
  rw [if_neg s1_27] at h
  by_cases s1_28 : p0 = 28
  · rw [if_pos s1_28] at h
    refine lv_tableIn (off := 104) (tgt := 105) hx hb d_Model_strings_1 (by rw [s1_28]; decide) (by rw [s1_28]; decide) (by rw [s1_28]; decide) (by decide) ?_
    refine lv_aload_n hx hb d_Model_strings_105 rfl (lv_at hl 0 rfl) ?_
    refine lv_iconst (v := 2) hx hb d_Model_strings_106 (by decide) ?_
    refine lv_aload_n hx hb d_Model_strings_107 rfl (lv_at hl 0 rfl) ?_
    refine lv_iconst (v := 1) hx hb d_Model_strings_108 (by decide) ?_
    refine lv_bipush (v := 6) hx hb d_Model_strings_109 (by decide) ?_
    obtain ⟨z7_1, hc7, h⟩ := dz_ob h
    try dsimp only at h
    have hPc := hP
    have hKc := hK
    refine vp_callSi (va_Run.run (va_runV (As := [.int 1, .int 6]) (rest := [.int 2, .ref o_Model]) ⟨hx, hb, hml, hown, hg⟩ (c_Model_is l dC dI N cB cI o_Model r I F (1 : Int32) (6 : Int32) z7_1 hc7) (cwV 2 hg (gd_V k808 k809 k810 k707 k807) rfl rfl rfl (by decide +kernel) ⟨Nat.le_of_ble_eq_true rfl, Nat.le_of_ble_eq_true rfl⟩) ⟨dz_blindR, va_recv hKc hPc (ci := 10) (q0 := 0) rfl rfl, fun U hU hW => ⟨rfl, dz_Nw hW hN, by rw [hU]; exact hPc, va_K.moved hW.alike hKc⟩⟩ rfl rfl hl.1 rfl (lv_room (Nat.le_of_ble_eq_true rfl)) d_Model_strings_111 ⟨Nat.le_of_ble_eq_true rfl, Nat.le_of_ble_eq_true rfl⟩)) (fun r7 hw => ?_)
    obtain ⟨hw, hbz7⟩ := hw
    have hw : z7_1 = r7 := hw.symm
    subst hw
    refine lv_if_eq (tgt := 136) hx hb d_Model_strings_114 (by decide) (fun c8 => ?_) (fun c8 => ?_)
    · rw [if_pos c8] at h
      refine lv_iconst (v := 4) hx hb d_Model_strings_136 (by decide) ?_
      obtain ⟨⟨z9_1, z9_2⟩, hc9, h⟩ := dz_ob h
      try dsimp only at h
      have hPc := hP
      have hKc := hK
      have hDc := hD
      have hFc := dz_freeall hD hS hA
      refine va_calli (va_runV (As := [.int 2, .int 4]) (rest := []) ⟨hx, hb, hml, hown, hg⟩ (c_Model_next l dC dI N cB cI o_Model r I F (2 : Int32) (4 : Int32) s.heap.size (z9_1, z9_2) hc9) (cwV 2 hg (gd_V k871 k872 k873 k707 k870) rfl rfl rfl (by decide +kernel) ⟨Nat.le_of_ble_eq_true rfl, Nat.le_of_ble_eq_true rfl⟩) ⟨dz_blind, va_recv hKc hPc (ci := 10) (q0 := 0) rfl rfl, fun U hU hW => ⟨rfl, dz_Nw hW hN, by rw [hU], by rw [hU]; exact hPc, va_K.moved hW.alike hKc, hDc.weaken (fun _ _ _ _ => trivial)⟩⟩ rfl rfl hl.1 rfl (lv_room (Nat.le_of_ble_eq_true rfl)) d_Model_strings_137 ⟨Nat.le_of_ble_eq_true rfl, Nat.le_of_ble_eq_true rfl⟩) hS (fun q _ h => hFc q h) hFc (fun r9 u9 t9 H1 locs ht hvm hw hB hz1 hk1 hS => ?_)
      obtain ⟨hP1, hK1, hD1⟩ := hB
      rw [ht] at hP1
      have hP := hP1
      have hD := hD1.weaken (fun _ q _ h => hFc q.1 h)
      have hw : z9_1 = r9 := hw.symm
      subst hw
      generalize H1 = H at hP hS ⊢
      have hP : va_P (dC, dI) classes (wD cB cI o_Model r z9_2 F) H := hP
      have hD : va_D A (wD cB cI o_Model r z9_2 F) := hD
      obtain rfl := Option.some.inj h
      have hP9 := hP
      have hD9 := hD
      have hK9 := hK
      exact W.iret (v := z9_1) hx hb hr (fun t ht hW => ⟨⟨z9_1, (), rfl, rfl, by rw [ht]; exact hP9, va_K.moved hW.alike hK9, hD9⟩, hS.F ht⟩) hS.2.2 d_Model_strings_140
    · rw [if_neg c8] at h
      refine lv_aload_n hx hb d_Model_strings_117 rfl (lv_at hl 0 rfl) ?_
      refine lv_iconst (v := 1) hx hb d_Model_strings_118 (by decide) ?_
      refine lv_iconst (v := 0) hx hb d_Model_strings_119 (by decide) ?_
      refine lv_aload_n hx hb d_Model_strings_120 rfl (lv_at hl 0 rfl) ?_
      refine va_get (D := (dC, dI)) (ci := 10) (v := .ref (r 1)) (C := R_Model) (T := F_Model) (N := 54) hx hb hg i_Model hown hK hP 0 rfl rfl 1 (by decide) (hg _ k742) (fun _ h9 => h9) rfl d_Model_strings_121 ?_
      refine lv_aload_n hx hb d_Model_strings_124 rfl (lv_at hl 0 rfl) ?_
      refine lv_iconst (v := 1) hx hb d_Model_strings_125 (by decide) ?_
      obtain ⟨z10_1, hc10, h⟩ := dz_ob h
      try dsimp only at h
      have hPc := hP
      have hKc := hK
      refine vp_callSi (va_Run.run (va_runV (As := [.int 1]) (rest := [.ref (r 1), .int 0, .int 1, .ref o_Model, .int 2, .ref o_Model]) ⟨hx, hb, hml, hown, hg⟩ (c_Model_scalar l dC dI N cB cI o_Model r I F (1 : Int32) z10_1 hc10) (cwV 1 hg (gd_V k804 k805 k806 k707 k803) rfl rfl rfl (by decide +kernel) ⟨Nat.le_of_ble_eq_true rfl, Nat.le_of_ble_eq_true rfl⟩) ⟨dz_blindR, va_recv hKc hPc (ci := 10) (q0 := 0) rfl rfl, fun U hU hW => ⟨rfl, dz_Nw hW hN, by rw [hU]; exact hPc, va_K.moved hW.alike hKc⟩⟩ rfl rfl hl.1 rfl (lv_room (Nat.le_of_ble_eq_true rfl)) d_Model_strings_126 ⟨Nat.le_of_ble_eq_true rfl, Nat.le_of_ble_eq_true rfl⟩)) (fun r10 hw => ?_)
      have hw : z10_1 = r10 := hw.symm
      subst hw
      obtain ⟨i11, h⟩ := dz_oi h
      refine va_iald (D := (dC, dI)) (f := F 1) hx hb hK hP 2 1 rfl rfl i11 d_Model_strings_129 ?_
      obtain ⟨⟨z12_1, z12_2, z12_3⟩, hc12, h⟩ := dz_ob h
      try dsimp only at h
      have hPc := hP
      have hKc := hK
      have hDc := hD
      have hFc := dz_freeall hD hS hA
      refine va_calli (va_runV (As := [.int 1, .int 0, .int ((F 1) z10_1.toNatClampNeg)]) (rest := [.int 2, .ref o_Model]) ⟨hx, hb, hml, hown, hg⟩ (c_Model_give l dC dI N cB cI o_Model r I F (1 : Int32) (0 : Int32) ((F 1) z10_1.toNatClampNeg) s.heap.size (z12_1, z12_2, z12_3) hc12) (cwV 3 hg (gd_V k734 k735 k736 k707 k733) rfl rfl rfl (by decide +kernel) ⟨Nat.le_of_ble_eq_true rfl, Nat.le_of_ble_eq_true rfl⟩) ⟨dz_blind, va_recv hKc hPc (ci := 10) (q0 := 0) rfl rfl, fun U hU hW => ⟨rfl, dz_Nw hW hN, by rw [hU], by rw [hU]; exact hPc, va_K.moved hW.alike hKc, hDc.weaken (fun _ _ _ _ => trivial)⟩⟩ rfl rfl hl.1 rfl (lv_room (Nat.le_of_ble_eq_true rfl)) d_Model_strings_130 ⟨Nat.le_of_ble_eq_true rfl, Nat.le_of_ble_eq_true rfl⟩) hS (fun q _ h => hFc q h) hFc (fun r12 u12 t12 H1 locs ht hvm hw hB hz1 hk1 hS => ?_)
      obtain ⟨hP1, hK1, hD1⟩ := hB
      rw [ht] at hP1
      have hP := hP1
      have hD := hD1.weaken (fun _ q _ h => hFc q.1 h)
      have hw : z12_1 = r12 := hw.symm
      subst hw
      generalize H1 = H at hP hS ⊢
      have hP : va_P (dC, dI) classes (wD cB cI o_Model r z12_3 z12_2) H := hP
      have hD : va_D A (wD cB cI o_Model r z12_3 z12_2) := hD
      refine lv_goto (tgt := 137) hx hb d_Model_strings_133 (by decide) ?_
      obtain ⟨⟨z13_1, z13_2⟩, hc13, h⟩ := dz_ob h
      try dsimp only at h
      have hPc := hP
      have hKc := hK
      have hDc := hD
      have hFc := dz_freeall hD hS hA
      refine va_calli (va_runV (As := [.int 2, .int z12_1]) (rest := []) ⟨hx, hb, hml, hown, hg⟩ (c_Model_next l dC dI N cB cI o_Model r z12_3 z12_2 (2 : Int32) z12_1 H.size (z13_1, z13_2) hc13) (cwV 2 hg (gd_V k871 k872 k873 k707 k870) rfl rfl rfl (by decide +kernel) ⟨Nat.le_of_ble_eq_true rfl, Nat.le_of_ble_eq_true rfl⟩) ⟨dz_blind, va_recv hKc hPc (ci := 10) (q0 := 0) rfl rfl, fun U hU hW => ⟨rfl, dz_Nw hW hN, by rw [hU], by rw [hU]; exact hPc, va_K.moved hW.alike hKc, hDc.weaken (fun _ _ _ _ => trivial)⟩⟩ rfl rfl hl.1 rfl (lv_room (Nat.le_of_ble_eq_true rfl)) d_Model_strings_137 ⟨Nat.le_of_ble_eq_true rfl, Nat.le_of_ble_eq_true rfl⟩) hS (fun q _ h => hFc q h) hFc (fun r13 u13 t13 H1 locs ht hvm hw hB hz1 hk1 hS => ?_)
      obtain ⟨hP1, hK1, hD1⟩ := hB
      rw [ht] at hP1
      have hP := hP1
      have hD := hD1.weaken (fun _ q _ h => hFc q.1 h)
      have hw : z13_1 = r13 := hw.symm
      subst hw
      generalize H1 = H at hP hS ⊢
      have hP : va_P (dC, dI) classes (wD cB cI o_Model r z13_2 z12_2) H := hP
      have hD : va_D A (wD cB cI o_Model r z13_2 z12_2) := hD
      obtain rfl := Option.some.inj h
      have hP9 := hP
      have hD9 := hD
      have hK9 := hK
      exact W.iret (v := z13_1) hx hb hr (fun t ht hW => ⟨⟨z13_1, (), rfl, rfl, by rw [ht]; exact hP9, va_K.moved hW.alike hK9, hD9⟩, hS.F ht⟩) hS.2.2 d_Model_strings_140
  rw [if_neg s1_28] at h
  by_cases s1_29 : p0 = 29
  · rw [if_pos s1_29] at h
    refine lv_tableIn (off := 309) (tgt := 310) hx hb d_Model_strings_1 (by rw [s1_29]; decide) (by rw [s1_29]; decide) (by rw [s1_29]; decide) (by decide) ?_
    refine lv_aload_n hx hb d_Model_strings_310 rfl (lv_at hl 0 rfl) ?_
    refine lv_iconst (v := 2) hx hb d_Model_strings_311 (by decide) ?_
    refine lv_aload_n hx hb d_Model_strings_312 rfl (lv_at hl 0 rfl) ?_
    refine lv_iconst (v := 1) hx hb d_Model_strings_313 (by decide) ?_
    refine lv_bipush (v := 6) hx hb d_Model_strings_314 (by decide) ?_
    obtain ⟨z14_1, hc14, h⟩ := dz_ob h
    try dsimp only at h
    have hPc := hP
    have hKc := hK
    refine vp_callSi (va_Run.run (va_runV (As := [.int 1, .int 6]) (rest := [.int 2, .ref o_Model]) ⟨hx, hb, hml, hown, hg⟩ (c_Model_is l dC dI N cB cI o_Model r I F (1 : Int32) (6 : Int32) z14_1 hc14) (cwV 2 hg (gd_V k808 k809 k810 k707 k807) rfl rfl rfl (by decide +kernel) ⟨Nat.le_of_ble_eq_true rfl, Nat.le_of_ble_eq_true rfl⟩) ⟨dz_blindR, va_recv hKc hPc (ci := 10) (q0 := 0) rfl rfl, fun U hU hW => ⟨rfl, dz_Nw hW hN, by rw [hU]; exact hPc, va_K.moved hW.alike hKc⟩⟩ rfl rfl hl.1 rfl (lv_room (Nat.le_of_ble_eq_true rfl)) d_Model_strings_316 ⟨Nat.le_of_ble_eq_true rfl, Nat.le_of_ble_eq_true rfl⟩)) (fun r14 hw => ?_)
    obtain ⟨hw, hbz14⟩ := hw
    have hw : z14_1 = r14 := hw.symm
    subst hw
    refine lv_if_eq (tgt := 359) hx hb d_Model_strings_319 (by decide) (fun c15 => ?_) (fun c15 => ?_)
    · rw [if_pos c15] at h
      refine lv_iconst (v := 4) hx hb d_Model_strings_359 (by decide) ?_
      obtain ⟨⟨z16_1, z16_2⟩, hc16, h⟩ := dz_ob h
      try dsimp only at h
      have hPc := hP
      have hKc := hK
      have hDc := hD
      have hFc := dz_freeall hD hS hA
      refine va_calli (va_runV (As := [.int 2, .int 4]) (rest := []) ⟨hx, hb, hml, hown, hg⟩ (c_Model_next l dC dI N cB cI o_Model r I F (2 : Int32) (4 : Int32) s.heap.size (z16_1, z16_2) hc16) (cwV 2 hg (gd_V k871 k872 k873 k707 k870) rfl rfl rfl (by decide +kernel) ⟨Nat.le_of_ble_eq_true rfl, Nat.le_of_ble_eq_true rfl⟩) ⟨dz_blind, va_recv hKc hPc (ci := 10) (q0 := 0) rfl rfl, fun U hU hW => ⟨rfl, dz_Nw hW hN, by rw [hU], by rw [hU]; exact hPc, va_K.moved hW.alike hKc, hDc.weaken (fun _ _ _ _ => trivial)⟩⟩ rfl rfl hl.1 rfl (lv_room (Nat.le_of_ble_eq_true rfl)) d_Model_strings_360 ⟨Nat.le_of_ble_eq_true rfl, Nat.le_of_ble_eq_true rfl⟩) hS (fun q _ h => hFc q h) hFc (fun r16 u16 t16 H1 locs ht hvm hw hB hz1 hk1 hS => ?_)
      obtain ⟨hP1, hK1, hD1⟩ := hB
      rw [ht] at hP1
      have hP := hP1
      have hD := hD1.weaken (fun _ q _ h => hFc q.1 h)
      have hw : z16_1 = r16 := hw.symm
      subst hw
      generalize H1 = H at hP hS ⊢
      have hP : va_P (dC, dI) classes (wD cB cI o_Model r z16_2 F) H := hP
      have hD : va_D A (wD cB cI o_Model r z16_2 F) := hD
      obtain rfl := Option.some.inj h
      have hP9 := hP
      have hD9 := hD
      have hK9 := hK
      exact W.iret (v := z16_1) hx hb hr (fun t ht hW => ⟨⟨z16_1, (), rfl, rfl, by rw [ht]; exact hP9, va_K.moved hW.alike hK9, hD9⟩, hS.F ht⟩) hS.2.2 d_Model_strings_363
    · rw [if_neg c15] at h
      refine lv_aload_n hx hb d_Model_strings_322 rfl (lv_at hl 0 rfl) ?_
      refine lv_iconst (v := 2) hx hb d_Model_strings_323 (by decide) ?_
      refine lv_bipush (v := 6) hx hb d_Model_strings_324 (by decide) ?_
      obtain ⟨z17_1, hc17, h⟩ := dz_ob h
      try dsimp only at h
      have hPc := hP
      have hKc := hK
      refine vp_callSi (va_Run.run (va_runV (As := [.int 2, .int 6]) (rest := [.int 2, .ref o_Model]) ⟨hx, hb, hml, hown, hg⟩ (c_Model_is l dC dI N cB cI o_Model r I F (2 : Int32) (6 : Int32) z17_1 hc17) (cwV 2 hg (gd_V k808 k809 k810 k707 k807) rfl rfl rfl (by decide +kernel) ⟨Nat.le_of_ble_eq_true rfl, Nat.le_of_ble_eq_true rfl⟩) ⟨dz_blindR, va_recv hKc hPc (ci := 10) (q0 := 0) rfl rfl, fun U hU hW => ⟨rfl, dz_Nw hW hN, by rw [hU]; exact hPc, va_K.moved hW.alike hKc⟩⟩ rfl rfl hl.1 rfl (lv_room (Nat.le_of_ble_eq_true rfl)) d_Model_strings_326 ⟨Nat.le_of_ble_eq_true rfl, Nat.le_of_ble_eq_true rfl⟩)) (fun r17 hw => ?_)
      obtain ⟨hw, hbz17⟩ := hw
      have hw : z17_1 = r17 := hw.symm
      subst hw
      refine lv_if_eq (tgt := 359) hx hb d_Model_strings_329 (by decide) (fun c18 => ?_) (fun c18 => ?_)
      · rw [if_pos c18] at h
        refine lv_iconst (v := 4) hx hb d_Model_strings_359 (by decide) ?_
        obtain ⟨⟨z19_1, z19_2⟩, hc19, h⟩ := dz_ob h
        try dsimp only at h
        have hPc := hP
        have hKc := hK
        have hDc := hD
        have hFc := dz_freeall hD hS hA
        refine va_calli (va_runV (As := [.int 2, .int 4]) (rest := []) ⟨hx, hb, hml, hown, hg⟩ (c_Model_next l dC dI N cB cI o_Model r I F (2 : Int32) (4 : Int32) s.heap.size (z19_1, z19_2) hc19) (cwV 2 hg (gd_V k871 k872 k873 k707 k870) rfl rfl rfl (by decide +kernel) ⟨Nat.le_of_ble_eq_true rfl, Nat.le_of_ble_eq_true rfl⟩) ⟨dz_blind, va_recv hKc hPc (ci := 10) (q0 := 0) rfl rfl, fun U hU hW => ⟨rfl, dz_Nw hW hN, by rw [hU], by rw [hU]; exact hPc, va_K.moved hW.alike hKc, hDc.weaken (fun _ _ _ _ => trivial)⟩⟩ rfl rfl hl.1 rfl (lv_room (Nat.le_of_ble_eq_true rfl)) d_Model_strings_360 ⟨Nat.le_of_ble_eq_true rfl, Nat.le_of_ble_eq_true rfl⟩) hS (fun q _ h => hFc q h) hFc (fun r19 u19 t19 H1 locs ht hvm hw hB hz1 hk1 hS => ?_)
        obtain ⟨hP1, hK1, hD1⟩ := hB
        rw [ht] at hP1
        have hP := hP1
        have hD := hD1.weaken (fun _ q _ h => hFc q.1 h)
        have hw : z19_1 = r19 := hw.symm
        subst hw
        generalize H1 = H at hP hS ⊢
        have hP : va_P (dC, dI) classes (wD cB cI o_Model r z19_2 F) H := hP
        have hD : va_D A (wD cB cI o_Model r z19_2 F) := hD
        obtain rfl := Option.some.inj h
        have hP9 := hP
        have hD9 := hD
        have hK9 := hK
        exact W.iret (v := z19_1) hx hb hr (fun t ht hW => ⟨⟨z19_1, (), rfl, rfl, by rw [ht]; exact hP9, va_K.moved hW.alike hK9, hD9⟩, hS.F ht⟩) hS.2.2 d_Model_strings_363
      · rw [if_neg c18] at h
        refine lv_aload_n hx hb d_Model_strings_332 rfl (lv_at hl 0 rfl) ?_
        refine lv_iconst (v := 2) hx hb d_Model_strings_333 (by decide) ?_
        refine lv_iconst (v := 0) hx hb d_Model_strings_334 (by decide) ?_
        refine lv_iload_n hx hb d_Model_strings_335 rfl (lv_at hl 1 rfl) ?_
        refine lv_aload_n hx hb d_Model_strings_336 rfl (lv_at hl 0 rfl) ?_
        refine lv_aload_n hx hb d_Model_strings_337 rfl (lv_at hl 0 rfl) ?_
        refine lv_iconst (v := 2) hx hb d_Model_strings_338 (by decide) ?_
        obtain ⟨z20_1, hc20, h⟩ := dz_ob h
        try dsimp only at h
        have hPc := hP
        have hKc := hK
        refine vp_callSi (va_Run.run (va_runV (As := [.int 2]) (rest := [.ref o_Model, .int p0, .int 0, .int 2, .ref o_Model, .int 2, .ref o_Model]) ⟨hx, hb, hml, hown, hg⟩ (c_Model_scalar l dC dI N cB cI o_Model r I F (2 : Int32) z20_1 hc20) (cwV 1 hg (gd_V k804 k805 k806 k707 k803) rfl rfl rfl (by decide +kernel) ⟨Nat.le_of_ble_eq_true rfl, Nat.le_of_ble_eq_true rfl⟩) ⟨dz_blindR, va_recv hKc hPc (ci := 10) (q0 := 0) rfl rfl, fun U hU hW => ⟨rfl, dz_Nw hW hN, by rw [hU]; exact hPc, va_K.moved hW.alike hKc⟩⟩ rfl rfl hl.1 rfl (lv_room (Nat.le_of_ble_eq_true rfl)) d_Model_strings_339 ⟨Nat.le_of_ble_eq_true rfl, Nat.le_of_ble_eq_true rfl⟩)) (fun r20 hw => ?_)
        have hw : z20_1 = r20 := hw.symm
        subst hw
        refine lv_aload_n hx hb d_Model_strings_342 rfl (lv_at hl 0 rfl) ?_
        refine lv_iconst (v := 1) hx hb d_Model_strings_343 (by decide) ?_
        obtain ⟨z21_1, hc21, h⟩ := dz_ob h
        try dsimp only at h
        have hPc := hP
        have hKc := hK
        refine vp_callSi (va_Run.run (va_runV (As := [.int 1]) (rest := [.int z20_1, .ref o_Model, .int p0, .int 0, .int 2, .ref o_Model, .int 2, .ref o_Model]) ⟨hx, hb, hml, hown, hg⟩ (c_Model_scalar l dC dI N cB cI o_Model r I F (1 : Int32) z21_1 hc21) (cwV 1 hg (gd_V k804 k805 k806 k707 k803) rfl rfl rfl (by decide +kernel) ⟨Nat.le_of_ble_eq_true rfl, Nat.le_of_ble_eq_true rfl⟩) ⟨dz_blindR, va_recv hKc hPc (ci := 10) (q0 := 0) rfl rfl, fun U hU hW => ⟨rfl, dz_Nw hW hN, by rw [hU]; exact hPc, va_K.moved hW.alike hKc⟩⟩ rfl rfl hl.1 rfl (lv_room (Nat.le_of_ble_eq_true rfl)) d_Model_strings_344 ⟨Nat.le_of_ble_eq_true rfl, Nat.le_of_ble_eq_true rfl⟩)) (fun r21 hw => ?_)
        have hw : z21_1 = r21 := hw.symm
        subst hw
        obtain ⟨z22_1, hc22, h⟩ := dz_ob h
        try dsimp only at h
        have hPc := hP
        have hKc := hK
        refine vp_callSi (va_Run.run (va_runV (As := [.int z20_1, .int z21_1]) (rest := [.int p0, .int 0, .int 2, .ref o_Model, .int 2, .ref o_Model]) ⟨hx, hb, hml, hown, hg⟩ (c_Model_compare l dC dI N cB cI o_Model r I F z20_1 z21_1 z22_1 hc22) (cwV 2 hg (gd_V k858 k859 k860 k707 k857) rfl rfl rfl (by decide +kernel) ⟨Nat.le_of_ble_eq_true rfl, Nat.le_of_ble_eq_true rfl⟩) ⟨dz_blindR, va_recv hKc hPc (ci := 10) (q0 := 0) rfl rfl, fun U hU hW => ⟨rfl, dz_Nw hW hN, by rw [hU]; exact hPc, va_K.moved hW.alike hKc⟩⟩ rfl rfl hl.1 rfl (lv_room (Nat.le_of_ble_eq_true rfl)) d_Model_strings_347 ⟨Nat.le_of_ble_eq_true rfl, Nat.le_of_ble_eq_true rfl⟩)) (fun r22 hw => ?_)
        have hw : z22_1 = r22 := hw.symm
        subst hw
        obtain ⟨z23_1, hc23, h⟩ := dz_ob h
        try dsimp only at h
        have hPc := hP.sub (ws' := []) [] rfl
        have hKc := hK.sub (tys' := []) [] rfl
        refine vp_callSi (va_Run.run (va_runS (As := [.int p0, .int z22_1]) (rest := [.int 0, .int 2, .ref o_Model, .int 2, .ref o_Model]) ⟨hx, hb, hml, hown, hg⟩ (c_Model_ordered l dC dI N p0 z22_1 z23_1 hc23) (va_cwS 2 hg (gd_S k911 k912 k707 k910) rfl rfl rfl (by decide +kernel) ⟨Nat.le_of_ble_eq_true rfl, Nat.le_of_ble_eq_true rfl⟩) ⟨dz_blindR, fun U hU hW => ⟨rfl, dz_Nw hW hN, by rw [hU]; exact hPc, va_K.moved hW.alike hKc⟩⟩ rfl rfl hl.1 rfl (lv_room (Nat.le_of_ble_eq_true rfl)) d_Model_strings_350 ⟨Nat.le_of_ble_eq_true rfl, Nat.le_of_ble_eq_true rfl⟩)) (fun r23 hw => ?_)
        have hw : z23_1 = r23 := hw.symm
        subst hw
        obtain ⟨⟨z24_1, z24_2, z24_3⟩, hc24, h⟩ := dz_ob h
        try dsimp only at h
        have hPc := hP
        have hKc := hK
        have hDc := hD
        have hFc := dz_freeall hD hS hA
        refine va_calli (va_runV (As := [.int 2, .int 0, .int z23_1]) (rest := [.int 2, .ref o_Model]) ⟨hx, hb, hml, hown, hg⟩ (c_Model_give l dC dI N cB cI o_Model r I F (2 : Int32) (0 : Int32) z23_1 s.heap.size (z24_1, z24_2, z24_3) hc24) (cwV 3 hg (gd_V k734 k735 k736 k707 k733) rfl rfl rfl (by decide +kernel) ⟨Nat.le_of_ble_eq_true rfl, Nat.le_of_ble_eq_true rfl⟩) ⟨dz_blind, va_recv hKc hPc (ci := 10) (q0 := 0) rfl rfl, fun U hU hW => ⟨rfl, dz_Nw hW hN, by rw [hU], by rw [hU]; exact hPc, va_K.moved hW.alike hKc, hDc.weaken (fun _ _ _ _ => trivial)⟩⟩ rfl rfl hl.1 rfl (lv_room (Nat.le_of_ble_eq_true rfl)) d_Model_strings_353 ⟨Nat.le_of_ble_eq_true rfl, Nat.le_of_ble_eq_true rfl⟩) hS (fun q _ h => hFc q h) hFc (fun r24 u24 t24 H1 locs ht hvm hw hB hz1 hk1 hS => ?_)
        obtain ⟨hP1, hK1, hD1⟩ := hB
        rw [ht] at hP1
        have hP := hP1
        have hD := hD1.weaken (fun _ q _ h => hFc q.1 h)
        have hw : z24_1 = r24 := hw.symm
        subst hw
        generalize H1 = H at hP hS ⊢
        have hP : va_P (dC, dI) classes (wD cB cI o_Model r z24_3 z24_2) H := hP
        have hD : va_D A (wD cB cI o_Model r z24_3 z24_2) := hD
        refine lv_goto (tgt := 360) hx hb d_Model_strings_356 (by decide) ?_
        obtain ⟨⟨z25_1, z25_2⟩, hc25, h⟩ := dz_ob h
        try dsimp only at h
        have hPc := hP
        have hKc := hK
        have hDc := hD
        have hFc := dz_freeall hD hS hA
        refine va_calli (va_runV (As := [.int 2, .int z24_1]) (rest := []) ⟨hx, hb, hml, hown, hg⟩ (c_Model_next l dC dI N cB cI o_Model r z24_3 z24_2 (2 : Int32) z24_1 H.size (z25_1, z25_2) hc25) (cwV 2 hg (gd_V k871 k872 k873 k707 k870) rfl rfl rfl (by decide +kernel) ⟨Nat.le_of_ble_eq_true rfl, Nat.le_of_ble_eq_true rfl⟩) ⟨dz_blind, va_recv hKc hPc (ci := 10) (q0 := 0) rfl rfl, fun U hU hW => ⟨rfl, dz_Nw hW hN, by rw [hU], by rw [hU]; exact hPc, va_K.moved hW.alike hKc, hDc.weaken (fun _ _ _ _ => trivial)⟩⟩ rfl rfl hl.1 rfl (lv_room (Nat.le_of_ble_eq_true rfl)) d_Model_strings_360 ⟨Nat.le_of_ble_eq_true rfl, Nat.le_of_ble_eq_true rfl⟩) hS (fun q _ h => hFc q h) hFc (fun r25 u25 t25 H1 locs ht hvm hw hB hz1 hk1 hS => ?_)
        obtain ⟨hP1, hK1, hD1⟩ := hB
        rw [ht] at hP1
        have hP := hP1
        have hD := hD1.weaken (fun _ q _ h => hFc q.1 h)
        have hw : z25_1 = r25 := hw.symm
        subst hw
        generalize H1 = H at hP hS ⊢
        have hP : va_P (dC, dI) classes (wD cB cI o_Model r z25_2 z24_2) H := hP
        have hD : va_D A (wD cB cI o_Model r z25_2 z24_2) := hD
        obtain rfl := Option.some.inj h
        have hP9 := hP
        have hD9 := hD
        have hK9 := hK
        exact W.iret (v := z25_1) hx hb hr (fun t ht hW => ⟨⟨z25_1, (), rfl, rfl, by rw [ht]; exact hP9, va_K.moved hW.alike hK9, hD9⟩, hS.F ht⟩) hS.2.2 d_Model_strings_363
  rw [if_neg s1_29] at h
  by_cases s1_30 : p0 = 30
  · rw [if_pos s1_30] at h
    refine lv_tableIn (off := 140) (tgt := 141) hx hb d_Model_strings_1 (by rw [s1_30]; decide) (by rw [s1_30]; decide) (by rw [s1_30]; decide) (by decide) ?_
    refine lv_aload_n hx hb d_Model_strings_141 rfl (lv_at hl 0 rfl) ?_
    refine lv_iconst (v := 3) hx hb d_Model_strings_142 (by decide) ?_
    refine lv_bipush (v := 6) hx hb d_Model_strings_143 (by decide) ?_
    obtain ⟨z26_1, hc26, h⟩ := dz_ob h
    try dsimp only at h
    have hPc := hP
    have hKc := hK
    refine vp_callSi (va_Run.run (va_runV (As := [.int 3, .int 6]) (rest := []) ⟨hx, hb, hml, hown, hg⟩ (c_Model_is l dC dI N cB cI o_Model r I F (3 : Int32) (6 : Int32) z26_1 hc26) (cwV 2 hg (gd_V k808 k809 k810 k707 k807) rfl rfl rfl (by decide +kernel) ⟨Nat.le_of_ble_eq_true rfl, Nat.le_of_ble_eq_true rfl⟩) ⟨dz_blindR, va_recv hKc hPc (ci := 10) (q0 := 0) rfl rfl, fun U hU hW => ⟨rfl, dz_Nw hW hN, by rw [hU]; exact hPc, va_K.moved hW.alike hKc⟩⟩ rfl rfl hl.1 rfl (lv_room (Nat.le_of_ble_eq_true rfl)) d_Model_strings_145 ⟨Nat.le_of_ble_eq_true rfl, Nat.le_of_ble_eq_true rfl⟩)) (fun r26 hw => ?_)
    obtain ⟨hw, hbz26⟩ := hw
    have hw : z26_1 = r26 := hw.symm
    subst hw
    refine lv_if_eq (tgt := 174) hx hb d_Model_strings_148 (by decide) (fun c27 => ?_) (fun c27 => ?_)
    · rw [if_pos c27] at h
      refine lv_iconst (v := 4) hx hb d_Model_strings_174 (by decide) ?_
      obtain rfl := Option.some.inj h
      have hP9 := hP
      have hD9 := hD
      have hK9 := hK
      exact W.iret (v := 4) hx hb hr (fun t ht hW => ⟨⟨4, (), rfl, rfl, by rw [ht]; exact hP9, va_K.moved hW.alike hK9, hD9⟩, hS.F ht⟩) hS.2.2 d_Model_strings_175
    · rw [if_neg c27] at h
      refine lv_aload_n hx hb d_Model_strings_151 rfl (lv_at hl 0 rfl) ?_
      refine lv_iconst (v := 2) hx hb d_Model_strings_152 (by decide) ?_
      obtain ⟨z28_1, hc28, h⟩ := dz_ob h
      try dsimp only at h
      have hPc := hP
      have hKc := hK
      refine vp_callSi (va_Run.run (va_runV (As := [.int 2]) (rest := []) ⟨hx, hb, hml, hown, hg⟩ (c_Model_isScalar l dC dI N cB cI o_Model r I F (2 : Int32) z28_1 hc28) (cwV 1 hg (gd_V k818 k819 k820 k707 k817) rfl rfl rfl (by decide +kernel) ⟨Nat.le_of_ble_eq_true rfl, Nat.le_of_ble_eq_true rfl⟩) ⟨dz_blindR, va_recv hKc hPc (ci := 10) (q0 := 0) rfl rfl, fun U hU hW => ⟨rfl, dz_Nw hW hN, by rw [hU]; exact hPc, va_K.moved hW.alike hKc⟩⟩ rfl rfl hl.1 rfl (lv_room (Nat.le_of_ble_eq_true rfl)) d_Model_strings_153 ⟨Nat.le_of_ble_eq_true rfl, Nat.le_of_ble_eq_true rfl⟩)) (fun r28 hw => ?_)
      obtain ⟨hw, hbz28⟩ := hw
      have hw : z28_1 = r28 := hw.symm
      subst hw
      refine lv_if_eq (tgt := 174) hx hb d_Model_strings_156 (by decide) (fun c29 => ?_) (fun c29 => ?_)
      · rw [if_pos c29] at h
        refine lv_iconst (v := 4) hx hb d_Model_strings_174 (by decide) ?_
        obtain rfl := Option.some.inj h
        have hP9 := hP
        have hD9 := hD
        have hK9 := hK
        exact W.iret (v := 4) hx hb hr (fun t ht hW => ⟨⟨4, (), rfl, rfl, by rw [ht]; exact hP9, va_K.moved hW.alike hK9, hD9⟩, hS.F ht⟩) hS.2.2 d_Model_strings_175
      · rw [if_neg c29] at h
        refine lv_aload_n hx hb d_Model_strings_159 rfl (lv_at hl 0 rfl) ?_
        refine lv_iconst (v := 1) hx hb d_Model_strings_160 (by decide) ?_
        obtain ⟨z30_1, hc30, h⟩ := dz_ob h
        try dsimp only at h
        have hPc := hP
        have hKc := hK
        refine vp_callSi (va_Run.run (va_runV (As := [.int 1]) (rest := []) ⟨hx, hb, hml, hown, hg⟩ (c_Model_isScalar l dC dI N cB cI o_Model r I F (1 : Int32) z30_1 hc30) (cwV 1 hg (gd_V k818 k819 k820 k707 k817) rfl rfl rfl (by decide +kernel) ⟨Nat.le_of_ble_eq_true rfl, Nat.le_of_ble_eq_true rfl⟩) ⟨dz_blindR, va_recv hKc hPc (ci := 10) (q0 := 0) rfl rfl, fun U hU hW => ⟨rfl, dz_Nw hW hN, by rw [hU]; exact hPc, va_K.moved hW.alike hKc⟩⟩ rfl rfl hl.1 rfl (lv_room (Nat.le_of_ble_eq_true rfl)) d_Model_strings_161 ⟨Nat.le_of_ble_eq_true rfl, Nat.le_of_ble_eq_true rfl⟩)) (fun r30 hw => ?_)
        obtain ⟨hw, hbz30⟩ := hw
        have hw : z30_1 = r30 := hw.symm
        subst hw
        refine lv_if_eq (tgt := 174) hx hb d_Model_strings_164 (by decide) (fun c31 => ?_) (fun c31 => ?_)
        · rw [if_pos c31] at h
          refine lv_iconst (v := 4) hx hb d_Model_strings_174 (by decide) ?_
          obtain rfl := Option.some.inj h
          have hP9 := hP
          have hD9 := hD
          have hK9 := hK
          exact W.iret (v := 4) hx hb hr (fun t ht hW => ⟨⟨4, (), rfl, rfl, by rw [ht]; exact hP9, va_K.moved hW.alike hK9, hD9⟩, hS.F ht⟩) hS.2.2 d_Model_strings_175
        · rw [if_neg c31] at h
          refine lv_aload_n hx hb d_Model_strings_167 rfl (lv_at hl 0 rfl) ?_
          obtain ⟨⟨z32_1, z32_2, z32_3⟩, hc32, h⟩ := dz_ob h
          try dsimp only at h
          have hPc := hP
          have hKc := hK
          have hDc := hD
          have hFc := dz_freeall hD hS hA
          refine va_calli (va_runV (As := []) (rest := []) ⟨hx, hb, hml, hown, hg⟩ (c_Model_slice l dC dI N cB cI o_Model r I F s.heap.size (z32_1, z32_2, z32_3) hc32) (cwV 0 hg (gd_V k914 k915 k916 k707 k913) rfl rfl rfl (by decide +kernel) ⟨Nat.le_of_ble_eq_true rfl, Nat.le_of_ble_eq_true rfl⟩) ⟨dz_blind, va_recv hKc hPc (ci := 10) (q0 := 0) rfl rfl, fun U hU hW => ⟨rfl, dz_Nw hW hN, by rw [hU], by rw [hU]; exact hPc, va_K.moved hW.alike hKc, hDc.weaken (fun _ _ _ _ => trivial)⟩⟩ rfl rfl hl.1 rfl (lv_room (Nat.le_of_ble_eq_true rfl)) d_Model_strings_168 ⟨Nat.le_of_ble_eq_true rfl, Nat.le_of_ble_eq_true rfl⟩) hS (fun q _ h => hFc q h) hFc (fun r32 u32 t32 H1 locs ht hvm hw hB hz1 hk1 hS => ?_)
          obtain ⟨hP1, hK1, hD1⟩ := hB
          rw [ht] at hP1
          have hP := hP1
          have hD := hD1.weaken (fun _ q _ h => hFc q.1 h)
          have hw : z32_1 = r32 := hw.symm
          subst hw
          generalize H1 = H at hP hS ⊢
          have hP : va_P (dC, dI) classes (wD cB cI o_Model r z32_3 z32_2) H := hP
          have hD : va_D A (wD cB cI o_Model r z32_3 z32_2) := hD
          refine lv_goto (tgt := 175) hx hb d_Model_strings_171 (by decide) ?_
          obtain rfl := Option.some.inj h
          have hP9 := hP
          have hD9 := hD
          have hK9 := hK
          exact W.iret (v := z32_1) hx hb hr (fun t ht hW => ⟨⟨z32_1, (), rfl, rfl, by rw [ht]; exact hP9, va_K.moved hW.alike hK9, hD9⟩, hS.F ht⟩) hS.2.2 d_Model_strings_175
  rw [if_neg s1_30] at h
  by_cases s1_31 : p0 = 31
  · rw [if_pos s1_31] at h
    refine lv_tableIn (off := 175) (tgt := 176) hx hb d_Model_strings_1 (by rw [s1_31]; decide) (by rw [s1_31]; decide) (by rw [s1_31]; decide) (by decide) ?_
    refine lv_aload_n hx hb d_Model_strings_176 rfl (lv_at hl 0 rfl) ?_
    refine lv_iconst (v := 2) hx hb d_Model_strings_177 (by decide) ?_
    refine lv_bipush (v := 6) hx hb d_Model_strings_178 (by decide) ?_
    obtain ⟨z33_1, hc33, h⟩ := dz_ob h
    try dsimp only at h
    have hPc := hP
    have hKc := hK
    refine vp_callSi (va_Run.run (va_runV (As := [.int 2, .int 6]) (rest := []) ⟨hx, hb, hml, hown, hg⟩ (c_Model_is l dC dI N cB cI o_Model r I F (2 : Int32) (6 : Int32) z33_1 hc33) (cwV 2 hg (gd_V k808 k809 k810 k707 k807) rfl rfl rfl (by decide +kernel) ⟨Nat.le_of_ble_eq_true rfl, Nat.le_of_ble_eq_true rfl⟩) ⟨dz_blindR, va_recv hKc hPc (ci := 10) (q0 := 0) rfl rfl, fun U hU hW => ⟨rfl, dz_Nw hW hN, by rw [hU]; exact hPc, va_K.moved hW.alike hKc⟩⟩ rfl rfl hl.1 rfl (lv_room (Nat.le_of_ble_eq_true rfl)) d_Model_strings_180 ⟨Nat.le_of_ble_eq_true rfl, Nat.le_of_ble_eq_true rfl⟩)) (fun r33 hw => ?_)
    obtain ⟨hw, hbz33⟩ := hw
    have hw : z33_1 = r33 := hw.symm
    subst hw
    refine lv_if_eq (tgt := 194) hx hb d_Model_strings_183 (by decide) (fun c34 => ?_) (fun c34 => ?_)
    · rw [if_pos c34] at h
      refine lv_iconst (v := 4) hx hb d_Model_strings_194 (by decide) ?_
      obtain rfl := Option.some.inj h
      have hP9 := hP
      have hD9 := hD
      have hK9 := hK
      exact W.iret (v := 4) hx hb hr (fun t ht hW => ⟨⟨4, (), rfl, rfl, by rw [ht]; exact hP9, va_K.moved hW.alike hK9, hD9⟩, hS.F ht⟩) hS.2.2 d_Model_strings_195
    · rw [if_neg c34] at h
      refine lv_aload_n hx hb d_Model_strings_186 rfl (lv_at hl 0 rfl) ?_
      refine lv_iconst (v := 1) hx hb d_Model_strings_187 (by decide) ?_
      obtain ⟨z35_1, hc35, h⟩ := dz_ob h
      try dsimp only at h
      have hPc := hP
      have hKc := hK
      refine vp_callSi (va_Run.run (va_runV (As := [.int 1]) (rest := []) ⟨hx, hb, hml, hown, hg⟩ (c_Model_isScalar l dC dI N cB cI o_Model r I F (1 : Int32) z35_1 hc35) (cwV 1 hg (gd_V k818 k819 k820 k707 k817) rfl rfl rfl (by decide +kernel) ⟨Nat.le_of_ble_eq_true rfl, Nat.le_of_ble_eq_true rfl⟩) ⟨dz_blindR, va_recv hKc hPc (ci := 10) (q0 := 0) rfl rfl, fun U hU hW => ⟨rfl, dz_Nw hW hN, by rw [hU]; exact hPc, va_K.moved hW.alike hKc⟩⟩ rfl rfl hl.1 rfl (lv_room (Nat.le_of_ble_eq_true rfl)) d_Model_strings_188 ⟨Nat.le_of_ble_eq_true rfl, Nat.le_of_ble_eq_true rfl⟩)) (fun r35 hw => ?_)
      obtain ⟨hw, hbz35⟩ := hw
      have hw : z35_1 = r35 := hw.symm
      subst hw
      refine lv_if_ne (tgt := 196) hx hb d_Model_strings_191 (by decide) (fun c36 => ?_) (fun c36 => ?_)
      · rw [if_neg c36] at h
        refine lv_aload_n hx hb d_Model_strings_196 rfl (lv_at hl 0 rfl) ?_
        refine lv_iconst (v := 1) hx hb d_Model_strings_197 (by decide) ?_
        obtain ⟨z37_1, hc37, h⟩ := dz_ob h
        try dsimp only at h
        have hPc := hP
        have hKc := hK
        refine vp_callSi (va_Run.run (va_runV (As := [.int 1]) (rest := []) ⟨hx, hb, hml, hown, hg⟩ (c_Model_scalar l dC dI N cB cI o_Model r I F (1 : Int32) z37_1 hc37) (cwV 1 hg (gd_V k804 k805 k806 k707 k803) rfl rfl rfl (by decide +kernel) ⟨Nat.le_of_ble_eq_true rfl, Nat.le_of_ble_eq_true rfl⟩) ⟨dz_blindR, va_recv hKc hPc (ci := 10) (q0 := 0) rfl rfl, fun U hU hW => ⟨rfl, dz_Nw hW hN, by rw [hU]; exact hPc, va_K.moved hW.alike hKc⟩⟩ rfl rfl hl.1 rfl (lv_room (Nat.le_of_ble_eq_true rfl)) d_Model_strings_198 ⟨Nat.le_of_ble_eq_true rfl, Nat.le_of_ble_eq_true rfl⟩)) (fun r37 hw => ?_)
        have hw : z37_1 = r37 := hw.symm
        subst hw
        refine lv_if_lt (tgt := 222) hx hb d_Model_strings_201 (by decide) (fun c38 => ?_) (fun c38 => ?_)
        · rw [if_pos c38] at h
          refine lv_aload_n hx hb d_Model_strings_222 rfl (lv_at hl 0 rfl) ?_
          refine lv_iconst (v := 2) hx hb d_Model_strings_223 (by decide) ?_
          refine lv_iconst (v := 4) hx hb d_Model_strings_224 (by decide) ?_
          obtain ⟨⟨z39_1, z39_2, z39_3⟩, hc39, h⟩ := dz_ob h
          try dsimp only at h
          have hPc := hP
          have hKc := hK
          have hDc := hD
          have hFc := dz_freeall hD hS hA
          refine va_calli (va_runV (As := [.int 2, .int 4]) (rest := []) ⟨hx, hb, hml, hown, hg⟩ (c_Model_raiseGlobal l dC dI N cB cI o_Model r I F (2 : Int32) (4 : Int32) s.heap.size (z39_1, z39_2, z39_3) hc39) (cwV 2 hg (gd_V k875 k876 k877 k707 k874) rfl rfl rfl (by decide +kernel) ⟨Nat.le_of_ble_eq_true rfl, Nat.le_of_ble_eq_true rfl⟩) ⟨dz_blind, va_recv hKc hPc (ci := 10) (q0 := 0) rfl rfl, fun U hU hW => ⟨rfl, dz_Nw hW hN, by rw [hU], by rw [hU]; exact hPc, va_K.moved hW.alike hKc, hDc.weaken (fun _ _ _ _ => trivial)⟩⟩ rfl rfl hl.1 rfl (lv_room (Nat.le_of_ble_eq_true rfl)) d_Model_strings_225 ⟨Nat.le_of_ble_eq_true rfl, Nat.le_of_ble_eq_true rfl⟩) hS (fun q _ h => hFc q h) hFc (fun r39 u39 t39 H1 locs ht hvm hw hB hz1 hk1 hS => ?_)
          obtain ⟨hP1, hK1, hD1⟩ := hB
          rw [ht] at hP1
          have hP := hP1
          have hD := hD1.weaken (fun _ q _ h => hFc q.1 h)
          have hw : z39_1 = r39 := hw.symm
          subst hw
          generalize H1 = H at hP hS ⊢
          have hP : va_P (dC, dI) classes (wD cB cI o_Model r z39_3 z39_2) H := hP
          have hD : va_D A (wD cB cI o_Model r z39_3 z39_2) := hD
          refine lv_goto (tgt := 256) hx hb d_Model_strings_228 (by decide) ?_
          obtain rfl := Option.some.inj h
          have hP9 := hP
          have hD9 := hD
          have hK9 := hK
          exact W.iret (v := z39_1) hx hb hr (fun t ht hW => ⟨⟨z39_1, (), rfl, rfl, by rw [ht]; exact hP9, va_K.moved hW.alike hK9, hD9⟩, hS.F ht⟩) hS.2.2 d_Model_strings_256
        · rw [if_neg c38] at h
          refine lv_aload_n hx hb d_Model_strings_204 rfl (lv_at hl 0 rfl) ?_
          refine lv_iconst (v := 1) hx hb d_Model_strings_205 (by decide) ?_
          obtain ⟨z40_1, hc40, h⟩ := dz_ob h
          try dsimp only at h
          have hPc := hP
          have hKc := hK
          refine vp_callSi (va_Run.run (va_runV (As := [.int 1]) (rest := []) ⟨hx, hb, hml, hown, hg⟩ (c_Model_scalar l dC dI N cB cI o_Model r I F (1 : Int32) z40_1 hc40) (cwV 1 hg (gd_V k804 k805 k806 k707 k803) rfl rfl rfl (by decide +kernel) ⟨Nat.le_of_ble_eq_true rfl, Nat.le_of_ble_eq_true rfl⟩) ⟨dz_blindR, va_recv hKc hPc (ci := 10) (q0 := 0) rfl rfl, fun U hU hW => ⟨rfl, dz_Nw hW hN, by rw [hU]; exact hPc, va_K.moved hW.alike hKc⟩⟩ rfl rfl hl.1 rfl (lv_room (Nat.le_of_ble_eq_true rfl)) d_Model_strings_206 ⟨Nat.le_of_ble_eq_true rfl, Nat.le_of_ble_eq_true rfl⟩)) (fun r40 hw => ?_)
          have hw : z40_1 = r40 := hw.symm
          subst hw
          refine lv_aload_n hx hb d_Model_strings_209 rfl (lv_at hl 0 rfl) ?_
          refine va_get (D := (dC, dI)) (ci := 10) (v := .ref (r 1)) (C := R_Model) (T := F_Model) (N := 54) hx hb hg i_Model hown hK hP 0 rfl rfl 1 (by decide) (hg _ k742) (fun _ h9 => h9) rfl d_Model_strings_210 ?_
          refine lv_aload_n hx hb d_Model_strings_213 rfl (lv_at hl 0 rfl) ?_
          refine lv_iconst (v := 2) hx hb d_Model_strings_214 (by decide) ?_
          obtain ⟨z41_1, hc41, h⟩ := dz_ob h
          try dsimp only at h
          have hPc := hP
          have hKc := hK
          refine vp_callSi (va_Run.run (va_runV (As := [.int 2]) (rest := [.ref (r 1), .int z40_1]) ⟨hx, hb, hml, hown, hg⟩ (c_Model_scalar l dC dI N cB cI o_Model r I F (2 : Int32) z41_1 hc41) (cwV 1 hg (gd_V k804 k805 k806 k707 k803) rfl rfl rfl (by decide +kernel) ⟨Nat.le_of_ble_eq_true rfl, Nat.le_of_ble_eq_true rfl⟩) ⟨dz_blindR, va_recv hKc hPc (ci := 10) (q0 := 0) rfl rfl, fun U hU hW => ⟨rfl, dz_Nw hW hN, by rw [hU]; exact hPc, va_K.moved hW.alike hKc⟩⟩ rfl rfl hl.1 rfl (lv_room (Nat.le_of_ble_eq_true rfl)) d_Model_strings_215 ⟨Nat.le_of_ble_eq_true rfl, Nat.le_of_ble_eq_true rfl⟩)) (fun r41 hw => ?_)
          have hw : z41_1 = r41 := hw.symm
          subst hw
          obtain ⟨i42, h⟩ := dz_oi h
          refine va_iald (D := (dC, dI)) (f := F 1) hx hb hK hP 2 1 rfl rfl i42 d_Model_strings_218 ?_
          refine lv_icmp_lt (tgt := 231) hx hb d_Model_strings_219 (by decide) (fun c43 => ?_) (fun c43 => ?_)
          · rw [if_pos c43] at h
            refine lv_aload_n hx hb d_Model_strings_231 rfl (lv_at hl 0 rfl) ?_
            refine lv_iconst (v := 2) hx hb d_Model_strings_232 (by decide) ?_
            refine lv_aload_n hx hb d_Model_strings_233 rfl (lv_at hl 0 rfl) ?_
            refine lv_iconst (v := 2) hx hb d_Model_strings_234 (by decide) ?_
            refine lv_iconst (v := 0) hx hb d_Model_strings_235 (by decide) ?_
            refine lv_aload_n hx hb d_Model_strings_236 rfl (lv_at hl 0 rfl) ?_
            refine lv_aload_n hx hb d_Model_strings_237 rfl (lv_at hl 0 rfl) ?_
            refine lv_iconst (v := 2) hx hb d_Model_strings_238 (by decide) ?_
            obtain ⟨z44_1, hc44, h⟩ := dz_ob h
            try dsimp only at h
            have hPc := hP
            have hKc := hK
            refine vp_callSi (va_Run.run (va_runV (As := [.int 2]) (rest := [.ref o_Model, .int 0, .int 2, .ref o_Model, .int 2, .ref o_Model]) ⟨hx, hb, hml, hown, hg⟩ (c_Model_scalar l dC dI N cB cI o_Model r I F (2 : Int32) z44_1 hc44) (cwV 1 hg (gd_V k804 k805 k806 k707 k803) rfl rfl rfl (by decide +kernel) ⟨Nat.le_of_ble_eq_true rfl, Nat.le_of_ble_eq_true rfl⟩) ⟨dz_blindR, va_recv hKc hPc (ci := 10) (q0 := 0) rfl rfl, fun U hU hW => ⟨rfl, dz_Nw hW hN, by rw [hU]; exact hPc, va_K.moved hW.alike hKc⟩⟩ rfl rfl hl.1 rfl (lv_room (Nat.le_of_ble_eq_true rfl)) d_Model_strings_239 ⟨Nat.le_of_ble_eq_true rfl, Nat.le_of_ble_eq_true rfl⟩)) (fun r44 hw => ?_)
            have hw : z44_1 = r44 := hw.symm
            subst hw
            refine lv_aload_n hx hb d_Model_strings_242 rfl (lv_at hl 0 rfl) ?_
            refine lv_iconst (v := 1) hx hb d_Model_strings_243 (by decide) ?_
            obtain ⟨z45_1, hc45, h⟩ := dz_ob h
            try dsimp only at h
            have hPc := hP
            have hKc := hK
            refine vp_callSi (va_Run.run (va_runV (As := [.int 1]) (rest := [.int z44_1, .ref o_Model, .int 0, .int 2, .ref o_Model, .int 2, .ref o_Model]) ⟨hx, hb, hml, hown, hg⟩ (c_Model_scalar l dC dI N cB cI o_Model r I F (1 : Int32) z45_1 hc45) (cwV 1 hg (gd_V k804 k805 k806 k707 k803) rfl rfl rfl (by decide +kernel) ⟨Nat.le_of_ble_eq_true rfl, Nat.le_of_ble_eq_true rfl⟩) ⟨dz_blindR, va_recv hKc hPc (ci := 10) (q0 := 0) rfl rfl, fun U hU hW => ⟨rfl, dz_Nw hW hN, by rw [hU]; exact hPc, va_K.moved hW.alike hKc⟩⟩ rfl rfl hl.1 rfl (lv_room (Nat.le_of_ble_eq_true rfl)) d_Model_strings_244 ⟨Nat.le_of_ble_eq_true rfl, Nat.le_of_ble_eq_true rfl⟩)) (fun r45 hw => ?_)
            have hw : z45_1 = r45 := hw.symm
            subst hw
            obtain ⟨z46_1, hc46, h⟩ := dz_ob h
            try dsimp only at h
            have hPc := hP
            have hKc := hK
            refine vp_callSi (va_Run.run (va_runV (As := [.int z44_1, .int z45_1]) (rest := [.int 0, .int 2, .ref o_Model, .int 2, .ref o_Model]) ⟨hx, hb, hml, hown, hg⟩ (c_Model_byteAt l dC dI N cB cI o_Model r I F z44_1 z45_1 z46_1 hc46) (cwV 2 hg (gd_V k842 k843 k844 k707 k841) rfl rfl rfl (by decide +kernel) ⟨Nat.le_of_ble_eq_true rfl, Nat.le_of_ble_eq_true rfl⟩) ⟨dz_blindR, va_recv hKc hPc (ci := 10) (q0 := 0) rfl rfl, fun U hU hW => ⟨rfl, dz_Nw hW hN, by rw [hU]; exact hPc, va_K.moved hW.alike hKc⟩⟩ rfl rfl hl.1 rfl (lv_room (Nat.le_of_ble_eq_true rfl)) d_Model_strings_247 ⟨Nat.le_of_ble_eq_true rfl, Nat.le_of_ble_eq_true rfl⟩)) (fun r46 hw => ?_)
            have hw : z46_1 = r46 := hw.symm
            subst hw
            obtain ⟨⟨z47_1, z47_2, z47_3⟩, hc47, h⟩ := dz_ob h
            try dsimp only at h
            have hPc := hP
            have hKc := hK
            have hDc := hD
            have hFc := dz_freeall hD hS hA
            refine va_calli (va_runV (As := [.int 2, .int 0, .int z46_1]) (rest := [.int 2, .ref o_Model]) ⟨hx, hb, hml, hown, hg⟩ (c_Model_give l dC dI N cB cI o_Model r I F (2 : Int32) (0 : Int32) z46_1 s.heap.size (z47_1, z47_2, z47_3) hc47) (cwV 3 hg (gd_V k734 k735 k736 k707 k733) rfl rfl rfl (by decide +kernel) ⟨Nat.le_of_ble_eq_true rfl, Nat.le_of_ble_eq_true rfl⟩) ⟨dz_blind, va_recv hKc hPc (ci := 10) (q0 := 0) rfl rfl, fun U hU hW => ⟨rfl, dz_Nw hW hN, by rw [hU], by rw [hU]; exact hPc, va_K.moved hW.alike hKc, hDc.weaken (fun _ _ _ _ => trivial)⟩⟩ rfl rfl hl.1 rfl (lv_room (Nat.le_of_ble_eq_true rfl)) d_Model_strings_250 ⟨Nat.le_of_ble_eq_true rfl, Nat.le_of_ble_eq_true rfl⟩) hS (fun q _ h => hFc q h) hFc (fun r47 u47 t47 H1 locs ht hvm hw hB hz1 hk1 hS => ?_)
            obtain ⟨hP1, hK1, hD1⟩ := hB
            rw [ht] at hP1
            have hP := hP1
            have hD := hD1.weaken (fun _ q _ h => hFc q.1 h)
            have hw : z47_1 = r47 := hw.symm
            subst hw
            generalize H1 = H at hP hS ⊢
            have hP : va_P (dC, dI) classes (wD cB cI o_Model r z47_3 z47_2) H := hP
            have hD : va_D A (wD cB cI o_Model r z47_3 z47_2) := hD
            obtain ⟨⟨z48_1, z48_2⟩, hc48, h⟩ := dz_ob h
            try dsimp only at h
            have hPc := hP
            have hKc := hK
            have hDc := hD
            have hFc := dz_freeall hD hS hA
            refine va_calli (va_runV (As := [.int 2, .int z47_1]) (rest := []) ⟨hx, hb, hml, hown, hg⟩ (c_Model_next l dC dI N cB cI o_Model r z47_3 z47_2 (2 : Int32) z47_1 H.size (z48_1, z48_2) hc48) (cwV 2 hg (gd_V k871 k872 k873 k707 k870) rfl rfl rfl (by decide +kernel) ⟨Nat.le_of_ble_eq_true rfl, Nat.le_of_ble_eq_true rfl⟩) ⟨dz_blind, va_recv hKc hPc (ci := 10) (q0 := 0) rfl rfl, fun U hU hW => ⟨rfl, dz_Nw hW hN, by rw [hU], by rw [hU]; exact hPc, va_K.moved hW.alike hKc, hDc.weaken (fun _ _ _ _ => trivial)⟩⟩ rfl rfl hl.1 rfl (lv_room (Nat.le_of_ble_eq_true rfl)) d_Model_strings_253 ⟨Nat.le_of_ble_eq_true rfl, Nat.le_of_ble_eq_true rfl⟩) hS (fun q _ h => hFc q h) hFc (fun r48 u48 t48 H1 locs ht hvm hw hB hz1 hk1 hS => ?_)
            obtain ⟨hP1, hK1, hD1⟩ := hB
            rw [ht] at hP1
            have hP := hP1
            have hD := hD1.weaken (fun _ q _ h => hFc q.1 h)
            have hw : z48_1 = r48 := hw.symm
            subst hw
            generalize H1 = H at hP hS ⊢
            have hP : va_P (dC, dI) classes (wD cB cI o_Model r z48_2 z47_2) H := hP
            have hD : va_D A (wD cB cI o_Model r z48_2 z47_2) := hD
            obtain rfl := Option.some.inj h
            have hP9 := hP
            have hD9 := hD
            have hK9 := hK
            exact W.iret (v := z48_1) hx hb hr (fun t ht hW => ⟨⟨z48_1, (), rfl, rfl, by rw [ht]; exact hP9, va_K.moved hW.alike hK9, hD9⟩, hS.F ht⟩) hS.2.2 d_Model_strings_256
          · rw [if_neg c43] at h
            refine lv_aload_n hx hb d_Model_strings_222 rfl (lv_at hl 0 rfl) ?_
            refine lv_iconst (v := 2) hx hb d_Model_strings_223 (by decide) ?_
            refine lv_iconst (v := 4) hx hb d_Model_strings_224 (by decide) ?_
            obtain ⟨⟨z49_1, z49_2, z49_3⟩, hc49, h⟩ := dz_ob h
            try dsimp only at h
            have hPc := hP
            have hKc := hK
            have hDc := hD
            have hFc := dz_freeall hD hS hA
            refine va_calli (va_runV (As := [.int 2, .int 4]) (rest := []) ⟨hx, hb, hml, hown, hg⟩ (c_Model_raiseGlobal l dC dI N cB cI o_Model r I F (2 : Int32) (4 : Int32) s.heap.size (z49_1, z49_2, z49_3) hc49) (cwV 2 hg (gd_V k875 k876 k877 k707 k874) rfl rfl rfl (by decide +kernel) ⟨Nat.le_of_ble_eq_true rfl, Nat.le_of_ble_eq_true rfl⟩) ⟨dz_blind, va_recv hKc hPc (ci := 10) (q0 := 0) rfl rfl, fun U hU hW => ⟨rfl, dz_Nw hW hN, by rw [hU], by rw [hU]; exact hPc, va_K.moved hW.alike hKc, hDc.weaken (fun _ _ _ _ => trivial)⟩⟩ rfl rfl hl.1 rfl (lv_room (Nat.le_of_ble_eq_true rfl)) d_Model_strings_225 ⟨Nat.le_of_ble_eq_true rfl, Nat.le_of_ble_eq_true rfl⟩) hS (fun q _ h => hFc q h) hFc (fun r49 u49 t49 H1 locs ht hvm hw hB hz1 hk1 hS => ?_)
            obtain ⟨hP1, hK1, hD1⟩ := hB
            rw [ht] at hP1
            have hP := hP1
            have hD := hD1.weaken (fun _ q _ h => hFc q.1 h)
            have hw : z49_1 = r49 := hw.symm
            subst hw
            generalize H1 = H at hP hS ⊢
            have hP : va_P (dC, dI) classes (wD cB cI o_Model r z49_3 z49_2) H := hP
            have hD : va_D A (wD cB cI o_Model r z49_3 z49_2) := hD
            refine lv_goto (tgt := 256) hx hb d_Model_strings_228 (by decide) ?_
            obtain rfl := Option.some.inj h
            have hP9 := hP
            have hD9 := hD
            have hK9 := hK
            exact W.iret (v := z49_1) hx hb hr (fun t ht hW => ⟨⟨z49_1, (), rfl, rfl, by rw [ht]; exact hP9, va_K.moved hW.alike hK9, hD9⟩, hS.F ht⟩) hS.2.2 d_Model_strings_256
      · rw [if_pos c36] at h
        refine lv_iconst (v := 4) hx hb d_Model_strings_194 (by decide) ?_
        obtain rfl := Option.some.inj h
        have hP9 := hP
        have hD9 := hD
        have hK9 := hK
        exact W.iret (v := 4) hx hb hr (fun t ht hW => ⟨⟨4, (), rfl, rfl, by rw [ht]; exact hP9, va_K.moved hW.alike hK9, hD9⟩, hS.F ht⟩) hS.2.2 d_Model_strings_195
  rw [if_neg s1_31] at h
  by_cases s1_32 : p0 = 32
  · rw [if_pos s1_32] at h
    refine lv_tableIn (off := 309) (tgt := 310) hx hb d_Model_strings_1 (by rw [s1_32]; decide) (by rw [s1_32]; decide) (by rw [s1_32]; decide) (by decide) ?_
    refine lv_aload_n hx hb d_Model_strings_310 rfl (lv_at hl 0 rfl) ?_
    refine lv_iconst (v := 2) hx hb d_Model_strings_311 (by decide) ?_
    refine lv_aload_n hx hb d_Model_strings_312 rfl (lv_at hl 0 rfl) ?_
    refine lv_iconst (v := 1) hx hb d_Model_strings_313 (by decide) ?_
    refine lv_bipush (v := 6) hx hb d_Model_strings_314 (by decide) ?_
    obtain ⟨z50_1, hc50, h⟩ := dz_ob h
    try dsimp only at h
    have hPc := hP
    have hKc := hK
    refine vp_callSi (va_Run.run (va_runV (As := [.int 1, .int 6]) (rest := [.int 2, .ref o_Model]) ⟨hx, hb, hml, hown, hg⟩ (c_Model_is l dC dI N cB cI o_Model r I F (1 : Int32) (6 : Int32) z50_1 hc50) (cwV 2 hg (gd_V k808 k809 k810 k707 k807) rfl rfl rfl (by decide +kernel) ⟨Nat.le_of_ble_eq_true rfl, Nat.le_of_ble_eq_true rfl⟩) ⟨dz_blindR, va_recv hKc hPc (ci := 10) (q0 := 0) rfl rfl, fun U hU hW => ⟨rfl, dz_Nw hW hN, by rw [hU]; exact hPc, va_K.moved hW.alike hKc⟩⟩ rfl rfl hl.1 rfl (lv_room (Nat.le_of_ble_eq_true rfl)) d_Model_strings_316 ⟨Nat.le_of_ble_eq_true rfl, Nat.le_of_ble_eq_true rfl⟩)) (fun r50 hw => ?_)
    obtain ⟨hw, hbz50⟩ := hw
    have hw : z50_1 = r50 := hw.symm
    subst hw
    refine lv_if_eq (tgt := 359) hx hb d_Model_strings_319 (by decide) (fun c51 => ?_) (fun c51 => ?_)
    · rw [if_pos c51] at h
      refine lv_iconst (v := 4) hx hb d_Model_strings_359 (by decide) ?_
      obtain ⟨⟨z52_1, z52_2⟩, hc52, h⟩ := dz_ob h
      try dsimp only at h
      have hPc := hP
      have hKc := hK
      have hDc := hD
      have hFc := dz_freeall hD hS hA
      refine va_calli (va_runV (As := [.int 2, .int 4]) (rest := []) ⟨hx, hb, hml, hown, hg⟩ (c_Model_next l dC dI N cB cI o_Model r I F (2 : Int32) (4 : Int32) s.heap.size (z52_1, z52_2) hc52) (cwV 2 hg (gd_V k871 k872 k873 k707 k870) rfl rfl rfl (by decide +kernel) ⟨Nat.le_of_ble_eq_true rfl, Nat.le_of_ble_eq_true rfl⟩) ⟨dz_blind, va_recv hKc hPc (ci := 10) (q0 := 0) rfl rfl, fun U hU hW => ⟨rfl, dz_Nw hW hN, by rw [hU], by rw [hU]; exact hPc, va_K.moved hW.alike hKc, hDc.weaken (fun _ _ _ _ => trivial)⟩⟩ rfl rfl hl.1 rfl (lv_room (Nat.le_of_ble_eq_true rfl)) d_Model_strings_360 ⟨Nat.le_of_ble_eq_true rfl, Nat.le_of_ble_eq_true rfl⟩) hS (fun q _ h => hFc q h) hFc (fun r52 u52 t52 H1 locs ht hvm hw hB hz1 hk1 hS => ?_)
      obtain ⟨hP1, hK1, hD1⟩ := hB
      rw [ht] at hP1
      have hP := hP1
      have hD := hD1.weaken (fun _ q _ h => hFc q.1 h)
      have hw : z52_1 = r52 := hw.symm
      subst hw
      generalize H1 = H at hP hS ⊢
      have hP : va_P (dC, dI) classes (wD cB cI o_Model r z52_2 F) H := hP
      have hD : va_D A (wD cB cI o_Model r z52_2 F) := hD
      obtain rfl := Option.some.inj h
      have hP9 := hP
      have hD9 := hD
      have hK9 := hK
      exact W.iret (v := z52_1) hx hb hr (fun t ht hW => ⟨⟨z52_1, (), rfl, rfl, by rw [ht]; exact hP9, va_K.moved hW.alike hK9, hD9⟩, hS.F ht⟩) hS.2.2 d_Model_strings_363
    · rw [if_neg c51] at h
      refine lv_aload_n hx hb d_Model_strings_322 rfl (lv_at hl 0 rfl) ?_
      refine lv_iconst (v := 2) hx hb d_Model_strings_323 (by decide) ?_
      refine lv_bipush (v := 6) hx hb d_Model_strings_324 (by decide) ?_
      obtain ⟨z53_1, hc53, h⟩ := dz_ob h
      try dsimp only at h
      have hPc := hP
      have hKc := hK
      refine vp_callSi (va_Run.run (va_runV (As := [.int 2, .int 6]) (rest := [.int 2, .ref o_Model]) ⟨hx, hb, hml, hown, hg⟩ (c_Model_is l dC dI N cB cI o_Model r I F (2 : Int32) (6 : Int32) z53_1 hc53) (cwV 2 hg (gd_V k808 k809 k810 k707 k807) rfl rfl rfl (by decide +kernel) ⟨Nat.le_of_ble_eq_true rfl, Nat.le_of_ble_eq_true rfl⟩) ⟨dz_blindR, va_recv hKc hPc (ci := 10) (q0 := 0) rfl rfl, fun U hU hW => ⟨rfl, dz_Nw hW hN, by rw [hU]; exact hPc, va_K.moved hW.alike hKc⟩⟩ rfl rfl hl.1 rfl (lv_room (Nat.le_of_ble_eq_true rfl)) d_Model_strings_326 ⟨Nat.le_of_ble_eq_true rfl, Nat.le_of_ble_eq_true rfl⟩)) (fun r53 hw => ?_)
      obtain ⟨hw, hbz53⟩ := hw
      have hw : z53_1 = r53 := hw.symm
      subst hw
      refine lv_if_eq (tgt := 359) hx hb d_Model_strings_329 (by decide) (fun c54 => ?_) (fun c54 => ?_)
      · rw [if_pos c54] at h
        refine lv_iconst (v := 4) hx hb d_Model_strings_359 (by decide) ?_
        obtain ⟨⟨z55_1, z55_2⟩, hc55, h⟩ := dz_ob h
        try dsimp only at h
        have hPc := hP
        have hKc := hK
        have hDc := hD
        have hFc := dz_freeall hD hS hA
        refine va_calli (va_runV (As := [.int 2, .int 4]) (rest := []) ⟨hx, hb, hml, hown, hg⟩ (c_Model_next l dC dI N cB cI o_Model r I F (2 : Int32) (4 : Int32) s.heap.size (z55_1, z55_2) hc55) (cwV 2 hg (gd_V k871 k872 k873 k707 k870) rfl rfl rfl (by decide +kernel) ⟨Nat.le_of_ble_eq_true rfl, Nat.le_of_ble_eq_true rfl⟩) ⟨dz_blind, va_recv hKc hPc (ci := 10) (q0 := 0) rfl rfl, fun U hU hW => ⟨rfl, dz_Nw hW hN, by rw [hU], by rw [hU]; exact hPc, va_K.moved hW.alike hKc, hDc.weaken (fun _ _ _ _ => trivial)⟩⟩ rfl rfl hl.1 rfl (lv_room (Nat.le_of_ble_eq_true rfl)) d_Model_strings_360 ⟨Nat.le_of_ble_eq_true rfl, Nat.le_of_ble_eq_true rfl⟩) hS (fun q _ h => hFc q h) hFc (fun r55 u55 t55 H1 locs ht hvm hw hB hz1 hk1 hS => ?_)
        obtain ⟨hP1, hK1, hD1⟩ := hB
        rw [ht] at hP1
        have hP := hP1
        have hD := hD1.weaken (fun _ q _ h => hFc q.1 h)
        have hw : z55_1 = r55 := hw.symm
        subst hw
        generalize H1 = H at hP hS ⊢
        have hP : va_P (dC, dI) classes (wD cB cI o_Model r z55_2 F) H := hP
        have hD : va_D A (wD cB cI o_Model r z55_2 F) := hD
        obtain rfl := Option.some.inj h
        have hP9 := hP
        have hD9 := hD
        have hK9 := hK
        exact W.iret (v := z55_1) hx hb hr (fun t ht hW => ⟨⟨z55_1, (), rfl, rfl, by rw [ht]; exact hP9, va_K.moved hW.alike hK9, hD9⟩, hS.F ht⟩) hS.2.2 d_Model_strings_363
      · rw [if_neg c54] at h
        refine lv_aload_n hx hb d_Model_strings_332 rfl (lv_at hl 0 rfl) ?_
        refine lv_iconst (v := 2) hx hb d_Model_strings_333 (by decide) ?_
        refine lv_iconst (v := 0) hx hb d_Model_strings_334 (by decide) ?_
        refine lv_iload_n hx hb d_Model_strings_335 rfl (lv_at hl 1 rfl) ?_
        refine lv_aload_n hx hb d_Model_strings_336 rfl (lv_at hl 0 rfl) ?_
        refine lv_aload_n hx hb d_Model_strings_337 rfl (lv_at hl 0 rfl) ?_
        refine lv_iconst (v := 2) hx hb d_Model_strings_338 (by decide) ?_
        obtain ⟨z56_1, hc56, h⟩ := dz_ob h
        try dsimp only at h
        have hPc := hP
        have hKc := hK
        refine vp_callSi (va_Run.run (va_runV (As := [.int 2]) (rest := [.ref o_Model, .int p0, .int 0, .int 2, .ref o_Model, .int 2, .ref o_Model]) ⟨hx, hb, hml, hown, hg⟩ (c_Model_scalar l dC dI N cB cI o_Model r I F (2 : Int32) z56_1 hc56) (cwV 1 hg (gd_V k804 k805 k806 k707 k803) rfl rfl rfl (by decide +kernel) ⟨Nat.le_of_ble_eq_true rfl, Nat.le_of_ble_eq_true rfl⟩) ⟨dz_blindR, va_recv hKc hPc (ci := 10) (q0 := 0) rfl rfl, fun U hU hW => ⟨rfl, dz_Nw hW hN, by rw [hU]; exact hPc, va_K.moved hW.alike hKc⟩⟩ rfl rfl hl.1 rfl (lv_room (Nat.le_of_ble_eq_true rfl)) d_Model_strings_339 ⟨Nat.le_of_ble_eq_true rfl, Nat.le_of_ble_eq_true rfl⟩)) (fun r56 hw => ?_)
        have hw : z56_1 = r56 := hw.symm
        subst hw
        refine lv_aload_n hx hb d_Model_strings_342 rfl (lv_at hl 0 rfl) ?_
        refine lv_iconst (v := 1) hx hb d_Model_strings_343 (by decide) ?_
        obtain ⟨z57_1, hc57, h⟩ := dz_ob h
        try dsimp only at h
        have hPc := hP
        have hKc := hK
        refine vp_callSi (va_Run.run (va_runV (As := [.int 1]) (rest := [.int z56_1, .ref o_Model, .int p0, .int 0, .int 2, .ref o_Model, .int 2, .ref o_Model]) ⟨hx, hb, hml, hown, hg⟩ (c_Model_scalar l dC dI N cB cI o_Model r I F (1 : Int32) z57_1 hc57) (cwV 1 hg (gd_V k804 k805 k806 k707 k803) rfl rfl rfl (by decide +kernel) ⟨Nat.le_of_ble_eq_true rfl, Nat.le_of_ble_eq_true rfl⟩) ⟨dz_blindR, va_recv hKc hPc (ci := 10) (q0 := 0) rfl rfl, fun U hU hW => ⟨rfl, dz_Nw hW hN, by rw [hU]; exact hPc, va_K.moved hW.alike hKc⟩⟩ rfl rfl hl.1 rfl (lv_room (Nat.le_of_ble_eq_true rfl)) d_Model_strings_344 ⟨Nat.le_of_ble_eq_true rfl, Nat.le_of_ble_eq_true rfl⟩)) (fun r57 hw => ?_)
        have hw : z57_1 = r57 := hw.symm
        subst hw
        obtain ⟨z58_1, hc58, h⟩ := dz_ob h
        try dsimp only at h
        have hPc := hP
        have hKc := hK
        refine vp_callSi (va_Run.run (va_runV (As := [.int z56_1, .int z57_1]) (rest := [.int p0, .int 0, .int 2, .ref o_Model, .int 2, .ref o_Model]) ⟨hx, hb, hml, hown, hg⟩ (c_Model_compare l dC dI N cB cI o_Model r I F z56_1 z57_1 z58_1 hc58) (cwV 2 hg (gd_V k858 k859 k860 k707 k857) rfl rfl rfl (by decide +kernel) ⟨Nat.le_of_ble_eq_true rfl, Nat.le_of_ble_eq_true rfl⟩) ⟨dz_blindR, va_recv hKc hPc (ci := 10) (q0 := 0) rfl rfl, fun U hU hW => ⟨rfl, dz_Nw hW hN, by rw [hU]; exact hPc, va_K.moved hW.alike hKc⟩⟩ rfl rfl hl.1 rfl (lv_room (Nat.le_of_ble_eq_true rfl)) d_Model_strings_347 ⟨Nat.le_of_ble_eq_true rfl, Nat.le_of_ble_eq_true rfl⟩)) (fun r58 hw => ?_)
        have hw : z58_1 = r58 := hw.symm
        subst hw
        obtain ⟨z59_1, hc59, h⟩ := dz_ob h
        try dsimp only at h
        have hPc := hP.sub (ws' := []) [] rfl
        have hKc := hK.sub (tys' := []) [] rfl
        refine vp_callSi (va_Run.run (va_runS (As := [.int p0, .int z58_1]) (rest := [.int 0, .int 2, .ref o_Model, .int 2, .ref o_Model]) ⟨hx, hb, hml, hown, hg⟩ (c_Model_ordered l dC dI N p0 z58_1 z59_1 hc59) (va_cwS 2 hg (gd_S k911 k912 k707 k910) rfl rfl rfl (by decide +kernel) ⟨Nat.le_of_ble_eq_true rfl, Nat.le_of_ble_eq_true rfl⟩) ⟨dz_blindR, fun U hU hW => ⟨rfl, dz_Nw hW hN, by rw [hU]; exact hPc, va_K.moved hW.alike hKc⟩⟩ rfl rfl hl.1 rfl (lv_room (Nat.le_of_ble_eq_true rfl)) d_Model_strings_350 ⟨Nat.le_of_ble_eq_true rfl, Nat.le_of_ble_eq_true rfl⟩)) (fun r59 hw => ?_)
        have hw : z59_1 = r59 := hw.symm
        subst hw
        obtain ⟨⟨z60_1, z60_2, z60_3⟩, hc60, h⟩ := dz_ob h
        try dsimp only at h
        have hPc := hP
        have hKc := hK
        have hDc := hD
        have hFc := dz_freeall hD hS hA
        refine va_calli (va_runV (As := [.int 2, .int 0, .int z59_1]) (rest := [.int 2, .ref o_Model]) ⟨hx, hb, hml, hown, hg⟩ (c_Model_give l dC dI N cB cI o_Model r I F (2 : Int32) (0 : Int32) z59_1 s.heap.size (z60_1, z60_2, z60_3) hc60) (cwV 3 hg (gd_V k734 k735 k736 k707 k733) rfl rfl rfl (by decide +kernel) ⟨Nat.le_of_ble_eq_true rfl, Nat.le_of_ble_eq_true rfl⟩) ⟨dz_blind, va_recv hKc hPc (ci := 10) (q0 := 0) rfl rfl, fun U hU hW => ⟨rfl, dz_Nw hW hN, by rw [hU], by rw [hU]; exact hPc, va_K.moved hW.alike hKc, hDc.weaken (fun _ _ _ _ => trivial)⟩⟩ rfl rfl hl.1 rfl (lv_room (Nat.le_of_ble_eq_true rfl)) d_Model_strings_353 ⟨Nat.le_of_ble_eq_true rfl, Nat.le_of_ble_eq_true rfl⟩) hS (fun q _ h => hFc q h) hFc (fun r60 u60 t60 H1 locs ht hvm hw hB hz1 hk1 hS => ?_)
        obtain ⟨hP1, hK1, hD1⟩ := hB
        rw [ht] at hP1
        have hP := hP1
        have hD := hD1.weaken (fun _ q _ h => hFc q.1 h)
        have hw : z60_1 = r60 := hw.symm
        subst hw
        generalize H1 = H at hP hS ⊢
        have hP : va_P (dC, dI) classes (wD cB cI o_Model r z60_3 z60_2) H := hP
        have hD : va_D A (wD cB cI o_Model r z60_3 z60_2) := hD
        refine lv_goto (tgt := 360) hx hb d_Model_strings_356 (by decide) ?_
        obtain ⟨⟨z61_1, z61_2⟩, hc61, h⟩ := dz_ob h
        try dsimp only at h
        have hPc := hP
        have hKc := hK
        have hDc := hD
        have hFc := dz_freeall hD hS hA
        refine va_calli (va_runV (As := [.int 2, .int z60_1]) (rest := []) ⟨hx, hb, hml, hown, hg⟩ (c_Model_next l dC dI N cB cI o_Model r z60_3 z60_2 (2 : Int32) z60_1 H.size (z61_1, z61_2) hc61) (cwV 2 hg (gd_V k871 k872 k873 k707 k870) rfl rfl rfl (by decide +kernel) ⟨Nat.le_of_ble_eq_true rfl, Nat.le_of_ble_eq_true rfl⟩) ⟨dz_blind, va_recv hKc hPc (ci := 10) (q0 := 0) rfl rfl, fun U hU hW => ⟨rfl, dz_Nw hW hN, by rw [hU], by rw [hU]; exact hPc, va_K.moved hW.alike hKc, hDc.weaken (fun _ _ _ _ => trivial)⟩⟩ rfl rfl hl.1 rfl (lv_room (Nat.le_of_ble_eq_true rfl)) d_Model_strings_360 ⟨Nat.le_of_ble_eq_true rfl, Nat.le_of_ble_eq_true rfl⟩) hS (fun q _ h => hFc q h) hFc (fun r61 u61 t61 H1 locs ht hvm hw hB hz1 hk1 hS => ?_)
        obtain ⟨hP1, hK1, hD1⟩ := hB
        rw [ht] at hP1
        have hP := hP1
        have hD := hD1.weaken (fun _ q _ h => hFc q.1 h)
        have hw : z61_1 = r61 := hw.symm
        subst hw
        generalize H1 = H at hP hS ⊢
        have hP : va_P (dC, dI) classes (wD cB cI o_Model r z61_2 z60_2) H := hP
        have hD : va_D A (wD cB cI o_Model r z61_2 z60_2) := hD
        obtain rfl := Option.some.inj h
        have hP9 := hP
        have hD9 := hD
        have hK9 := hK
        exact W.iret (v := z61_1) hx hb hr (fun t ht hW => ⟨⟨z61_1, (), rfl, rfl, by rw [ht]; exact hP9, va_K.moved hW.alike hK9, hD9⟩, hS.F ht⟩) hS.2.2 d_Model_strings_363
  rw [if_neg s1_32] at h
  by_cases s1_33 : p0 = 33
  · rw [if_pos s1_33] at h
    refine lv_tableIn (off := 309) (tgt := 310) hx hb d_Model_strings_1 (by rw [s1_33]; decide) (by rw [s1_33]; decide) (by rw [s1_33]; decide) (by decide) ?_
    refine lv_aload_n hx hb d_Model_strings_310 rfl (lv_at hl 0 rfl) ?_
    refine lv_iconst (v := 2) hx hb d_Model_strings_311 (by decide) ?_
    refine lv_aload_n hx hb d_Model_strings_312 rfl (lv_at hl 0 rfl) ?_
    refine lv_iconst (v := 1) hx hb d_Model_strings_313 (by decide) ?_
    refine lv_bipush (v := 6) hx hb d_Model_strings_314 (by decide) ?_
    obtain ⟨z62_1, hc62, h⟩ := dz_ob h
    try dsimp only at h
    have hPc := hP
    have hKc := hK
    refine vp_callSi (va_Run.run (va_runV (As := [.int 1, .int 6]) (rest := [.int 2, .ref o_Model]) ⟨hx, hb, hml, hown, hg⟩ (c_Model_is l dC dI N cB cI o_Model r I F (1 : Int32) (6 : Int32) z62_1 hc62) (cwV 2 hg (gd_V k808 k809 k810 k707 k807) rfl rfl rfl (by decide +kernel) ⟨Nat.le_of_ble_eq_true rfl, Nat.le_of_ble_eq_true rfl⟩) ⟨dz_blindR, va_recv hKc hPc (ci := 10) (q0 := 0) rfl rfl, fun U hU hW => ⟨rfl, dz_Nw hW hN, by rw [hU]; exact hPc, va_K.moved hW.alike hKc⟩⟩ rfl rfl hl.1 rfl (lv_room (Nat.le_of_ble_eq_true rfl)) d_Model_strings_316 ⟨Nat.le_of_ble_eq_true rfl, Nat.le_of_ble_eq_true rfl⟩)) (fun r62 hw => ?_)
    obtain ⟨hw, hbz62⟩ := hw
    have hw : z62_1 = r62 := hw.symm
    subst hw
    refine lv_if_eq (tgt := 359) hx hb d_Model_strings_319 (by decide) (fun c63 => ?_) (fun c63 => ?_)
    · rw [if_pos c63] at h
      refine lv_iconst (v := 4) hx hb d_Model_strings_359 (by decide) ?_
      obtain ⟨⟨z64_1, z64_2⟩, hc64, h⟩ := dz_ob h
      try dsimp only at h
      have hPc := hP
      have hKc := hK
      have hDc := hD
      have hFc := dz_freeall hD hS hA
      refine va_calli (va_runV (As := [.int 2, .int 4]) (rest := []) ⟨hx, hb, hml, hown, hg⟩ (c_Model_next l dC dI N cB cI o_Model r I F (2 : Int32) (4 : Int32) s.heap.size (z64_1, z64_2) hc64) (cwV 2 hg (gd_V k871 k872 k873 k707 k870) rfl rfl rfl (by decide +kernel) ⟨Nat.le_of_ble_eq_true rfl, Nat.le_of_ble_eq_true rfl⟩) ⟨dz_blind, va_recv hKc hPc (ci := 10) (q0 := 0) rfl rfl, fun U hU hW => ⟨rfl, dz_Nw hW hN, by rw [hU], by rw [hU]; exact hPc, va_K.moved hW.alike hKc, hDc.weaken (fun _ _ _ _ => trivial)⟩⟩ rfl rfl hl.1 rfl (lv_room (Nat.le_of_ble_eq_true rfl)) d_Model_strings_360 ⟨Nat.le_of_ble_eq_true rfl, Nat.le_of_ble_eq_true rfl⟩) hS (fun q _ h => hFc q h) hFc (fun r64 u64 t64 H1 locs ht hvm hw hB hz1 hk1 hS => ?_)
      obtain ⟨hP1, hK1, hD1⟩ := hB
      rw [ht] at hP1
      have hP := hP1
      have hD := hD1.weaken (fun _ q _ h => hFc q.1 h)
      have hw : z64_1 = r64 := hw.symm
      subst hw
      generalize H1 = H at hP hS ⊢
      have hP : va_P (dC, dI) classes (wD cB cI o_Model r z64_2 F) H := hP
      have hD : va_D A (wD cB cI o_Model r z64_2 F) := hD
      obtain rfl := Option.some.inj h
      have hP9 := hP
      have hD9 := hD
      have hK9 := hK
      exact W.iret (v := z64_1) hx hb hr (fun t ht hW => ⟨⟨z64_1, (), rfl, rfl, by rw [ht]; exact hP9, va_K.moved hW.alike hK9, hD9⟩, hS.F ht⟩) hS.2.2 d_Model_strings_363
    · rw [if_neg c63] at h
      refine lv_aload_n hx hb d_Model_strings_322 rfl (lv_at hl 0 rfl) ?_
      refine lv_iconst (v := 2) hx hb d_Model_strings_323 (by decide) ?_
      refine lv_bipush (v := 6) hx hb d_Model_strings_324 (by decide) ?_
      obtain ⟨z65_1, hc65, h⟩ := dz_ob h
      try dsimp only at h
      have hPc := hP
      have hKc := hK
      refine vp_callSi (va_Run.run (va_runV (As := [.int 2, .int 6]) (rest := [.int 2, .ref o_Model]) ⟨hx, hb, hml, hown, hg⟩ (c_Model_is l dC dI N cB cI o_Model r I F (2 : Int32) (6 : Int32) z65_1 hc65) (cwV 2 hg (gd_V k808 k809 k810 k707 k807) rfl rfl rfl (by decide +kernel) ⟨Nat.le_of_ble_eq_true rfl, Nat.le_of_ble_eq_true rfl⟩) ⟨dz_blindR, va_recv hKc hPc (ci := 10) (q0 := 0) rfl rfl, fun U hU hW => ⟨rfl, dz_Nw hW hN, by rw [hU]; exact hPc, va_K.moved hW.alike hKc⟩⟩ rfl rfl hl.1 rfl (lv_room (Nat.le_of_ble_eq_true rfl)) d_Model_strings_326 ⟨Nat.le_of_ble_eq_true rfl, Nat.le_of_ble_eq_true rfl⟩)) (fun r65 hw => ?_)
      obtain ⟨hw, hbz65⟩ := hw
      have hw : z65_1 = r65 := hw.symm
      subst hw
      refine lv_if_eq (tgt := 359) hx hb d_Model_strings_329 (by decide) (fun c66 => ?_) (fun c66 => ?_)
      · rw [if_pos c66] at h
        refine lv_iconst (v := 4) hx hb d_Model_strings_359 (by decide) ?_
        obtain ⟨⟨z67_1, z67_2⟩, hc67, h⟩ := dz_ob h
        try dsimp only at h
        have hPc := hP
        have hKc := hK
        have hDc := hD
        have hFc := dz_freeall hD hS hA
        refine va_calli (va_runV (As := [.int 2, .int 4]) (rest := []) ⟨hx, hb, hml, hown, hg⟩ (c_Model_next l dC dI N cB cI o_Model r I F (2 : Int32) (4 : Int32) s.heap.size (z67_1, z67_2) hc67) (cwV 2 hg (gd_V k871 k872 k873 k707 k870) rfl rfl rfl (by decide +kernel) ⟨Nat.le_of_ble_eq_true rfl, Nat.le_of_ble_eq_true rfl⟩) ⟨dz_blind, va_recv hKc hPc (ci := 10) (q0 := 0) rfl rfl, fun U hU hW => ⟨rfl, dz_Nw hW hN, by rw [hU], by rw [hU]; exact hPc, va_K.moved hW.alike hKc, hDc.weaken (fun _ _ _ _ => trivial)⟩⟩ rfl rfl hl.1 rfl (lv_room (Nat.le_of_ble_eq_true rfl)) d_Model_strings_360 ⟨Nat.le_of_ble_eq_true rfl, Nat.le_of_ble_eq_true rfl⟩) hS (fun q _ h => hFc q h) hFc (fun r67 u67 t67 H1 locs ht hvm hw hB hz1 hk1 hS => ?_)
        obtain ⟨hP1, hK1, hD1⟩ := hB
        rw [ht] at hP1
        have hP := hP1
        have hD := hD1.weaken (fun _ q _ h => hFc q.1 h)
        have hw : z67_1 = r67 := hw.symm
        subst hw
        generalize H1 = H at hP hS ⊢
        have hP : va_P (dC, dI) classes (wD cB cI o_Model r z67_2 F) H := hP
        have hD : va_D A (wD cB cI o_Model r z67_2 F) := hD
        obtain rfl := Option.some.inj h
        have hP9 := hP
        have hD9 := hD
        have hK9 := hK
        exact W.iret (v := z67_1) hx hb hr (fun t ht hW => ⟨⟨z67_1, (), rfl, rfl, by rw [ht]; exact hP9, va_K.moved hW.alike hK9, hD9⟩, hS.F ht⟩) hS.2.2 d_Model_strings_363
      · rw [if_neg c66] at h
        refine lv_aload_n hx hb d_Model_strings_332 rfl (lv_at hl 0 rfl) ?_
        refine lv_iconst (v := 2) hx hb d_Model_strings_333 (by decide) ?_
        refine lv_iconst (v := 0) hx hb d_Model_strings_334 (by decide) ?_
        refine lv_iload_n hx hb d_Model_strings_335 rfl (lv_at hl 1 rfl) ?_
        refine lv_aload_n hx hb d_Model_strings_336 rfl (lv_at hl 0 rfl) ?_
        refine lv_aload_n hx hb d_Model_strings_337 rfl (lv_at hl 0 rfl) ?_
        refine lv_iconst (v := 2) hx hb d_Model_strings_338 (by decide) ?_
        obtain ⟨z68_1, hc68, h⟩ := dz_ob h
        try dsimp only at h
        have hPc := hP
        have hKc := hK
        refine vp_callSi (va_Run.run (va_runV (As := [.int 2]) (rest := [.ref o_Model, .int p0, .int 0, .int 2, .ref o_Model, .int 2, .ref o_Model]) ⟨hx, hb, hml, hown, hg⟩ (c_Model_scalar l dC dI N cB cI o_Model r I F (2 : Int32) z68_1 hc68) (cwV 1 hg (gd_V k804 k805 k806 k707 k803) rfl rfl rfl (by decide +kernel) ⟨Nat.le_of_ble_eq_true rfl, Nat.le_of_ble_eq_true rfl⟩) ⟨dz_blindR, va_recv hKc hPc (ci := 10) (q0 := 0) rfl rfl, fun U hU hW => ⟨rfl, dz_Nw hW hN, by rw [hU]; exact hPc, va_K.moved hW.alike hKc⟩⟩ rfl rfl hl.1 rfl (lv_room (Nat.le_of_ble_eq_true rfl)) d_Model_strings_339 ⟨Nat.le_of_ble_eq_true rfl, Nat.le_of_ble_eq_true rfl⟩)) (fun r68 hw => ?_)
        have hw : z68_1 = r68 := hw.symm
        subst hw
        refine lv_aload_n hx hb d_Model_strings_342 rfl (lv_at hl 0 rfl) ?_
        refine lv_iconst (v := 1) hx hb d_Model_strings_343 (by decide) ?_
        obtain ⟨z69_1, hc69, h⟩ := dz_ob h
        try dsimp only at h
        have hPc := hP
        have hKc := hK
        refine vp_callSi (va_Run.run (va_runV (As := [.int 1]) (rest := [.int z68_1, .ref o_Model, .int p0, .int 0, .int 2, .ref o_Model, .int 2, .ref o_Model]) ⟨hx, hb, hml, hown, hg⟩ (c_Model_scalar l dC dI N cB cI o_Model r I F (1 : Int32) z69_1 hc69) (cwV 1 hg (gd_V k804 k805 k806 k707 k803) rfl rfl rfl (by decide +kernel) ⟨Nat.le_of_ble_eq_true rfl, Nat.le_of_ble_eq_true rfl⟩) ⟨dz_blindR, va_recv hKc hPc (ci := 10) (q0 := 0) rfl rfl, fun U hU hW => ⟨rfl, dz_Nw hW hN, by rw [hU]; exact hPc, va_K.moved hW.alike hKc⟩⟩ rfl rfl hl.1 rfl (lv_room (Nat.le_of_ble_eq_true rfl)) d_Model_strings_344 ⟨Nat.le_of_ble_eq_true rfl, Nat.le_of_ble_eq_true rfl⟩)) (fun r69 hw => ?_)
        have hw : z69_1 = r69 := hw.symm
        subst hw
        obtain ⟨z70_1, hc70, h⟩ := dz_ob h
        try dsimp only at h
        have hPc := hP
        have hKc := hK
        refine vp_callSi (va_Run.run (va_runV (As := [.int z68_1, .int z69_1]) (rest := [.int p0, .int 0, .int 2, .ref o_Model, .int 2, .ref o_Model]) ⟨hx, hb, hml, hown, hg⟩ (c_Model_compare l dC dI N cB cI o_Model r I F z68_1 z69_1 z70_1 hc70) (cwV 2 hg (gd_V k858 k859 k860 k707 k857) rfl rfl rfl (by decide +kernel) ⟨Nat.le_of_ble_eq_true rfl, Nat.le_of_ble_eq_true rfl⟩) ⟨dz_blindR, va_recv hKc hPc (ci := 10) (q0 := 0) rfl rfl, fun U hU hW => ⟨rfl, dz_Nw hW hN, by rw [hU]; exact hPc, va_K.moved hW.alike hKc⟩⟩ rfl rfl hl.1 rfl (lv_room (Nat.le_of_ble_eq_true rfl)) d_Model_strings_347 ⟨Nat.le_of_ble_eq_true rfl, Nat.le_of_ble_eq_true rfl⟩)) (fun r70 hw => ?_)
        have hw : z70_1 = r70 := hw.symm
        subst hw
        obtain ⟨z71_1, hc71, h⟩ := dz_ob h
        try dsimp only at h
        have hPc := hP.sub (ws' := []) [] rfl
        have hKc := hK.sub (tys' := []) [] rfl
        refine vp_callSi (va_Run.run (va_runS (As := [.int p0, .int z70_1]) (rest := [.int 0, .int 2, .ref o_Model, .int 2, .ref o_Model]) ⟨hx, hb, hml, hown, hg⟩ (c_Model_ordered l dC dI N p0 z70_1 z71_1 hc71) (va_cwS 2 hg (gd_S k911 k912 k707 k910) rfl rfl rfl (by decide +kernel) ⟨Nat.le_of_ble_eq_true rfl, Nat.le_of_ble_eq_true rfl⟩) ⟨dz_blindR, fun U hU hW => ⟨rfl, dz_Nw hW hN, by rw [hU]; exact hPc, va_K.moved hW.alike hKc⟩⟩ rfl rfl hl.1 rfl (lv_room (Nat.le_of_ble_eq_true rfl)) d_Model_strings_350 ⟨Nat.le_of_ble_eq_true rfl, Nat.le_of_ble_eq_true rfl⟩)) (fun r71 hw => ?_)
        have hw : z71_1 = r71 := hw.symm
        subst hw
        obtain ⟨⟨z72_1, z72_2, z72_3⟩, hc72, h⟩ := dz_ob h
        try dsimp only at h
        have hPc := hP
        have hKc := hK
        have hDc := hD
        have hFc := dz_freeall hD hS hA
        refine va_calli (va_runV (As := [.int 2, .int 0, .int z71_1]) (rest := [.int 2, .ref o_Model]) ⟨hx, hb, hml, hown, hg⟩ (c_Model_give l dC dI N cB cI o_Model r I F (2 : Int32) (0 : Int32) z71_1 s.heap.size (z72_1, z72_2, z72_3) hc72) (cwV 3 hg (gd_V k734 k735 k736 k707 k733) rfl rfl rfl (by decide +kernel) ⟨Nat.le_of_ble_eq_true rfl, Nat.le_of_ble_eq_true rfl⟩) ⟨dz_blind, va_recv hKc hPc (ci := 10) (q0 := 0) rfl rfl, fun U hU hW => ⟨rfl, dz_Nw hW hN, by rw [hU], by rw [hU]; exact hPc, va_K.moved hW.alike hKc, hDc.weaken (fun _ _ _ _ => trivial)⟩⟩ rfl rfl hl.1 rfl (lv_room (Nat.le_of_ble_eq_true rfl)) d_Model_strings_353 ⟨Nat.le_of_ble_eq_true rfl, Nat.le_of_ble_eq_true rfl⟩) hS (fun q _ h => hFc q h) hFc (fun r72 u72 t72 H1 locs ht hvm hw hB hz1 hk1 hS => ?_)
        obtain ⟨hP1, hK1, hD1⟩ := hB
        rw [ht] at hP1
        have hP := hP1
        have hD := hD1.weaken (fun _ q _ h => hFc q.1 h)
        have hw : z72_1 = r72 := hw.symm
        subst hw
        generalize H1 = H at hP hS ⊢
        have hP : va_P (dC, dI) classes (wD cB cI o_Model r z72_3 z72_2) H := hP
        have hD : va_D A (wD cB cI o_Model r z72_3 z72_2) := hD
        refine lv_goto (tgt := 360) hx hb d_Model_strings_356 (by decide) ?_
        obtain ⟨⟨z73_1, z73_2⟩, hc73, h⟩ := dz_ob h
        try dsimp only at h
        have hPc := hP
        have hKc := hK
        have hDc := hD
        have hFc := dz_freeall hD hS hA
        refine va_calli (va_runV (As := [.int 2, .int z72_1]) (rest := []) ⟨hx, hb, hml, hown, hg⟩ (c_Model_next l dC dI N cB cI o_Model r z72_3 z72_2 (2 : Int32) z72_1 H.size (z73_1, z73_2) hc73) (cwV 2 hg (gd_V k871 k872 k873 k707 k870) rfl rfl rfl (by decide +kernel) ⟨Nat.le_of_ble_eq_true rfl, Nat.le_of_ble_eq_true rfl⟩) ⟨dz_blind, va_recv hKc hPc (ci := 10) (q0 := 0) rfl rfl, fun U hU hW => ⟨rfl, dz_Nw hW hN, by rw [hU], by rw [hU]; exact hPc, va_K.moved hW.alike hKc, hDc.weaken (fun _ _ _ _ => trivial)⟩⟩ rfl rfl hl.1 rfl (lv_room (Nat.le_of_ble_eq_true rfl)) d_Model_strings_360 ⟨Nat.le_of_ble_eq_true rfl, Nat.le_of_ble_eq_true rfl⟩) hS (fun q _ h => hFc q h) hFc (fun r73 u73 t73 H1 locs ht hvm hw hB hz1 hk1 hS => ?_)
        obtain ⟨hP1, hK1, hD1⟩ := hB
        rw [ht] at hP1
        have hP := hP1
        have hD := hD1.weaken (fun _ q _ h => hFc q.1 h)
        have hw : z73_1 = r73 := hw.symm
        subst hw
        generalize H1 = H at hP hS ⊢
        have hP : va_P (dC, dI) classes (wD cB cI o_Model r z73_2 z72_2) H := hP
        have hD : va_D A (wD cB cI o_Model r z73_2 z72_2) := hD
        obtain rfl := Option.some.inj h
        have hP9 := hP
        have hD9 := hD
        have hK9 := hK
        exact W.iret (v := z73_1) hx hb hr (fun t ht hW => ⟨⟨z73_1, (), rfl, rfl, by rw [ht]; exact hP9, va_K.moved hW.alike hK9, hD9⟩, hS.F ht⟩) hS.2.2 d_Model_strings_363
  rw [if_neg s1_33] at h
  by_cases s1_34 : p0 = 34
  · rw [if_pos s1_34] at h
    refine lv_tableIn (off := 309) (tgt := 310) hx hb d_Model_strings_1 (by rw [s1_34]; decide) (by rw [s1_34]; decide) (by rw [s1_34]; decide) (by decide) ?_
    refine lv_aload_n hx hb d_Model_strings_310 rfl (lv_at hl 0 rfl) ?_
    refine lv_iconst (v := 2) hx hb d_Model_strings_311 (by decide) ?_
    refine lv_aload_n hx hb d_Model_strings_312 rfl (lv_at hl 0 rfl) ?_
    refine lv_iconst (v := 1) hx hb d_Model_strings_313 (by decide) ?_
    refine lv_bipush (v := 6) hx hb d_Model_strings_314 (by decide) ?_
    obtain ⟨z74_1, hc74, h⟩ := dz_ob h
    try dsimp only at h
    have hPc := hP
    have hKc := hK
    refine vp_callSi (va_Run.run (va_runV (As := [.int 1, .int 6]) (rest := [.int 2, .ref o_Model]) ⟨hx, hb, hml, hown, hg⟩ (c_Model_is l dC dI N cB cI o_Model r I F (1 : Int32) (6 : Int32) z74_1 hc74) (cwV 2 hg (gd_V k808 k809 k810 k707 k807) rfl rfl rfl (by decide +kernel) ⟨Nat.le_of_ble_eq_true rfl, Nat.le_of_ble_eq_true rfl⟩) ⟨dz_blindR, va_recv hKc hPc (ci := 10) (q0 := 0) rfl rfl, fun U hU hW => ⟨rfl, dz_Nw hW hN, by rw [hU]; exact hPc, va_K.moved hW.alike hKc⟩⟩ rfl rfl hl.1 rfl (lv_room (Nat.le_of_ble_eq_true rfl)) d_Model_strings_316 ⟨Nat.le_of_ble_eq_true rfl, Nat.le_of_ble_eq_true rfl⟩)) (fun r74 hw => ?_)
    obtain ⟨hw, hbz74⟩ := hw
    have hw : z74_1 = r74 := hw.symm
    subst hw
    refine lv_if_eq (tgt := 359) hx hb d_Model_strings_319 (by decide) (fun c75 => ?_) (fun c75 => ?_)
    · rw [if_pos c75] at h
      refine lv_iconst (v := 4) hx hb d_Model_strings_359 (by decide) ?_
      obtain ⟨⟨z76_1, z76_2⟩, hc76, h⟩ := dz_ob h
      try dsimp only at h
      have hPc := hP
      have hKc := hK
      have hDc := hD
      have hFc := dz_freeall hD hS hA
      refine va_calli (va_runV (As := [.int 2, .int 4]) (rest := []) ⟨hx, hb, hml, hown, hg⟩ (c_Model_next l dC dI N cB cI o_Model r I F (2 : Int32) (4 : Int32) s.heap.size (z76_1, z76_2) hc76) (cwV 2 hg (gd_V k871 k872 k873 k707 k870) rfl rfl rfl (by decide +kernel) ⟨Nat.le_of_ble_eq_true rfl, Nat.le_of_ble_eq_true rfl⟩) ⟨dz_blind, va_recv hKc hPc (ci := 10) (q0 := 0) rfl rfl, fun U hU hW => ⟨rfl, dz_Nw hW hN, by rw [hU], by rw [hU]; exact hPc, va_K.moved hW.alike hKc, hDc.weaken (fun _ _ _ _ => trivial)⟩⟩ rfl rfl hl.1 rfl (lv_room (Nat.le_of_ble_eq_true rfl)) d_Model_strings_360 ⟨Nat.le_of_ble_eq_true rfl, Nat.le_of_ble_eq_true rfl⟩) hS (fun q _ h => hFc q h) hFc (fun r76 u76 t76 H1 locs ht hvm hw hB hz1 hk1 hS => ?_)
      obtain ⟨hP1, hK1, hD1⟩ := hB
      rw [ht] at hP1
      have hP := hP1
      have hD := hD1.weaken (fun _ q _ h => hFc q.1 h)
      have hw : z76_1 = r76 := hw.symm
      subst hw
      generalize H1 = H at hP hS ⊢
      have hP : va_P (dC, dI) classes (wD cB cI o_Model r z76_2 F) H := hP
      have hD : va_D A (wD cB cI o_Model r z76_2 F) := hD
      obtain rfl := Option.some.inj h
      have hP9 := hP
      have hD9 := hD
      have hK9 := hK
      exact W.iret (v := z76_1) hx hb hr (fun t ht hW => ⟨⟨z76_1, (), rfl, rfl, by rw [ht]; exact hP9, va_K.moved hW.alike hK9, hD9⟩, hS.F ht⟩) hS.2.2 d_Model_strings_363
    · rw [if_neg c75] at h
      refine lv_aload_n hx hb d_Model_strings_322 rfl (lv_at hl 0 rfl) ?_
      refine lv_iconst (v := 2) hx hb d_Model_strings_323 (by decide) ?_
      refine lv_bipush (v := 6) hx hb d_Model_strings_324 (by decide) ?_
      obtain ⟨z77_1, hc77, h⟩ := dz_ob h
      try dsimp only at h
      have hPc := hP
      have hKc := hK
      refine vp_callSi (va_Run.run (va_runV (As := [.int 2, .int 6]) (rest := [.int 2, .ref o_Model]) ⟨hx, hb, hml, hown, hg⟩ (c_Model_is l dC dI N cB cI o_Model r I F (2 : Int32) (6 : Int32) z77_1 hc77) (cwV 2 hg (gd_V k808 k809 k810 k707 k807) rfl rfl rfl (by decide +kernel) ⟨Nat.le_of_ble_eq_true rfl, Nat.le_of_ble_eq_true rfl⟩) ⟨dz_blindR, va_recv hKc hPc (ci := 10) (q0 := 0) rfl rfl, fun U hU hW => ⟨rfl, dz_Nw hW hN, by rw [hU]; exact hPc, va_K.moved hW.alike hKc⟩⟩ rfl rfl hl.1 rfl (lv_room (Nat.le_of_ble_eq_true rfl)) d_Model_strings_326 ⟨Nat.le_of_ble_eq_true rfl, Nat.le_of_ble_eq_true rfl⟩)) (fun r77 hw => ?_)
      obtain ⟨hw, hbz77⟩ := hw
      have hw : z77_1 = r77 := hw.symm
      subst hw
      refine lv_if_eq (tgt := 359) hx hb d_Model_strings_329 (by decide) (fun c78 => ?_) (fun c78 => ?_)
      · rw [if_pos c78] at h
        refine lv_iconst (v := 4) hx hb d_Model_strings_359 (by decide) ?_
        obtain ⟨⟨z79_1, z79_2⟩, hc79, h⟩ := dz_ob h
        try dsimp only at h
        have hPc := hP
        have hKc := hK
        have hDc := hD
        have hFc := dz_freeall hD hS hA
        refine va_calli (va_runV (As := [.int 2, .int 4]) (rest := []) ⟨hx, hb, hml, hown, hg⟩ (c_Model_next l dC dI N cB cI o_Model r I F (2 : Int32) (4 : Int32) s.heap.size (z79_1, z79_2) hc79) (cwV 2 hg (gd_V k871 k872 k873 k707 k870) rfl rfl rfl (by decide +kernel) ⟨Nat.le_of_ble_eq_true rfl, Nat.le_of_ble_eq_true rfl⟩) ⟨dz_blind, va_recv hKc hPc (ci := 10) (q0 := 0) rfl rfl, fun U hU hW => ⟨rfl, dz_Nw hW hN, by rw [hU], by rw [hU]; exact hPc, va_K.moved hW.alike hKc, hDc.weaken (fun _ _ _ _ => trivial)⟩⟩ rfl rfl hl.1 rfl (lv_room (Nat.le_of_ble_eq_true rfl)) d_Model_strings_360 ⟨Nat.le_of_ble_eq_true rfl, Nat.le_of_ble_eq_true rfl⟩) hS (fun q _ h => hFc q h) hFc (fun r79 u79 t79 H1 locs ht hvm hw hB hz1 hk1 hS => ?_)
        obtain ⟨hP1, hK1, hD1⟩ := hB
        rw [ht] at hP1
        have hP := hP1
        have hD := hD1.weaken (fun _ q _ h => hFc q.1 h)
        have hw : z79_1 = r79 := hw.symm
        subst hw
        generalize H1 = H at hP hS ⊢
        have hP : va_P (dC, dI) classes (wD cB cI o_Model r z79_2 F) H := hP
        have hD : va_D A (wD cB cI o_Model r z79_2 F) := hD
        obtain rfl := Option.some.inj h
        have hP9 := hP
        have hD9 := hD
        have hK9 := hK
        exact W.iret (v := z79_1) hx hb hr (fun t ht hW => ⟨⟨z79_1, (), rfl, rfl, by rw [ht]; exact hP9, va_K.moved hW.alike hK9, hD9⟩, hS.F ht⟩) hS.2.2 d_Model_strings_363
      · rw [if_neg c78] at h
        refine lv_aload_n hx hb d_Model_strings_332 rfl (lv_at hl 0 rfl) ?_
        refine lv_iconst (v := 2) hx hb d_Model_strings_333 (by decide) ?_
        refine lv_iconst (v := 0) hx hb d_Model_strings_334 (by decide) ?_
        refine lv_iload_n hx hb d_Model_strings_335 rfl (lv_at hl 1 rfl) ?_
        refine lv_aload_n hx hb d_Model_strings_336 rfl (lv_at hl 0 rfl) ?_
        refine lv_aload_n hx hb d_Model_strings_337 rfl (lv_at hl 0 rfl) ?_
        refine lv_iconst (v := 2) hx hb d_Model_strings_338 (by decide) ?_
        obtain ⟨z80_1, hc80, h⟩ := dz_ob h
        try dsimp only at h
        have hPc := hP
        have hKc := hK
        refine vp_callSi (va_Run.run (va_runV (As := [.int 2]) (rest := [.ref o_Model, .int p0, .int 0, .int 2, .ref o_Model, .int 2, .ref o_Model]) ⟨hx, hb, hml, hown, hg⟩ (c_Model_scalar l dC dI N cB cI o_Model r I F (2 : Int32) z80_1 hc80) (cwV 1 hg (gd_V k804 k805 k806 k707 k803) rfl rfl rfl (by decide +kernel) ⟨Nat.le_of_ble_eq_true rfl, Nat.le_of_ble_eq_true rfl⟩) ⟨dz_blindR, va_recv hKc hPc (ci := 10) (q0 := 0) rfl rfl, fun U hU hW => ⟨rfl, dz_Nw hW hN, by rw [hU]; exact hPc, va_K.moved hW.alike hKc⟩⟩ rfl rfl hl.1 rfl (lv_room (Nat.le_of_ble_eq_true rfl)) d_Model_strings_339 ⟨Nat.le_of_ble_eq_true rfl, Nat.le_of_ble_eq_true rfl⟩)) (fun r80 hw => ?_)
        have hw : z80_1 = r80 := hw.symm
        subst hw
        refine lv_aload_n hx hb d_Model_strings_342 rfl (lv_at hl 0 rfl) ?_
        refine lv_iconst (v := 1) hx hb d_Model_strings_343 (by decide) ?_
        obtain ⟨z81_1, hc81, h⟩ := dz_ob h
        try dsimp only at h
        have hPc := hP
        have hKc := hK
        refine vp_callSi (va_Run.run (va_runV (As := [.int 1]) (rest := [.int z80_1, .ref o_Model, .int p0, .int 0, .int 2, .ref o_Model, .int 2, .ref o_Model]) ⟨hx, hb, hml, hown, hg⟩ (c_Model_scalar l dC dI N cB cI o_Model r I F (1 : Int32) z81_1 hc81) (cwV 1 hg (gd_V k804 k805 k806 k707 k803) rfl rfl rfl (by decide +kernel) ⟨Nat.le_of_ble_eq_true rfl, Nat.le_of_ble_eq_true rfl⟩) ⟨dz_blindR, va_recv hKc hPc (ci := 10) (q0 := 0) rfl rfl, fun U hU hW => ⟨rfl, dz_Nw hW hN, by rw [hU]; exact hPc, va_K.moved hW.alike hKc⟩⟩ rfl rfl hl.1 rfl (lv_room (Nat.le_of_ble_eq_true rfl)) d_Model_strings_344 ⟨Nat.le_of_ble_eq_true rfl, Nat.le_of_ble_eq_true rfl⟩)) (fun r81 hw => ?_)
        have hw : z81_1 = r81 := hw.symm
        subst hw
        obtain ⟨z82_1, hc82, h⟩ := dz_ob h
        try dsimp only at h
        have hPc := hP
        have hKc := hK
        refine vp_callSi (va_Run.run (va_runV (As := [.int z80_1, .int z81_1]) (rest := [.int p0, .int 0, .int 2, .ref o_Model, .int 2, .ref o_Model]) ⟨hx, hb, hml, hown, hg⟩ (c_Model_compare l dC dI N cB cI o_Model r I F z80_1 z81_1 z82_1 hc82) (cwV 2 hg (gd_V k858 k859 k860 k707 k857) rfl rfl rfl (by decide +kernel) ⟨Nat.le_of_ble_eq_true rfl, Nat.le_of_ble_eq_true rfl⟩) ⟨dz_blindR, va_recv hKc hPc (ci := 10) (q0 := 0) rfl rfl, fun U hU hW => ⟨rfl, dz_Nw hW hN, by rw [hU]; exact hPc, va_K.moved hW.alike hKc⟩⟩ rfl rfl hl.1 rfl (lv_room (Nat.le_of_ble_eq_true rfl)) d_Model_strings_347 ⟨Nat.le_of_ble_eq_true rfl, Nat.le_of_ble_eq_true rfl⟩)) (fun r82 hw => ?_)
        have hw : z82_1 = r82 := hw.symm
        subst hw
        obtain ⟨z83_1, hc83, h⟩ := dz_ob h
        try dsimp only at h
        have hPc := hP.sub (ws' := []) [] rfl
        have hKc := hK.sub (tys' := []) [] rfl
        refine vp_callSi (va_Run.run (va_runS (As := [.int p0, .int z82_1]) (rest := [.int 0, .int 2, .ref o_Model, .int 2, .ref o_Model]) ⟨hx, hb, hml, hown, hg⟩ (c_Model_ordered l dC dI N p0 z82_1 z83_1 hc83) (va_cwS 2 hg (gd_S k911 k912 k707 k910) rfl rfl rfl (by decide +kernel) ⟨Nat.le_of_ble_eq_true rfl, Nat.le_of_ble_eq_true rfl⟩) ⟨dz_blindR, fun U hU hW => ⟨rfl, dz_Nw hW hN, by rw [hU]; exact hPc, va_K.moved hW.alike hKc⟩⟩ rfl rfl hl.1 rfl (lv_room (Nat.le_of_ble_eq_true rfl)) d_Model_strings_350 ⟨Nat.le_of_ble_eq_true rfl, Nat.le_of_ble_eq_true rfl⟩)) (fun r83 hw => ?_)
        have hw : z83_1 = r83 := hw.symm
        subst hw
        obtain ⟨⟨z84_1, z84_2, z84_3⟩, hc84, h⟩ := dz_ob h
        try dsimp only at h
        have hPc := hP
        have hKc := hK
        have hDc := hD
        have hFc := dz_freeall hD hS hA
        refine va_calli (va_runV (As := [.int 2, .int 0, .int z83_1]) (rest := [.int 2, .ref o_Model]) ⟨hx, hb, hml, hown, hg⟩ (c_Model_give l dC dI N cB cI o_Model r I F (2 : Int32) (0 : Int32) z83_1 s.heap.size (z84_1, z84_2, z84_3) hc84) (cwV 3 hg (gd_V k734 k735 k736 k707 k733) rfl rfl rfl (by decide +kernel) ⟨Nat.le_of_ble_eq_true rfl, Nat.le_of_ble_eq_true rfl⟩) ⟨dz_blind, va_recv hKc hPc (ci := 10) (q0 := 0) rfl rfl, fun U hU hW => ⟨rfl, dz_Nw hW hN, by rw [hU], by rw [hU]; exact hPc, va_K.moved hW.alike hKc, hDc.weaken (fun _ _ _ _ => trivial)⟩⟩ rfl rfl hl.1 rfl (lv_room (Nat.le_of_ble_eq_true rfl)) d_Model_strings_353 ⟨Nat.le_of_ble_eq_true rfl, Nat.le_of_ble_eq_true rfl⟩) hS (fun q _ h => hFc q h) hFc (fun r84 u84 t84 H1 locs ht hvm hw hB hz1 hk1 hS => ?_)
        obtain ⟨hP1, hK1, hD1⟩ := hB
        rw [ht] at hP1
        have hP := hP1
        have hD := hD1.weaken (fun _ q _ h => hFc q.1 h)
        have hw : z84_1 = r84 := hw.symm
        subst hw
        generalize H1 = H at hP hS ⊢
        have hP : va_P (dC, dI) classes (wD cB cI o_Model r z84_3 z84_2) H := hP
        have hD : va_D A (wD cB cI o_Model r z84_3 z84_2) := hD
        refine lv_goto (tgt := 360) hx hb d_Model_strings_356 (by decide) ?_
        obtain ⟨⟨z85_1, z85_2⟩, hc85, h⟩ := dz_ob h
        try dsimp only at h
        have hPc := hP
        have hKc := hK
        have hDc := hD
        have hFc := dz_freeall hD hS hA
        refine va_calli (va_runV (As := [.int 2, .int z84_1]) (rest := []) ⟨hx, hb, hml, hown, hg⟩ (c_Model_next l dC dI N cB cI o_Model r z84_3 z84_2 (2 : Int32) z84_1 H.size (z85_1, z85_2) hc85) (cwV 2 hg (gd_V k871 k872 k873 k707 k870) rfl rfl rfl (by decide +kernel) ⟨Nat.le_of_ble_eq_true rfl, Nat.le_of_ble_eq_true rfl⟩) ⟨dz_blind, va_recv hKc hPc (ci := 10) (q0 := 0) rfl rfl, fun U hU hW => ⟨rfl, dz_Nw hW hN, by rw [hU], by rw [hU]; exact hPc, va_K.moved hW.alike hKc, hDc.weaken (fun _ _ _ _ => trivial)⟩⟩ rfl rfl hl.1 rfl (lv_room (Nat.le_of_ble_eq_true rfl)) d_Model_strings_360 ⟨Nat.le_of_ble_eq_true rfl, Nat.le_of_ble_eq_true rfl⟩) hS (fun q _ h => hFc q h) hFc (fun r85 u85 t85 H1 locs ht hvm hw hB hz1 hk1 hS => ?_)
        obtain ⟨hP1, hK1, hD1⟩ := hB
        rw [ht] at hP1
        have hP := hP1
        have hD := hD1.weaken (fun _ q _ h => hFc q.1 h)
        have hw : z85_1 = r85 := hw.symm
        subst hw
        generalize H1 = H at hP hS ⊢
        have hP : va_P (dC, dI) classes (wD cB cI o_Model r z85_2 z84_2) H := hP
        have hD : va_D A (wD cB cI o_Model r z85_2 z84_2) := hD
        obtain rfl := Option.some.inj h
        have hP9 := hP
        have hD9 := hD
        have hK9 := hK
        exact W.iret (v := z85_1) hx hb hr (fun t ht hW => ⟨⟨z85_1, (), rfl, rfl, by rw [ht]; exact hP9, va_K.moved hW.alike hK9, hD9⟩, hS.F ht⟩) hS.2.2 d_Model_strings_363
  rw [if_neg s1_34] at h
  by_cases s1_35 : p0 = 35
  · rw [if_pos s1_35] at h
    refine lv_tableIn (off := 309) (tgt := 310) hx hb d_Model_strings_1 (by rw [s1_35]; decide) (by rw [s1_35]; decide) (by rw [s1_35]; decide) (by decide) ?_
    refine lv_aload_n hx hb d_Model_strings_310 rfl (lv_at hl 0 rfl) ?_
    refine lv_iconst (v := 2) hx hb d_Model_strings_311 (by decide) ?_
    refine lv_aload_n hx hb d_Model_strings_312 rfl (lv_at hl 0 rfl) ?_
    refine lv_iconst (v := 1) hx hb d_Model_strings_313 (by decide) ?_
    refine lv_bipush (v := 6) hx hb d_Model_strings_314 (by decide) ?_
    obtain ⟨z86_1, hc86, h⟩ := dz_ob h
    try dsimp only at h
    have hPc := hP
    have hKc := hK
    refine vp_callSi (va_Run.run (va_runV (As := [.int 1, .int 6]) (rest := [.int 2, .ref o_Model]) ⟨hx, hb, hml, hown, hg⟩ (c_Model_is l dC dI N cB cI o_Model r I F (1 : Int32) (6 : Int32) z86_1 hc86) (cwV 2 hg (gd_V k808 k809 k810 k707 k807) rfl rfl rfl (by decide +kernel) ⟨Nat.le_of_ble_eq_true rfl, Nat.le_of_ble_eq_true rfl⟩) ⟨dz_blindR, va_recv hKc hPc (ci := 10) (q0 := 0) rfl rfl, fun U hU hW => ⟨rfl, dz_Nw hW hN, by rw [hU]; exact hPc, va_K.moved hW.alike hKc⟩⟩ rfl rfl hl.1 rfl (lv_room (Nat.le_of_ble_eq_true rfl)) d_Model_strings_316 ⟨Nat.le_of_ble_eq_true rfl, Nat.le_of_ble_eq_true rfl⟩)) (fun r86 hw => ?_)
    obtain ⟨hw, hbz86⟩ := hw
    have hw : z86_1 = r86 := hw.symm
    subst hw
    refine lv_if_eq (tgt := 359) hx hb d_Model_strings_319 (by decide) (fun c87 => ?_) (fun c87 => ?_)
    · rw [if_pos c87] at h
      refine lv_iconst (v := 4) hx hb d_Model_strings_359 (by decide) ?_
      obtain ⟨⟨z88_1, z88_2⟩, hc88, h⟩ := dz_ob h
      try dsimp only at h
      have hPc := hP
      have hKc := hK
      have hDc := hD
      have hFc := dz_freeall hD hS hA
      refine va_calli (va_runV (As := [.int 2, .int 4]) (rest := []) ⟨hx, hb, hml, hown, hg⟩ (c_Model_next l dC dI N cB cI o_Model r I F (2 : Int32) (4 : Int32) s.heap.size (z88_1, z88_2) hc88) (cwV 2 hg (gd_V k871 k872 k873 k707 k870) rfl rfl rfl (by decide +kernel) ⟨Nat.le_of_ble_eq_true rfl, Nat.le_of_ble_eq_true rfl⟩) ⟨dz_blind, va_recv hKc hPc (ci := 10) (q0 := 0) rfl rfl, fun U hU hW => ⟨rfl, dz_Nw hW hN, by rw [hU], by rw [hU]; exact hPc, va_K.moved hW.alike hKc, hDc.weaken (fun _ _ _ _ => trivial)⟩⟩ rfl rfl hl.1 rfl (lv_room (Nat.le_of_ble_eq_true rfl)) d_Model_strings_360 ⟨Nat.le_of_ble_eq_true rfl, Nat.le_of_ble_eq_true rfl⟩) hS (fun q _ h => hFc q h) hFc (fun r88 u88 t88 H1 locs ht hvm hw hB hz1 hk1 hS => ?_)
      obtain ⟨hP1, hK1, hD1⟩ := hB
      rw [ht] at hP1
      have hP := hP1
      have hD := hD1.weaken (fun _ q _ h => hFc q.1 h)
      have hw : z88_1 = r88 := hw.symm
      subst hw
      generalize H1 = H at hP hS ⊢
      have hP : va_P (dC, dI) classes (wD cB cI o_Model r z88_2 F) H := hP
      have hD : va_D A (wD cB cI o_Model r z88_2 F) := hD
      obtain rfl := Option.some.inj h
      have hP9 := hP
      have hD9 := hD
      have hK9 := hK
      exact W.iret (v := z88_1) hx hb hr (fun t ht hW => ⟨⟨z88_1, (), rfl, rfl, by rw [ht]; exact hP9, va_K.moved hW.alike hK9, hD9⟩, hS.F ht⟩) hS.2.2 d_Model_strings_363
    · rw [if_neg c87] at h
      refine lv_aload_n hx hb d_Model_strings_322 rfl (lv_at hl 0 rfl) ?_
      refine lv_iconst (v := 2) hx hb d_Model_strings_323 (by decide) ?_
      refine lv_bipush (v := 6) hx hb d_Model_strings_324 (by decide) ?_
      obtain ⟨z89_1, hc89, h⟩ := dz_ob h
      try dsimp only at h
      have hPc := hP
      have hKc := hK
      refine vp_callSi (va_Run.run (va_runV (As := [.int 2, .int 6]) (rest := [.int 2, .ref o_Model]) ⟨hx, hb, hml, hown, hg⟩ (c_Model_is l dC dI N cB cI o_Model r I F (2 : Int32) (6 : Int32) z89_1 hc89) (cwV 2 hg (gd_V k808 k809 k810 k707 k807) rfl rfl rfl (by decide +kernel) ⟨Nat.le_of_ble_eq_true rfl, Nat.le_of_ble_eq_true rfl⟩) ⟨dz_blindR, va_recv hKc hPc (ci := 10) (q0 := 0) rfl rfl, fun U hU hW => ⟨rfl, dz_Nw hW hN, by rw [hU]; exact hPc, va_K.moved hW.alike hKc⟩⟩ rfl rfl hl.1 rfl (lv_room (Nat.le_of_ble_eq_true rfl)) d_Model_strings_326 ⟨Nat.le_of_ble_eq_true rfl, Nat.le_of_ble_eq_true rfl⟩)) (fun r89 hw => ?_)
      obtain ⟨hw, hbz89⟩ := hw
      have hw : z89_1 = r89 := hw.symm
      subst hw
      refine lv_if_eq (tgt := 359) hx hb d_Model_strings_329 (by decide) (fun c90 => ?_) (fun c90 => ?_)
      · rw [if_pos c90] at h
        refine lv_iconst (v := 4) hx hb d_Model_strings_359 (by decide) ?_
        obtain ⟨⟨z91_1, z91_2⟩, hc91, h⟩ := dz_ob h
        try dsimp only at h
        have hPc := hP
        have hKc := hK
        have hDc := hD
        have hFc := dz_freeall hD hS hA
        refine va_calli (va_runV (As := [.int 2, .int 4]) (rest := []) ⟨hx, hb, hml, hown, hg⟩ (c_Model_next l dC dI N cB cI o_Model r I F (2 : Int32) (4 : Int32) s.heap.size (z91_1, z91_2) hc91) (cwV 2 hg (gd_V k871 k872 k873 k707 k870) rfl rfl rfl (by decide +kernel) ⟨Nat.le_of_ble_eq_true rfl, Nat.le_of_ble_eq_true rfl⟩) ⟨dz_blind, va_recv hKc hPc (ci := 10) (q0 := 0) rfl rfl, fun U hU hW => ⟨rfl, dz_Nw hW hN, by rw [hU], by rw [hU]; exact hPc, va_K.moved hW.alike hKc, hDc.weaken (fun _ _ _ _ => trivial)⟩⟩ rfl rfl hl.1 rfl (lv_room (Nat.le_of_ble_eq_true rfl)) d_Model_strings_360 ⟨Nat.le_of_ble_eq_true rfl, Nat.le_of_ble_eq_true rfl⟩) hS (fun q _ h => hFc q h) hFc (fun r91 u91 t91 H1 locs ht hvm hw hB hz1 hk1 hS => ?_)
        obtain ⟨hP1, hK1, hD1⟩ := hB
        rw [ht] at hP1
        have hP := hP1
        have hD := hD1.weaken (fun _ q _ h => hFc q.1 h)
        have hw : z91_1 = r91 := hw.symm
        subst hw
        generalize H1 = H at hP hS ⊢
        have hP : va_P (dC, dI) classes (wD cB cI o_Model r z91_2 F) H := hP
        have hD : va_D A (wD cB cI o_Model r z91_2 F) := hD
        obtain rfl := Option.some.inj h
        have hP9 := hP
        have hD9 := hD
        have hK9 := hK
        exact W.iret (v := z91_1) hx hb hr (fun t ht hW => ⟨⟨z91_1, (), rfl, rfl, by rw [ht]; exact hP9, va_K.moved hW.alike hK9, hD9⟩, hS.F ht⟩) hS.2.2 d_Model_strings_363
      · rw [if_neg c90] at h
        refine lv_aload_n hx hb d_Model_strings_332 rfl (lv_at hl 0 rfl) ?_
        refine lv_iconst (v := 2) hx hb d_Model_strings_333 (by decide) ?_
        refine lv_iconst (v := 0) hx hb d_Model_strings_334 (by decide) ?_
        refine lv_iload_n hx hb d_Model_strings_335 rfl (lv_at hl 1 rfl) ?_
        refine lv_aload_n hx hb d_Model_strings_336 rfl (lv_at hl 0 rfl) ?_
        refine lv_aload_n hx hb d_Model_strings_337 rfl (lv_at hl 0 rfl) ?_
        refine lv_iconst (v := 2) hx hb d_Model_strings_338 (by decide) ?_
        obtain ⟨z92_1, hc92, h⟩ := dz_ob h
        try dsimp only at h
        have hPc := hP
        have hKc := hK
        refine vp_callSi (va_Run.run (va_runV (As := [.int 2]) (rest := [.ref o_Model, .int p0, .int 0, .int 2, .ref o_Model, .int 2, .ref o_Model]) ⟨hx, hb, hml, hown, hg⟩ (c_Model_scalar l dC dI N cB cI o_Model r I F (2 : Int32) z92_1 hc92) (cwV 1 hg (gd_V k804 k805 k806 k707 k803) rfl rfl rfl (by decide +kernel) ⟨Nat.le_of_ble_eq_true rfl, Nat.le_of_ble_eq_true rfl⟩) ⟨dz_blindR, va_recv hKc hPc (ci := 10) (q0 := 0) rfl rfl, fun U hU hW => ⟨rfl, dz_Nw hW hN, by rw [hU]; exact hPc, va_K.moved hW.alike hKc⟩⟩ rfl rfl hl.1 rfl (lv_room (Nat.le_of_ble_eq_true rfl)) d_Model_strings_339 ⟨Nat.le_of_ble_eq_true rfl, Nat.le_of_ble_eq_true rfl⟩)) (fun r92 hw => ?_)
        have hw : z92_1 = r92 := hw.symm
        subst hw
        refine lv_aload_n hx hb d_Model_strings_342 rfl (lv_at hl 0 rfl) ?_
        refine lv_iconst (v := 1) hx hb d_Model_strings_343 (by decide) ?_
        obtain ⟨z93_1, hc93, h⟩ := dz_ob h
        try dsimp only at h
        have hPc := hP
        have hKc := hK
        refine vp_callSi (va_Run.run (va_runV (As := [.int 1]) (rest := [.int z92_1, .ref o_Model, .int p0, .int 0, .int 2, .ref o_Model, .int 2, .ref o_Model]) ⟨hx, hb, hml, hown, hg⟩ (c_Model_scalar l dC dI N cB cI o_Model r I F (1 : Int32) z93_1 hc93) (cwV 1 hg (gd_V k804 k805 k806 k707 k803) rfl rfl rfl (by decide +kernel) ⟨Nat.le_of_ble_eq_true rfl, Nat.le_of_ble_eq_true rfl⟩) ⟨dz_blindR, va_recv hKc hPc (ci := 10) (q0 := 0) rfl rfl, fun U hU hW => ⟨rfl, dz_Nw hW hN, by rw [hU]; exact hPc, va_K.moved hW.alike hKc⟩⟩ rfl rfl hl.1 rfl (lv_room (Nat.le_of_ble_eq_true rfl)) d_Model_strings_344 ⟨Nat.le_of_ble_eq_true rfl, Nat.le_of_ble_eq_true rfl⟩)) (fun r93 hw => ?_)
        have hw : z93_1 = r93 := hw.symm
        subst hw
        obtain ⟨z94_1, hc94, h⟩ := dz_ob h
        try dsimp only at h
        have hPc := hP
        have hKc := hK
        refine vp_callSi (va_Run.run (va_runV (As := [.int z92_1, .int z93_1]) (rest := [.int p0, .int 0, .int 2, .ref o_Model, .int 2, .ref o_Model]) ⟨hx, hb, hml, hown, hg⟩ (c_Model_compare l dC dI N cB cI o_Model r I F z92_1 z93_1 z94_1 hc94) (cwV 2 hg (gd_V k858 k859 k860 k707 k857) rfl rfl rfl (by decide +kernel) ⟨Nat.le_of_ble_eq_true rfl, Nat.le_of_ble_eq_true rfl⟩) ⟨dz_blindR, va_recv hKc hPc (ci := 10) (q0 := 0) rfl rfl, fun U hU hW => ⟨rfl, dz_Nw hW hN, by rw [hU]; exact hPc, va_K.moved hW.alike hKc⟩⟩ rfl rfl hl.1 rfl (lv_room (Nat.le_of_ble_eq_true rfl)) d_Model_strings_347 ⟨Nat.le_of_ble_eq_true rfl, Nat.le_of_ble_eq_true rfl⟩)) (fun r94 hw => ?_)
        have hw : z94_1 = r94 := hw.symm
        subst hw
        obtain ⟨z95_1, hc95, h⟩ := dz_ob h
        try dsimp only at h
        have hPc := hP.sub (ws' := []) [] rfl
        have hKc := hK.sub (tys' := []) [] rfl
        refine vp_callSi (va_Run.run (va_runS (As := [.int p0, .int z94_1]) (rest := [.int 0, .int 2, .ref o_Model, .int 2, .ref o_Model]) ⟨hx, hb, hml, hown, hg⟩ (c_Model_ordered l dC dI N p0 z94_1 z95_1 hc95) (va_cwS 2 hg (gd_S k911 k912 k707 k910) rfl rfl rfl (by decide +kernel) ⟨Nat.le_of_ble_eq_true rfl, Nat.le_of_ble_eq_true rfl⟩) ⟨dz_blindR, fun U hU hW => ⟨rfl, dz_Nw hW hN, by rw [hU]; exact hPc, va_K.moved hW.alike hKc⟩⟩ rfl rfl hl.1 rfl (lv_room (Nat.le_of_ble_eq_true rfl)) d_Model_strings_350 ⟨Nat.le_of_ble_eq_true rfl, Nat.le_of_ble_eq_true rfl⟩)) (fun r95 hw => ?_)
        have hw : z95_1 = r95 := hw.symm
        subst hw
        obtain ⟨⟨z96_1, z96_2, z96_3⟩, hc96, h⟩ := dz_ob h
        try dsimp only at h
        have hPc := hP
        have hKc := hK
        have hDc := hD
        have hFc := dz_freeall hD hS hA
        refine va_calli (va_runV (As := [.int 2, .int 0, .int z95_1]) (rest := [.int 2, .ref o_Model]) ⟨hx, hb, hml, hown, hg⟩ (c_Model_give l dC dI N cB cI o_Model r I F (2 : Int32) (0 : Int32) z95_1 s.heap.size (z96_1, z96_2, z96_3) hc96) (cwV 3 hg (gd_V k734 k735 k736 k707 k733) rfl rfl rfl (by decide +kernel) ⟨Nat.le_of_ble_eq_true rfl, Nat.le_of_ble_eq_true rfl⟩) ⟨dz_blind, va_recv hKc hPc (ci := 10) (q0 := 0) rfl rfl, fun U hU hW => ⟨rfl, dz_Nw hW hN, by rw [hU], by rw [hU]; exact hPc, va_K.moved hW.alike hKc, hDc.weaken (fun _ _ _ _ => trivial)⟩⟩ rfl rfl hl.1 rfl (lv_room (Nat.le_of_ble_eq_true rfl)) d_Model_strings_353 ⟨Nat.le_of_ble_eq_true rfl, Nat.le_of_ble_eq_true rfl⟩) hS (fun q _ h => hFc q h) hFc (fun r96 u96 t96 H1 locs ht hvm hw hB hz1 hk1 hS => ?_)
        obtain ⟨hP1, hK1, hD1⟩ := hB
        rw [ht] at hP1
        have hP := hP1
        have hD := hD1.weaken (fun _ q _ h => hFc q.1 h)
        have hw : z96_1 = r96 := hw.symm
        subst hw
        generalize H1 = H at hP hS ⊢
        have hP : va_P (dC, dI) classes (wD cB cI o_Model r z96_3 z96_2) H := hP
        have hD : va_D A (wD cB cI o_Model r z96_3 z96_2) := hD
        refine lv_goto (tgt := 360) hx hb d_Model_strings_356 (by decide) ?_
        obtain ⟨⟨z97_1, z97_2⟩, hc97, h⟩ := dz_ob h
        try dsimp only at h
        have hPc := hP
        have hKc := hK
        have hDc := hD
        have hFc := dz_freeall hD hS hA
        refine va_calli (va_runV (As := [.int 2, .int z96_1]) (rest := []) ⟨hx, hb, hml, hown, hg⟩ (c_Model_next l dC dI N cB cI o_Model r z96_3 z96_2 (2 : Int32) z96_1 H.size (z97_1, z97_2) hc97) (cwV 2 hg (gd_V k871 k872 k873 k707 k870) rfl rfl rfl (by decide +kernel) ⟨Nat.le_of_ble_eq_true rfl, Nat.le_of_ble_eq_true rfl⟩) ⟨dz_blind, va_recv hKc hPc (ci := 10) (q0 := 0) rfl rfl, fun U hU hW => ⟨rfl, dz_Nw hW hN, by rw [hU], by rw [hU]; exact hPc, va_K.moved hW.alike hKc, hDc.weaken (fun _ _ _ _ => trivial)⟩⟩ rfl rfl hl.1 rfl (lv_room (Nat.le_of_ble_eq_true rfl)) d_Model_strings_360 ⟨Nat.le_of_ble_eq_true rfl, Nat.le_of_ble_eq_true rfl⟩) hS (fun q _ h => hFc q h) hFc (fun r97 u97 t97 H1 locs ht hvm hw hB hz1 hk1 hS => ?_)
        obtain ⟨hP1, hK1, hD1⟩ := hB
        rw [ht] at hP1
        have hP := hP1
        have hD := hD1.weaken (fun _ q _ h => hFc q.1 h)
        have hw : z97_1 = r97 := hw.symm
        subst hw
        generalize H1 = H at hP hS ⊢
        have hP : va_P (dC, dI) classes (wD cB cI o_Model r z97_2 z96_2) H := hP
        have hD : va_D A (wD cB cI o_Model r z97_2 z96_2) := hD
        obtain rfl := Option.some.inj h
        have hP9 := hP
        have hD9 := hD
        have hK9 := hK
        exact W.iret (v := z97_1) hx hb hr (fun t ht hW => ⟨⟨z97_1, (), rfl, rfl, by rw [ht]; exact hP9, va_K.moved hW.alike hK9, hD9⟩, hS.F ht⟩) hS.2.2 d_Model_strings_363
  rw [if_neg s1_35] at h
  by_cases s1_36 : p0 = 36
  · rw [if_pos s1_36] at h
    refine lv_tableIn (off := 309) (tgt := 310) hx hb d_Model_strings_1 (by rw [s1_36]; decide) (by rw [s1_36]; decide) (by rw [s1_36]; decide) (by decide) ?_
    refine lv_aload_n hx hb d_Model_strings_310 rfl (lv_at hl 0 rfl) ?_
    refine lv_iconst (v := 2) hx hb d_Model_strings_311 (by decide) ?_
    refine lv_aload_n hx hb d_Model_strings_312 rfl (lv_at hl 0 rfl) ?_
    refine lv_iconst (v := 1) hx hb d_Model_strings_313 (by decide) ?_
    refine lv_bipush (v := 6) hx hb d_Model_strings_314 (by decide) ?_
    obtain ⟨z98_1, hc98, h⟩ := dz_ob h
    try dsimp only at h
    have hPc := hP
    have hKc := hK
    refine vp_callSi (va_Run.run (va_runV (As := [.int 1, .int 6]) (rest := [.int 2, .ref o_Model]) ⟨hx, hb, hml, hown, hg⟩ (c_Model_is l dC dI N cB cI o_Model r I F (1 : Int32) (6 : Int32) z98_1 hc98) (cwV 2 hg (gd_V k808 k809 k810 k707 k807) rfl rfl rfl (by decide +kernel) ⟨Nat.le_of_ble_eq_true rfl, Nat.le_of_ble_eq_true rfl⟩) ⟨dz_blindR, va_recv hKc hPc (ci := 10) (q0 := 0) rfl rfl, fun U hU hW => ⟨rfl, dz_Nw hW hN, by rw [hU]; exact hPc, va_K.moved hW.alike hKc⟩⟩ rfl rfl hl.1 rfl (lv_room (Nat.le_of_ble_eq_true rfl)) d_Model_strings_316 ⟨Nat.le_of_ble_eq_true rfl, Nat.le_of_ble_eq_true rfl⟩)) (fun r98 hw => ?_)
    obtain ⟨hw, hbz98⟩ := hw
    have hw : z98_1 = r98 := hw.symm
    subst hw
    refine lv_if_eq (tgt := 359) hx hb d_Model_strings_319 (by decide) (fun c99 => ?_) (fun c99 => ?_)
    · rw [if_pos c99] at h
      refine lv_iconst (v := 4) hx hb d_Model_strings_359 (by decide) ?_
      obtain ⟨⟨z100_1, z100_2⟩, hc100, h⟩ := dz_ob h
      try dsimp only at h
      have hPc := hP
      have hKc := hK
      have hDc := hD
      have hFc := dz_freeall hD hS hA
      refine va_calli (va_runV (As := [.int 2, .int 4]) (rest := []) ⟨hx, hb, hml, hown, hg⟩ (c_Model_next l dC dI N cB cI o_Model r I F (2 : Int32) (4 : Int32) s.heap.size (z100_1, z100_2) hc100) (cwV 2 hg (gd_V k871 k872 k873 k707 k870) rfl rfl rfl (by decide +kernel) ⟨Nat.le_of_ble_eq_true rfl, Nat.le_of_ble_eq_true rfl⟩) ⟨dz_blind, va_recv hKc hPc (ci := 10) (q0 := 0) rfl rfl, fun U hU hW => ⟨rfl, dz_Nw hW hN, by rw [hU], by rw [hU]; exact hPc, va_K.moved hW.alike hKc, hDc.weaken (fun _ _ _ _ => trivial)⟩⟩ rfl rfl hl.1 rfl (lv_room (Nat.le_of_ble_eq_true rfl)) d_Model_strings_360 ⟨Nat.le_of_ble_eq_true rfl, Nat.le_of_ble_eq_true rfl⟩) hS (fun q _ h => hFc q h) hFc (fun r100 u100 t100 H1 locs ht hvm hw hB hz1 hk1 hS => ?_)
      obtain ⟨hP1, hK1, hD1⟩ := hB
      rw [ht] at hP1
      have hP := hP1
      have hD := hD1.weaken (fun _ q _ h => hFc q.1 h)
      have hw : z100_1 = r100 := hw.symm
      subst hw
      generalize H1 = H at hP hS ⊢
      have hP : va_P (dC, dI) classes (wD cB cI o_Model r z100_2 F) H := hP
      have hD : va_D A (wD cB cI o_Model r z100_2 F) := hD
      obtain rfl := Option.some.inj h
      have hP9 := hP
      have hD9 := hD
      have hK9 := hK
      exact W.iret (v := z100_1) hx hb hr (fun t ht hW => ⟨⟨z100_1, (), rfl, rfl, by rw [ht]; exact hP9, va_K.moved hW.alike hK9, hD9⟩, hS.F ht⟩) hS.2.2 d_Model_strings_363
    · rw [if_neg c99] at h
      refine lv_aload_n hx hb d_Model_strings_322 rfl (lv_at hl 0 rfl) ?_
      refine lv_iconst (v := 2) hx hb d_Model_strings_323 (by decide) ?_
      refine lv_bipush (v := 6) hx hb d_Model_strings_324 (by decide) ?_
      obtain ⟨z101_1, hc101, h⟩ := dz_ob h
      try dsimp only at h
      have hPc := hP
      have hKc := hK
      refine vp_callSi (va_Run.run (va_runV (As := [.int 2, .int 6]) (rest := [.int 2, .ref o_Model]) ⟨hx, hb, hml, hown, hg⟩ (c_Model_is l dC dI N cB cI o_Model r I F (2 : Int32) (6 : Int32) z101_1 hc101) (cwV 2 hg (gd_V k808 k809 k810 k707 k807) rfl rfl rfl (by decide +kernel) ⟨Nat.le_of_ble_eq_true rfl, Nat.le_of_ble_eq_true rfl⟩) ⟨dz_blindR, va_recv hKc hPc (ci := 10) (q0 := 0) rfl rfl, fun U hU hW => ⟨rfl, dz_Nw hW hN, by rw [hU]; exact hPc, va_K.moved hW.alike hKc⟩⟩ rfl rfl hl.1 rfl (lv_room (Nat.le_of_ble_eq_true rfl)) d_Model_strings_326 ⟨Nat.le_of_ble_eq_true rfl, Nat.le_of_ble_eq_true rfl⟩)) (fun r101 hw => ?_)
      obtain ⟨hw, hbz101⟩ := hw
      have hw : z101_1 = r101 := hw.symm
      subst hw
      refine lv_if_eq (tgt := 359) hx hb d_Model_strings_329 (by decide) (fun c102 => ?_) (fun c102 => ?_)
      · rw [if_pos c102] at h
        refine lv_iconst (v := 4) hx hb d_Model_strings_359 (by decide) ?_
        obtain ⟨⟨z103_1, z103_2⟩, hc103, h⟩ := dz_ob h
        try dsimp only at h
        have hPc := hP
        have hKc := hK
        have hDc := hD
        have hFc := dz_freeall hD hS hA
        refine va_calli (va_runV (As := [.int 2, .int 4]) (rest := []) ⟨hx, hb, hml, hown, hg⟩ (c_Model_next l dC dI N cB cI o_Model r I F (2 : Int32) (4 : Int32) s.heap.size (z103_1, z103_2) hc103) (cwV 2 hg (gd_V k871 k872 k873 k707 k870) rfl rfl rfl (by decide +kernel) ⟨Nat.le_of_ble_eq_true rfl, Nat.le_of_ble_eq_true rfl⟩) ⟨dz_blind, va_recv hKc hPc (ci := 10) (q0 := 0) rfl rfl, fun U hU hW => ⟨rfl, dz_Nw hW hN, by rw [hU], by rw [hU]; exact hPc, va_K.moved hW.alike hKc, hDc.weaken (fun _ _ _ _ => trivial)⟩⟩ rfl rfl hl.1 rfl (lv_room (Nat.le_of_ble_eq_true rfl)) d_Model_strings_360 ⟨Nat.le_of_ble_eq_true rfl, Nat.le_of_ble_eq_true rfl⟩) hS (fun q _ h => hFc q h) hFc (fun r103 u103 t103 H1 locs ht hvm hw hB hz1 hk1 hS => ?_)
        obtain ⟨hP1, hK1, hD1⟩ := hB
        rw [ht] at hP1
        have hP := hP1
        have hD := hD1.weaken (fun _ q _ h => hFc q.1 h)
        have hw : z103_1 = r103 := hw.symm
        subst hw
        generalize H1 = H at hP hS ⊢
        have hP : va_P (dC, dI) classes (wD cB cI o_Model r z103_2 F) H := hP
        have hD : va_D A (wD cB cI o_Model r z103_2 F) := hD
        obtain rfl := Option.some.inj h
        have hP9 := hP
        have hD9 := hD
        have hK9 := hK
        exact W.iret (v := z103_1) hx hb hr (fun t ht hW => ⟨⟨z103_1, (), rfl, rfl, by rw [ht]; exact hP9, va_K.moved hW.alike hK9, hD9⟩, hS.F ht⟩) hS.2.2 d_Model_strings_363
      · rw [if_neg c102] at h
        refine lv_aload_n hx hb d_Model_strings_332 rfl (lv_at hl 0 rfl) ?_
        refine lv_iconst (v := 2) hx hb d_Model_strings_333 (by decide) ?_
        refine lv_iconst (v := 0) hx hb d_Model_strings_334 (by decide) ?_
        refine lv_iload_n hx hb d_Model_strings_335 rfl (lv_at hl 1 rfl) ?_
        refine lv_aload_n hx hb d_Model_strings_336 rfl (lv_at hl 0 rfl) ?_
        refine lv_aload_n hx hb d_Model_strings_337 rfl (lv_at hl 0 rfl) ?_
        refine lv_iconst (v := 2) hx hb d_Model_strings_338 (by decide) ?_
        obtain ⟨z104_1, hc104, h⟩ := dz_ob h
        try dsimp only at h
        have hPc := hP
        have hKc := hK
        refine vp_callSi (va_Run.run (va_runV (As := [.int 2]) (rest := [.ref o_Model, .int p0, .int 0, .int 2, .ref o_Model, .int 2, .ref o_Model]) ⟨hx, hb, hml, hown, hg⟩ (c_Model_scalar l dC dI N cB cI o_Model r I F (2 : Int32) z104_1 hc104) (cwV 1 hg (gd_V k804 k805 k806 k707 k803) rfl rfl rfl (by decide +kernel) ⟨Nat.le_of_ble_eq_true rfl, Nat.le_of_ble_eq_true rfl⟩) ⟨dz_blindR, va_recv hKc hPc (ci := 10) (q0 := 0) rfl rfl, fun U hU hW => ⟨rfl, dz_Nw hW hN, by rw [hU]; exact hPc, va_K.moved hW.alike hKc⟩⟩ rfl rfl hl.1 rfl (lv_room (Nat.le_of_ble_eq_true rfl)) d_Model_strings_339 ⟨Nat.le_of_ble_eq_true rfl, Nat.le_of_ble_eq_true rfl⟩)) (fun r104 hw => ?_)
        have hw : z104_1 = r104 := hw.symm
        subst hw
        refine lv_aload_n hx hb d_Model_strings_342 rfl (lv_at hl 0 rfl) ?_
        refine lv_iconst (v := 1) hx hb d_Model_strings_343 (by decide) ?_
        obtain ⟨z105_1, hc105, h⟩ := dz_ob h
        try dsimp only at h
        have hPc := hP
        have hKc := hK
        refine vp_callSi (va_Run.run (va_runV (As := [.int 1]) (rest := [.int z104_1, .ref o_Model, .int p0, .int 0, .int 2, .ref o_Model, .int 2, .ref o_Model]) ⟨hx, hb, hml, hown, hg⟩ (c_Model_scalar l dC dI N cB cI o_Model r I F (1 : Int32) z105_1 hc105) (cwV 1 hg (gd_V k804 k805 k806 k707 k803) rfl rfl rfl (by decide +kernel) ⟨Nat.le_of_ble_eq_true rfl, Nat.le_of_ble_eq_true rfl⟩) ⟨dz_blindR, va_recv hKc hPc (ci := 10) (q0 := 0) rfl rfl, fun U hU hW => ⟨rfl, dz_Nw hW hN, by rw [hU]; exact hPc, va_K.moved hW.alike hKc⟩⟩ rfl rfl hl.1 rfl (lv_room (Nat.le_of_ble_eq_true rfl)) d_Model_strings_344 ⟨Nat.le_of_ble_eq_true rfl, Nat.le_of_ble_eq_true rfl⟩)) (fun r105 hw => ?_)
        have hw : z105_1 = r105 := hw.symm
        subst hw
        obtain ⟨z106_1, hc106, h⟩ := dz_ob h
        try dsimp only at h
        have hPc := hP
        have hKc := hK
        refine vp_callSi (va_Run.run (va_runV (As := [.int z104_1, .int z105_1]) (rest := [.int p0, .int 0, .int 2, .ref o_Model, .int 2, .ref o_Model]) ⟨hx, hb, hml, hown, hg⟩ (c_Model_compare l dC dI N cB cI o_Model r I F z104_1 z105_1 z106_1 hc106) (cwV 2 hg (gd_V k858 k859 k860 k707 k857) rfl rfl rfl (by decide +kernel) ⟨Nat.le_of_ble_eq_true rfl, Nat.le_of_ble_eq_true rfl⟩) ⟨dz_blindR, va_recv hKc hPc (ci := 10) (q0 := 0) rfl rfl, fun U hU hW => ⟨rfl, dz_Nw hW hN, by rw [hU]; exact hPc, va_K.moved hW.alike hKc⟩⟩ rfl rfl hl.1 rfl (lv_room (Nat.le_of_ble_eq_true rfl)) d_Model_strings_347 ⟨Nat.le_of_ble_eq_true rfl, Nat.le_of_ble_eq_true rfl⟩)) (fun r106 hw => ?_)
        have hw : z106_1 = r106 := hw.symm
        subst hw
        obtain ⟨z107_1, hc107, h⟩ := dz_ob h
        try dsimp only at h
        have hPc := hP.sub (ws' := []) [] rfl
        have hKc := hK.sub (tys' := []) [] rfl
        refine vp_callSi (va_Run.run (va_runS (As := [.int p0, .int z106_1]) (rest := [.int 0, .int 2, .ref o_Model, .int 2, .ref o_Model]) ⟨hx, hb, hml, hown, hg⟩ (c_Model_ordered l dC dI N p0 z106_1 z107_1 hc107) (va_cwS 2 hg (gd_S k911 k912 k707 k910) rfl rfl rfl (by decide +kernel) ⟨Nat.le_of_ble_eq_true rfl, Nat.le_of_ble_eq_true rfl⟩) ⟨dz_blindR, fun U hU hW => ⟨rfl, dz_Nw hW hN, by rw [hU]; exact hPc, va_K.moved hW.alike hKc⟩⟩ rfl rfl hl.1 rfl (lv_room (Nat.le_of_ble_eq_true rfl)) d_Model_strings_350 ⟨Nat.le_of_ble_eq_true rfl, Nat.le_of_ble_eq_true rfl⟩)) (fun r107 hw => ?_)
        have hw : z107_1 = r107 := hw.symm
        subst hw
        obtain ⟨⟨z108_1, z108_2, z108_3⟩, hc108, h⟩ := dz_ob h
        try dsimp only at h
        have hPc := hP
        have hKc := hK
        have hDc := hD
        have hFc := dz_freeall hD hS hA
        refine va_calli (va_runV (As := [.int 2, .int 0, .int z107_1]) (rest := [.int 2, .ref o_Model]) ⟨hx, hb, hml, hown, hg⟩ (c_Model_give l dC dI N cB cI o_Model r I F (2 : Int32) (0 : Int32) z107_1 s.heap.size (z108_1, z108_2, z108_3) hc108) (cwV 3 hg (gd_V k734 k735 k736 k707 k733) rfl rfl rfl (by decide +kernel) ⟨Nat.le_of_ble_eq_true rfl, Nat.le_of_ble_eq_true rfl⟩) ⟨dz_blind, va_recv hKc hPc (ci := 10) (q0 := 0) rfl rfl, fun U hU hW => ⟨rfl, dz_Nw hW hN, by rw [hU], by rw [hU]; exact hPc, va_K.moved hW.alike hKc, hDc.weaken (fun _ _ _ _ => trivial)⟩⟩ rfl rfl hl.1 rfl (lv_room (Nat.le_of_ble_eq_true rfl)) d_Model_strings_353 ⟨Nat.le_of_ble_eq_true rfl, Nat.le_of_ble_eq_true rfl⟩) hS (fun q _ h => hFc q h) hFc (fun r108 u108 t108 H1 locs ht hvm hw hB hz1 hk1 hS => ?_)
        obtain ⟨hP1, hK1, hD1⟩ := hB
        rw [ht] at hP1
        have hP := hP1
        have hD := hD1.weaken (fun _ q _ h => hFc q.1 h)
        have hw : z108_1 = r108 := hw.symm
        subst hw
        generalize H1 = H at hP hS ⊢
        have hP : va_P (dC, dI) classes (wD cB cI o_Model r z108_3 z108_2) H := hP
        have hD : va_D A (wD cB cI o_Model r z108_3 z108_2) := hD
        refine lv_goto (tgt := 360) hx hb d_Model_strings_356 (by decide) ?_
        obtain ⟨⟨z109_1, z109_2⟩, hc109, h⟩ := dz_ob h
        try dsimp only at h
        have hPc := hP
        have hKc := hK
        have hDc := hD
        have hFc := dz_freeall hD hS hA
        refine va_calli (va_runV (As := [.int 2, .int z108_1]) (rest := []) ⟨hx, hb, hml, hown, hg⟩ (c_Model_next l dC dI N cB cI o_Model r z108_3 z108_2 (2 : Int32) z108_1 H.size (z109_1, z109_2) hc109) (cwV 2 hg (gd_V k871 k872 k873 k707 k870) rfl rfl rfl (by decide +kernel) ⟨Nat.le_of_ble_eq_true rfl, Nat.le_of_ble_eq_true rfl⟩) ⟨dz_blind, va_recv hKc hPc (ci := 10) (q0 := 0) rfl rfl, fun U hU hW => ⟨rfl, dz_Nw hW hN, by rw [hU], by rw [hU]; exact hPc, va_K.moved hW.alike hKc, hDc.weaken (fun _ _ _ _ => trivial)⟩⟩ rfl rfl hl.1 rfl (lv_room (Nat.le_of_ble_eq_true rfl)) d_Model_strings_360 ⟨Nat.le_of_ble_eq_true rfl, Nat.le_of_ble_eq_true rfl⟩) hS (fun q _ h => hFc q h) hFc (fun r109 u109 t109 H1 locs ht hvm hw hB hz1 hk1 hS => ?_)
        obtain ⟨hP1, hK1, hD1⟩ := hB
        rw [ht] at hP1
        have hP := hP1
        have hD := hD1.weaken (fun _ q _ h => hFc q.1 h)
        have hw : z109_1 = r109 := hw.symm
        subst hw
        generalize H1 = H at hP hS ⊢
        have hP : va_P (dC, dI) classes (wD cB cI o_Model r z109_2 z108_2) H := hP
        have hD : va_D A (wD cB cI o_Model r z109_2 z108_2) := hD
        obtain rfl := Option.some.inj h
        have hP9 := hP
        have hD9 := hD
        have hK9 := hK
        exact W.iret (v := z109_1) hx hb hr (fun t ht hW => ⟨⟨z109_1, (), rfl, rfl, by rw [ht]; exact hP9, va_K.moved hW.alike hK9, hD9⟩, hS.F ht⟩) hS.2.2 d_Model_strings_363
  rw [if_neg s1_36] at h
  by_cases s1_37 : p0 = 37
  · rw [if_pos s1_37] at h
    refine lv_tableIn (off := 256) (tgt := 257) hx hb d_Model_strings_1 (by rw [s1_37]; decide) (by rw [s1_37]; decide) (by rw [s1_37]; decide) (by decide) ?_
    refine lv_aload_n hx hb d_Model_strings_257 rfl (lv_at hl 0 rfl) ?_
    refine lv_iconst (v := 2) hx hb d_Model_strings_258 (by decide) ?_
    refine lv_aload_n hx hb d_Model_strings_259 rfl (lv_at hl 0 rfl) ?_
    refine lv_iconst (v := 1) hx hb d_Model_strings_260 (by decide) ?_
    refine lv_bipush (v := 6) hx hb d_Model_strings_261 (by decide) ?_
    obtain ⟨z110_1, hc110, h⟩ := dz_ob h
    try dsimp only at h
    have hPc := hP
    have hKc := hK
    refine vp_callSi (va_Run.run (va_runV (As := [.int 1, .int 6]) (rest := [.int 2, .ref o_Model]) ⟨hx, hb, hml, hown, hg⟩ (c_Model_is l dC dI N cB cI o_Model r I F (1 : Int32) (6 : Int32) z110_1 hc110) (cwV 2 hg (gd_V k808 k809 k810 k707 k807) rfl rfl rfl (by decide +kernel) ⟨Nat.le_of_ble_eq_true rfl, Nat.le_of_ble_eq_true rfl⟩) ⟨dz_blindR, va_recv hKc hPc (ci := 10) (q0 := 0) rfl rfl, fun U hU hW => ⟨rfl, dz_Nw hW hN, by rw [hU]; exact hPc, va_K.moved hW.alike hKc⟩⟩ rfl rfl hl.1 rfl (lv_room (Nat.le_of_ble_eq_true rfl)) d_Model_strings_263 ⟨Nat.le_of_ble_eq_true rfl, Nat.le_of_ble_eq_true rfl⟩)) (fun r110 hw => ?_)
    obtain ⟨hw, hbz110⟩ := hw
    have hw : z110_1 = r110 := hw.symm
    subst hw
    refine lv_if_eq (tgt := 276) hx hb d_Model_strings_266 (by decide) (fun c111 => ?_) (fun c111 => ?_)
    · rw [if_pos c111] at h
      refine lv_iconst (v := 4) hx hb d_Model_strings_276 (by decide) ?_
      obtain ⟨⟨z112_1, z112_2⟩, hc112, h⟩ := dz_ob h
      try dsimp only at h
      have hPc := hP
      have hKc := hK
      have hDc := hD
      have hFc := dz_freeall hD hS hA
      refine va_calli (va_runV (As := [.int 2, .int 4]) (rest := []) ⟨hx, hb, hml, hown, hg⟩ (c_Model_next l dC dI N cB cI o_Model r I F (2 : Int32) (4 : Int32) s.heap.size (z112_1, z112_2) hc112) (cwV 2 hg (gd_V k871 k872 k873 k707 k870) rfl rfl rfl (by decide +kernel) ⟨Nat.le_of_ble_eq_true rfl, Nat.le_of_ble_eq_true rfl⟩) ⟨dz_blind, va_recv hKc hPc (ci := 10) (q0 := 0) rfl rfl, fun U hU hW => ⟨rfl, dz_Nw hW hN, by rw [hU], by rw [hU]; exact hPc, va_K.moved hW.alike hKc, hDc.weaken (fun _ _ _ _ => trivial)⟩⟩ rfl rfl hl.1 rfl (lv_room (Nat.le_of_ble_eq_true rfl)) d_Model_strings_277 ⟨Nat.le_of_ble_eq_true rfl, Nat.le_of_ble_eq_true rfl⟩) hS (fun q _ h => hFc q h) hFc (fun r112 u112 t112 H1 locs ht hvm hw hB hz1 hk1 hS => ?_)
      obtain ⟨hP1, hK1, hD1⟩ := hB
      rw [ht] at hP1
      have hP := hP1
      have hD := hD1.weaken (fun _ q _ h => hFc q.1 h)
      have hw : z112_1 = r112 := hw.symm
      subst hw
      generalize H1 = H at hP hS ⊢
      have hP : va_P (dC, dI) classes (wD cB cI o_Model r z112_2 F) H := hP
      have hD : va_D A (wD cB cI o_Model r z112_2 F) := hD
      obtain rfl := Option.some.inj h
      have hP9 := hP
      have hD9 := hD
      have hK9 := hK
      exact W.iret (v := z112_1) hx hb hr (fun t ht hW => ⟨⟨z112_1, (), rfl, rfl, by rw [ht]; exact hP9, va_K.moved hW.alike hK9, hD9⟩, hS.F ht⟩) hS.2.2 d_Model_strings_280
    · rw [if_neg c111] at h
      refine lv_aload_n hx hb d_Model_strings_269 rfl (lv_at hl 0 rfl) ?_
      obtain ⟨⟨z113_1, z113_2, z113_3⟩, hc113, h⟩ := dz_ob h
      try dsimp only at h
      have hPc := hP
      have hKc := hK
      have hDc := hD
      have hFc := dz_freeall hD hS hA
      refine va_calli (va_runV (As := []) (rest := [.int 2, .ref o_Model]) ⟨hx, hb, hml, hown, hg⟩ (c_Model_print l dC dI N cB cI o_Model r I F s.heap.size (z113_1, z113_2, z113_3) hc113) (cwV 0 hg (gd_V k918 k919 k920 k707 k917) rfl rfl rfl (by decide +kernel) ⟨Nat.le_of_ble_eq_true rfl, Nat.le_of_ble_eq_true rfl⟩) ⟨dz_blind, va_recv hKc hPc (ci := 10) (q0 := 0) rfl rfl, fun U hU hW => ⟨rfl, dz_Nw hW hN, by rw [hU], by rw [hU]; exact hPc, va_K.moved hW.alike hKc, hDc.weaken (fun _ _ _ _ => trivial)⟩⟩ rfl rfl hl.1 rfl (lv_room (Nat.le_of_ble_eq_true rfl)) d_Model_strings_270 ⟨Nat.le_of_ble_eq_true rfl, Nat.le_of_ble_eq_true rfl⟩) hS (fun q _ h => hFc q h) hFc (fun r113 u113 t113 H1 locs ht hvm hw hB hz1 hk1 hS => ?_)
      obtain ⟨hP1, hK1, hD1⟩ := hB
      rw [ht] at hP1
      have hP := hP1
      have hD := hD1.weaken (fun _ q _ h => hFc q.1 h)
      have hw : z113_1 = r113 := hw.symm
      subst hw
      generalize H1 = H at hP hS ⊢
      have hP : va_P (dC, dI) classes (wD cB cI o_Model r z113_3 z113_2) H := hP
      have hD : va_D A (wD cB cI o_Model r z113_3 z113_2) := hD
      refine lv_goto (tgt := 277) hx hb d_Model_strings_273 (by decide) ?_
      obtain ⟨⟨z114_1, z114_2⟩, hc114, h⟩ := dz_ob h
      try dsimp only at h
      have hPc := hP
      have hKc := hK
      have hDc := hD
      have hFc := dz_freeall hD hS hA
      refine va_calli (va_runV (As := [.int 2, .int z113_1]) (rest := []) ⟨hx, hb, hml, hown, hg⟩ (c_Model_next l dC dI N cB cI o_Model r z113_3 z113_2 (2 : Int32) z113_1 H.size (z114_1, z114_2) hc114) (cwV 2 hg (gd_V k871 k872 k873 k707 k870) rfl rfl rfl (by decide +kernel) ⟨Nat.le_of_ble_eq_true rfl, Nat.le_of_ble_eq_true rfl⟩) ⟨dz_blind, va_recv hKc hPc (ci := 10) (q0 := 0) rfl rfl, fun U hU hW => ⟨rfl, dz_Nw hW hN, by rw [hU], by rw [hU]; exact hPc, va_K.moved hW.alike hKc, hDc.weaken (fun _ _ _ _ => trivial)⟩⟩ rfl rfl hl.1 rfl (lv_room (Nat.le_of_ble_eq_true rfl)) d_Model_strings_277 ⟨Nat.le_of_ble_eq_true rfl, Nat.le_of_ble_eq_true rfl⟩) hS (fun q _ h => hFc q h) hFc (fun r114 u114 t114 H1 locs ht hvm hw hB hz1 hk1 hS => ?_)
      obtain ⟨hP1, hK1, hD1⟩ := hB
      rw [ht] at hP1
      have hP := hP1
      have hD := hD1.weaken (fun _ q _ h => hFc q.1 h)
      have hw : z114_1 = r114 := hw.symm
      subst hw
      generalize H1 = H at hP hS ⊢
      have hP : va_P (dC, dI) classes (wD cB cI o_Model r z114_2 z113_2) H := hP
      have hD : va_D A (wD cB cI o_Model r z114_2 z113_2) := hD
      obtain rfl := Option.some.inj h
      have hP9 := hP
      have hD9 := hD
      have hK9 := hK
      exact W.iret (v := z114_1) hx hb hr (fun t ht hW => ⟨⟨z114_1, (), rfl, rfl, by rw [ht]; exact hP9, va_K.moved hW.alike hK9, hD9⟩, hS.F ht⟩) hS.2.2 d_Model_strings_280
  rw [if_neg s1_37] at h
  by_cases s1_38 : p0 = 38
  · rw [if_pos s1_38] at h
    refine lv_tableIn (off := 309) (tgt := 310) hx hb d_Model_strings_1 (by rw [s1_38]; decide) (by rw [s1_38]; decide) (by rw [s1_38]; decide) (by decide) ?_
    refine lv_aload_n hx hb d_Model_strings_310 rfl (lv_at hl 0 rfl) ?_
    refine lv_iconst (v := 2) hx hb d_Model_strings_311 (by decide) ?_
    refine lv_aload_n hx hb d_Model_strings_312 rfl (lv_at hl 0 rfl) ?_
    refine lv_iconst (v := 1) hx hb d_Model_strings_313 (by decide) ?_
    refine lv_bipush (v := 6) hx hb d_Model_strings_314 (by decide) ?_
    obtain ⟨z115_1, hc115, h⟩ := dz_ob h
    try dsimp only at h
    have hPc := hP
    have hKc := hK
    refine vp_callSi (va_Run.run (va_runV (As := [.int 1, .int 6]) (rest := [.int 2, .ref o_Model]) ⟨hx, hb, hml, hown, hg⟩ (c_Model_is l dC dI N cB cI o_Model r I F (1 : Int32) (6 : Int32) z115_1 hc115) (cwV 2 hg (gd_V k808 k809 k810 k707 k807) rfl rfl rfl (by decide +kernel) ⟨Nat.le_of_ble_eq_true rfl, Nat.le_of_ble_eq_true rfl⟩) ⟨dz_blindR, va_recv hKc hPc (ci := 10) (q0 := 0) rfl rfl, fun U hU hW => ⟨rfl, dz_Nw hW hN, by rw [hU]; exact hPc, va_K.moved hW.alike hKc⟩⟩ rfl rfl hl.1 rfl (lv_room (Nat.le_of_ble_eq_true rfl)) d_Model_strings_316 ⟨Nat.le_of_ble_eq_true rfl, Nat.le_of_ble_eq_true rfl⟩)) (fun r115 hw => ?_)
    obtain ⟨hw, hbz115⟩ := hw
    have hw : z115_1 = r115 := hw.symm
    subst hw
    refine lv_if_eq (tgt := 359) hx hb d_Model_strings_319 (by decide) (fun c116 => ?_) (fun c116 => ?_)
    · rw [if_pos c116] at h
      refine lv_iconst (v := 4) hx hb d_Model_strings_359 (by decide) ?_
      obtain ⟨⟨z117_1, z117_2⟩, hc117, h⟩ := dz_ob h
      try dsimp only at h
      have hPc := hP
      have hKc := hK
      have hDc := hD
      have hFc := dz_freeall hD hS hA
      refine va_calli (va_runV (As := [.int 2, .int 4]) (rest := []) ⟨hx, hb, hml, hown, hg⟩ (c_Model_next l dC dI N cB cI o_Model r I F (2 : Int32) (4 : Int32) s.heap.size (z117_1, z117_2) hc117) (cwV 2 hg (gd_V k871 k872 k873 k707 k870) rfl rfl rfl (by decide +kernel) ⟨Nat.le_of_ble_eq_true rfl, Nat.le_of_ble_eq_true rfl⟩) ⟨dz_blind, va_recv hKc hPc (ci := 10) (q0 := 0) rfl rfl, fun U hU hW => ⟨rfl, dz_Nw hW hN, by rw [hU], by rw [hU]; exact hPc, va_K.moved hW.alike hKc, hDc.weaken (fun _ _ _ _ => trivial)⟩⟩ rfl rfl hl.1 rfl (lv_room (Nat.le_of_ble_eq_true rfl)) d_Model_strings_360 ⟨Nat.le_of_ble_eq_true rfl, Nat.le_of_ble_eq_true rfl⟩) hS (fun q _ h => hFc q h) hFc (fun r117 u117 t117 H1 locs ht hvm hw hB hz1 hk1 hS => ?_)
      obtain ⟨hP1, hK1, hD1⟩ := hB
      rw [ht] at hP1
      have hP := hP1
      have hD := hD1.weaken (fun _ q _ h => hFc q.1 h)
      have hw : z117_1 = r117 := hw.symm
      subst hw
      generalize H1 = H at hP hS ⊢
      have hP : va_P (dC, dI) classes (wD cB cI o_Model r z117_2 F) H := hP
      have hD : va_D A (wD cB cI o_Model r z117_2 F) := hD
      obtain rfl := Option.some.inj h
      have hP9 := hP
      have hD9 := hD
      have hK9 := hK
      exact W.iret (v := z117_1) hx hb hr (fun t ht hW => ⟨⟨z117_1, (), rfl, rfl, by rw [ht]; exact hP9, va_K.moved hW.alike hK9, hD9⟩, hS.F ht⟩) hS.2.2 d_Model_strings_363
    · rw [if_neg c116] at h
      refine lv_aload_n hx hb d_Model_strings_322 rfl (lv_at hl 0 rfl) ?_
      refine lv_iconst (v := 2) hx hb d_Model_strings_323 (by decide) ?_
      refine lv_bipush (v := 6) hx hb d_Model_strings_324 (by decide) ?_
      obtain ⟨z118_1, hc118, h⟩ := dz_ob h
      try dsimp only at h
      have hPc := hP
      have hKc := hK
      refine vp_callSi (va_Run.run (va_runV (As := [.int 2, .int 6]) (rest := [.int 2, .ref o_Model]) ⟨hx, hb, hml, hown, hg⟩ (c_Model_is l dC dI N cB cI o_Model r I F (2 : Int32) (6 : Int32) z118_1 hc118) (cwV 2 hg (gd_V k808 k809 k810 k707 k807) rfl rfl rfl (by decide +kernel) ⟨Nat.le_of_ble_eq_true rfl, Nat.le_of_ble_eq_true rfl⟩) ⟨dz_blindR, va_recv hKc hPc (ci := 10) (q0 := 0) rfl rfl, fun U hU hW => ⟨rfl, dz_Nw hW hN, by rw [hU]; exact hPc, va_K.moved hW.alike hKc⟩⟩ rfl rfl hl.1 rfl (lv_room (Nat.le_of_ble_eq_true rfl)) d_Model_strings_326 ⟨Nat.le_of_ble_eq_true rfl, Nat.le_of_ble_eq_true rfl⟩)) (fun r118 hw => ?_)
      obtain ⟨hw, hbz118⟩ := hw
      have hw : z118_1 = r118 := hw.symm
      subst hw
      refine lv_if_eq (tgt := 359) hx hb d_Model_strings_329 (by decide) (fun c119 => ?_) (fun c119 => ?_)
      · rw [if_pos c119] at h
        refine lv_iconst (v := 4) hx hb d_Model_strings_359 (by decide) ?_
        obtain ⟨⟨z120_1, z120_2⟩, hc120, h⟩ := dz_ob h
        try dsimp only at h
        have hPc := hP
        have hKc := hK
        have hDc := hD
        have hFc := dz_freeall hD hS hA
        refine va_calli (va_runV (As := [.int 2, .int 4]) (rest := []) ⟨hx, hb, hml, hown, hg⟩ (c_Model_next l dC dI N cB cI o_Model r I F (2 : Int32) (4 : Int32) s.heap.size (z120_1, z120_2) hc120) (cwV 2 hg (gd_V k871 k872 k873 k707 k870) rfl rfl rfl (by decide +kernel) ⟨Nat.le_of_ble_eq_true rfl, Nat.le_of_ble_eq_true rfl⟩) ⟨dz_blind, va_recv hKc hPc (ci := 10) (q0 := 0) rfl rfl, fun U hU hW => ⟨rfl, dz_Nw hW hN, by rw [hU], by rw [hU]; exact hPc, va_K.moved hW.alike hKc, hDc.weaken (fun _ _ _ _ => trivial)⟩⟩ rfl rfl hl.1 rfl (lv_room (Nat.le_of_ble_eq_true rfl)) d_Model_strings_360 ⟨Nat.le_of_ble_eq_true rfl, Nat.le_of_ble_eq_true rfl⟩) hS (fun q _ h => hFc q h) hFc (fun r120 u120 t120 H1 locs ht hvm hw hB hz1 hk1 hS => ?_)
        obtain ⟨hP1, hK1, hD1⟩ := hB
        rw [ht] at hP1
        have hP := hP1
        have hD := hD1.weaken (fun _ q _ h => hFc q.1 h)
        have hw : z120_1 = r120 := hw.symm
        subst hw
        generalize H1 = H at hP hS ⊢
        have hP : va_P (dC, dI) classes (wD cB cI o_Model r z120_2 F) H := hP
        have hD : va_D A (wD cB cI o_Model r z120_2 F) := hD
        obtain rfl := Option.some.inj h
        have hP9 := hP
        have hD9 := hD
        have hK9 := hK
        exact W.iret (v := z120_1) hx hb hr (fun t ht hW => ⟨⟨z120_1, (), rfl, rfl, by rw [ht]; exact hP9, va_K.moved hW.alike hK9, hD9⟩, hS.F ht⟩) hS.2.2 d_Model_strings_363
      · rw [if_neg c119] at h
        refine lv_aload_n hx hb d_Model_strings_332 rfl (lv_at hl 0 rfl) ?_
        refine lv_iconst (v := 2) hx hb d_Model_strings_333 (by decide) ?_
        refine lv_iconst (v := 0) hx hb d_Model_strings_334 (by decide) ?_
        refine lv_iload_n hx hb d_Model_strings_335 rfl (lv_at hl 1 rfl) ?_
        refine lv_aload_n hx hb d_Model_strings_336 rfl (lv_at hl 0 rfl) ?_
        refine lv_aload_n hx hb d_Model_strings_337 rfl (lv_at hl 0 rfl) ?_
        refine lv_iconst (v := 2) hx hb d_Model_strings_338 (by decide) ?_
        obtain ⟨z121_1, hc121, h⟩ := dz_ob h
        try dsimp only at h
        have hPc := hP
        have hKc := hK
        refine vp_callSi (va_Run.run (va_runV (As := [.int 2]) (rest := [.ref o_Model, .int p0, .int 0, .int 2, .ref o_Model, .int 2, .ref o_Model]) ⟨hx, hb, hml, hown, hg⟩ (c_Model_scalar l dC dI N cB cI o_Model r I F (2 : Int32) z121_1 hc121) (cwV 1 hg (gd_V k804 k805 k806 k707 k803) rfl rfl rfl (by decide +kernel) ⟨Nat.le_of_ble_eq_true rfl, Nat.le_of_ble_eq_true rfl⟩) ⟨dz_blindR, va_recv hKc hPc (ci := 10) (q0 := 0) rfl rfl, fun U hU hW => ⟨rfl, dz_Nw hW hN, by rw [hU]; exact hPc, va_K.moved hW.alike hKc⟩⟩ rfl rfl hl.1 rfl (lv_room (Nat.le_of_ble_eq_true rfl)) d_Model_strings_339 ⟨Nat.le_of_ble_eq_true rfl, Nat.le_of_ble_eq_true rfl⟩)) (fun r121 hw => ?_)
        have hw : z121_1 = r121 := hw.symm
        subst hw
        refine lv_aload_n hx hb d_Model_strings_342 rfl (lv_at hl 0 rfl) ?_
        refine lv_iconst (v := 1) hx hb d_Model_strings_343 (by decide) ?_
        obtain ⟨z122_1, hc122, h⟩ := dz_ob h
        try dsimp only at h
        have hPc := hP
        have hKc := hK
        refine vp_callSi (va_Run.run (va_runV (As := [.int 1]) (rest := [.int z121_1, .ref o_Model, .int p0, .int 0, .int 2, .ref o_Model, .int 2, .ref o_Model]) ⟨hx, hb, hml, hown, hg⟩ (c_Model_scalar l dC dI N cB cI o_Model r I F (1 : Int32) z122_1 hc122) (cwV 1 hg (gd_V k804 k805 k806 k707 k803) rfl rfl rfl (by decide +kernel) ⟨Nat.le_of_ble_eq_true rfl, Nat.le_of_ble_eq_true rfl⟩) ⟨dz_blindR, va_recv hKc hPc (ci := 10) (q0 := 0) rfl rfl, fun U hU hW => ⟨rfl, dz_Nw hW hN, by rw [hU]; exact hPc, va_K.moved hW.alike hKc⟩⟩ rfl rfl hl.1 rfl (lv_room (Nat.le_of_ble_eq_true rfl)) d_Model_strings_344 ⟨Nat.le_of_ble_eq_true rfl, Nat.le_of_ble_eq_true rfl⟩)) (fun r122 hw => ?_)
        have hw : z122_1 = r122 := hw.symm
        subst hw
        obtain ⟨z123_1, hc123, h⟩ := dz_ob h
        try dsimp only at h
        have hPc := hP
        have hKc := hK
        refine vp_callSi (va_Run.run (va_runV (As := [.int z121_1, .int z122_1]) (rest := [.int p0, .int 0, .int 2, .ref o_Model, .int 2, .ref o_Model]) ⟨hx, hb, hml, hown, hg⟩ (c_Model_compare l dC dI N cB cI o_Model r I F z121_1 z122_1 z123_1 hc123) (cwV 2 hg (gd_V k858 k859 k860 k707 k857) rfl rfl rfl (by decide +kernel) ⟨Nat.le_of_ble_eq_true rfl, Nat.le_of_ble_eq_true rfl⟩) ⟨dz_blindR, va_recv hKc hPc (ci := 10) (q0 := 0) rfl rfl, fun U hU hW => ⟨rfl, dz_Nw hW hN, by rw [hU]; exact hPc, va_K.moved hW.alike hKc⟩⟩ rfl rfl hl.1 rfl (lv_room (Nat.le_of_ble_eq_true rfl)) d_Model_strings_347 ⟨Nat.le_of_ble_eq_true rfl, Nat.le_of_ble_eq_true rfl⟩)) (fun r123 hw => ?_)
        have hw : z123_1 = r123 := hw.symm
        subst hw
        obtain ⟨z124_1, hc124, h⟩ := dz_ob h
        try dsimp only at h
        have hPc := hP.sub (ws' := []) [] rfl
        have hKc := hK.sub (tys' := []) [] rfl
        refine vp_callSi (va_Run.run (va_runS (As := [.int p0, .int z123_1]) (rest := [.int 0, .int 2, .ref o_Model, .int 2, .ref o_Model]) ⟨hx, hb, hml, hown, hg⟩ (c_Model_ordered l dC dI N p0 z123_1 z124_1 hc124) (va_cwS 2 hg (gd_S k911 k912 k707 k910) rfl rfl rfl (by decide +kernel) ⟨Nat.le_of_ble_eq_true rfl, Nat.le_of_ble_eq_true rfl⟩) ⟨dz_blindR, fun U hU hW => ⟨rfl, dz_Nw hW hN, by rw [hU]; exact hPc, va_K.moved hW.alike hKc⟩⟩ rfl rfl hl.1 rfl (lv_room (Nat.le_of_ble_eq_true rfl)) d_Model_strings_350 ⟨Nat.le_of_ble_eq_true rfl, Nat.le_of_ble_eq_true rfl⟩)) (fun r124 hw => ?_)
        have hw : z124_1 = r124 := hw.symm
        subst hw
        obtain ⟨⟨z125_1, z125_2, z125_3⟩, hc125, h⟩ := dz_ob h
        try dsimp only at h
        have hPc := hP
        have hKc := hK
        have hDc := hD
        have hFc := dz_freeall hD hS hA
        refine va_calli (va_runV (As := [.int 2, .int 0, .int z124_1]) (rest := [.int 2, .ref o_Model]) ⟨hx, hb, hml, hown, hg⟩ (c_Model_give l dC dI N cB cI o_Model r I F (2 : Int32) (0 : Int32) z124_1 s.heap.size (z125_1, z125_2, z125_3) hc125) (cwV 3 hg (gd_V k734 k735 k736 k707 k733) rfl rfl rfl (by decide +kernel) ⟨Nat.le_of_ble_eq_true rfl, Nat.le_of_ble_eq_true rfl⟩) ⟨dz_blind, va_recv hKc hPc (ci := 10) (q0 := 0) rfl rfl, fun U hU hW => ⟨rfl, dz_Nw hW hN, by rw [hU], by rw [hU]; exact hPc, va_K.moved hW.alike hKc, hDc.weaken (fun _ _ _ _ => trivial)⟩⟩ rfl rfl hl.1 rfl (lv_room (Nat.le_of_ble_eq_true rfl)) d_Model_strings_353 ⟨Nat.le_of_ble_eq_true rfl, Nat.le_of_ble_eq_true rfl⟩) hS (fun q _ h => hFc q h) hFc (fun r125 u125 t125 H1 locs ht hvm hw hB hz1 hk1 hS => ?_)
        obtain ⟨hP1, hK1, hD1⟩ := hB
        rw [ht] at hP1
        have hP := hP1
        have hD := hD1.weaken (fun _ q _ h => hFc q.1 h)
        have hw : z125_1 = r125 := hw.symm
        subst hw
        generalize H1 = H at hP hS ⊢
        have hP : va_P (dC, dI) classes (wD cB cI o_Model r z125_3 z125_2) H := hP
        have hD : va_D A (wD cB cI o_Model r z125_3 z125_2) := hD
        refine lv_goto (tgt := 360) hx hb d_Model_strings_356 (by decide) ?_
        obtain ⟨⟨z126_1, z126_2⟩, hc126, h⟩ := dz_ob h
        try dsimp only at h
        have hPc := hP
        have hKc := hK
        have hDc := hD
        have hFc := dz_freeall hD hS hA
        refine va_calli (va_runV (As := [.int 2, .int z125_1]) (rest := []) ⟨hx, hb, hml, hown, hg⟩ (c_Model_next l dC dI N cB cI o_Model r z125_3 z125_2 (2 : Int32) z125_1 H.size (z126_1, z126_2) hc126) (cwV 2 hg (gd_V k871 k872 k873 k707 k870) rfl rfl rfl (by decide +kernel) ⟨Nat.le_of_ble_eq_true rfl, Nat.le_of_ble_eq_true rfl⟩) ⟨dz_blind, va_recv hKc hPc (ci := 10) (q0 := 0) rfl rfl, fun U hU hW => ⟨rfl, dz_Nw hW hN, by rw [hU], by rw [hU]; exact hPc, va_K.moved hW.alike hKc, hDc.weaken (fun _ _ _ _ => trivial)⟩⟩ rfl rfl hl.1 rfl (lv_room (Nat.le_of_ble_eq_true rfl)) d_Model_strings_360 ⟨Nat.le_of_ble_eq_true rfl, Nat.le_of_ble_eq_true rfl⟩) hS (fun q _ h => hFc q h) hFc (fun r126 u126 t126 H1 locs ht hvm hw hB hz1 hk1 hS => ?_)
        obtain ⟨hP1, hK1, hD1⟩ := hB
        rw [ht] at hP1
        have hP := hP1
        have hD := hD1.weaken (fun _ q _ h => hFc q.1 h)
        have hw : z126_1 = r126 := hw.symm
        subst hw
        generalize H1 = H at hP hS ⊢
        have hP : va_P (dC, dI) classes (wD cB cI o_Model r z126_2 z125_2) H := hP
        have hD : va_D A (wD cB cI o_Model r z126_2 z125_2) := hD
        obtain rfl := Option.some.inj h
        have hP9 := hP
        have hD9 := hD
        have hK9 := hK
        exact W.iret (v := z126_1) hx hb hr (fun t ht hW => ⟨⟨z126_1, (), rfl, rfl, by rw [ht]; exact hP9, va_K.moved hW.alike hK9, hD9⟩, hS.F ht⟩) hS.2.2 d_Model_strings_363
  rw [if_neg s1_38] at h
  by_cases s1_39 : p0 = 39
  · rw [if_pos s1_39] at h
    refine lv_tableIn (off := 309) (tgt := 310) hx hb d_Model_strings_1 (by rw [s1_39]; decide) (by rw [s1_39]; decide) (by rw [s1_39]; decide) (by decide) ?_
    refine lv_aload_n hx hb d_Model_strings_310 rfl (lv_at hl 0 rfl) ?_
    refine lv_iconst (v := 2) hx hb d_Model_strings_311 (by decide) ?_
    refine lv_aload_n hx hb d_Model_strings_312 rfl (lv_at hl 0 rfl) ?_
    refine lv_iconst (v := 1) hx hb d_Model_strings_313 (by decide) ?_
    refine lv_bipush (v := 6) hx hb d_Model_strings_314 (by decide) ?_
    obtain ⟨z127_1, hc127, h⟩ := dz_ob h
    try dsimp only at h
    have hPc := hP
    have hKc := hK
    refine vp_callSi (va_Run.run (va_runV (As := [.int 1, .int 6]) (rest := [.int 2, .ref o_Model]) ⟨hx, hb, hml, hown, hg⟩ (c_Model_is l dC dI N cB cI o_Model r I F (1 : Int32) (6 : Int32) z127_1 hc127) (cwV 2 hg (gd_V k808 k809 k810 k707 k807) rfl rfl rfl (by decide +kernel) ⟨Nat.le_of_ble_eq_true rfl, Nat.le_of_ble_eq_true rfl⟩) ⟨dz_blindR, va_recv hKc hPc (ci := 10) (q0 := 0) rfl rfl, fun U hU hW => ⟨rfl, dz_Nw hW hN, by rw [hU]; exact hPc, va_K.moved hW.alike hKc⟩⟩ rfl rfl hl.1 rfl (lv_room (Nat.le_of_ble_eq_true rfl)) d_Model_strings_316 ⟨Nat.le_of_ble_eq_true rfl, Nat.le_of_ble_eq_true rfl⟩)) (fun r127 hw => ?_)
    obtain ⟨hw, hbz127⟩ := hw
    have hw : z127_1 = r127 := hw.symm
    subst hw
    refine lv_if_eq (tgt := 359) hx hb d_Model_strings_319 (by decide) (fun c128 => ?_) (fun c128 => ?_)
    · rw [if_pos c128] at h
      refine lv_iconst (v := 4) hx hb d_Model_strings_359 (by decide) ?_
      obtain ⟨⟨z129_1, z129_2⟩, hc129, h⟩ := dz_ob h
      try dsimp only at h
      have hPc := hP
      have hKc := hK
      have hDc := hD
      have hFc := dz_freeall hD hS hA
      refine va_calli (va_runV (As := [.int 2, .int 4]) (rest := []) ⟨hx, hb, hml, hown, hg⟩ (c_Model_next l dC dI N cB cI o_Model r I F (2 : Int32) (4 : Int32) s.heap.size (z129_1, z129_2) hc129) (cwV 2 hg (gd_V k871 k872 k873 k707 k870) rfl rfl rfl (by decide +kernel) ⟨Nat.le_of_ble_eq_true rfl, Nat.le_of_ble_eq_true rfl⟩) ⟨dz_blind, va_recv hKc hPc (ci := 10) (q0 := 0) rfl rfl, fun U hU hW => ⟨rfl, dz_Nw hW hN, by rw [hU], by rw [hU]; exact hPc, va_K.moved hW.alike hKc, hDc.weaken (fun _ _ _ _ => trivial)⟩⟩ rfl rfl hl.1 rfl (lv_room (Nat.le_of_ble_eq_true rfl)) d_Model_strings_360 ⟨Nat.le_of_ble_eq_true rfl, Nat.le_of_ble_eq_true rfl⟩) hS (fun q _ h => hFc q h) hFc (fun r129 u129 t129 H1 locs ht hvm hw hB hz1 hk1 hS => ?_)
      obtain ⟨hP1, hK1, hD1⟩ := hB
      rw [ht] at hP1
      have hP := hP1
      have hD := hD1.weaken (fun _ q _ h => hFc q.1 h)
      have hw : z129_1 = r129 := hw.symm
      subst hw
      generalize H1 = H at hP hS ⊢
      have hP : va_P (dC, dI) classes (wD cB cI o_Model r z129_2 F) H := hP
      have hD : va_D A (wD cB cI o_Model r z129_2 F) := hD
      obtain rfl := Option.some.inj h
      have hP9 := hP
      have hD9 := hD
      have hK9 := hK
      exact W.iret (v := z129_1) hx hb hr (fun t ht hW => ⟨⟨z129_1, (), rfl, rfl, by rw [ht]; exact hP9, va_K.moved hW.alike hK9, hD9⟩, hS.F ht⟩) hS.2.2 d_Model_strings_363
    · rw [if_neg c128] at h
      refine lv_aload_n hx hb d_Model_strings_322 rfl (lv_at hl 0 rfl) ?_
      refine lv_iconst (v := 2) hx hb d_Model_strings_323 (by decide) ?_
      refine lv_bipush (v := 6) hx hb d_Model_strings_324 (by decide) ?_
      obtain ⟨z130_1, hc130, h⟩ := dz_ob h
      try dsimp only at h
      have hPc := hP
      have hKc := hK
      refine vp_callSi (va_Run.run (va_runV (As := [.int 2, .int 6]) (rest := [.int 2, .ref o_Model]) ⟨hx, hb, hml, hown, hg⟩ (c_Model_is l dC dI N cB cI o_Model r I F (2 : Int32) (6 : Int32) z130_1 hc130) (cwV 2 hg (gd_V k808 k809 k810 k707 k807) rfl rfl rfl (by decide +kernel) ⟨Nat.le_of_ble_eq_true rfl, Nat.le_of_ble_eq_true rfl⟩) ⟨dz_blindR, va_recv hKc hPc (ci := 10) (q0 := 0) rfl rfl, fun U hU hW => ⟨rfl, dz_Nw hW hN, by rw [hU]; exact hPc, va_K.moved hW.alike hKc⟩⟩ rfl rfl hl.1 rfl (lv_room (Nat.le_of_ble_eq_true rfl)) d_Model_strings_326 ⟨Nat.le_of_ble_eq_true rfl, Nat.le_of_ble_eq_true rfl⟩)) (fun r130 hw => ?_)
      obtain ⟨hw, hbz130⟩ := hw
      have hw : z130_1 = r130 := hw.symm
      subst hw
      refine lv_if_eq (tgt := 359) hx hb d_Model_strings_329 (by decide) (fun c131 => ?_) (fun c131 => ?_)
      · rw [if_pos c131] at h
        refine lv_iconst (v := 4) hx hb d_Model_strings_359 (by decide) ?_
        obtain ⟨⟨z132_1, z132_2⟩, hc132, h⟩ := dz_ob h
        try dsimp only at h
        have hPc := hP
        have hKc := hK
        have hDc := hD
        have hFc := dz_freeall hD hS hA
        refine va_calli (va_runV (As := [.int 2, .int 4]) (rest := []) ⟨hx, hb, hml, hown, hg⟩ (c_Model_next l dC dI N cB cI o_Model r I F (2 : Int32) (4 : Int32) s.heap.size (z132_1, z132_2) hc132) (cwV 2 hg (gd_V k871 k872 k873 k707 k870) rfl rfl rfl (by decide +kernel) ⟨Nat.le_of_ble_eq_true rfl, Nat.le_of_ble_eq_true rfl⟩) ⟨dz_blind, va_recv hKc hPc (ci := 10) (q0 := 0) rfl rfl, fun U hU hW => ⟨rfl, dz_Nw hW hN, by rw [hU], by rw [hU]; exact hPc, va_K.moved hW.alike hKc, hDc.weaken (fun _ _ _ _ => trivial)⟩⟩ rfl rfl hl.1 rfl (lv_room (Nat.le_of_ble_eq_true rfl)) d_Model_strings_360 ⟨Nat.le_of_ble_eq_true rfl, Nat.le_of_ble_eq_true rfl⟩) hS (fun q _ h => hFc q h) hFc (fun r132 u132 t132 H1 locs ht hvm hw hB hz1 hk1 hS => ?_)
        obtain ⟨hP1, hK1, hD1⟩ := hB
        rw [ht] at hP1
        have hP := hP1
        have hD := hD1.weaken (fun _ q _ h => hFc q.1 h)
        have hw : z132_1 = r132 := hw.symm
        subst hw
        generalize H1 = H at hP hS ⊢
        have hP : va_P (dC, dI) classes (wD cB cI o_Model r z132_2 F) H := hP
        have hD : va_D A (wD cB cI o_Model r z132_2 F) := hD
        obtain rfl := Option.some.inj h
        have hP9 := hP
        have hD9 := hD
        have hK9 := hK
        exact W.iret (v := z132_1) hx hb hr (fun t ht hW => ⟨⟨z132_1, (), rfl, rfl, by rw [ht]; exact hP9, va_K.moved hW.alike hK9, hD9⟩, hS.F ht⟩) hS.2.2 d_Model_strings_363
      · rw [if_neg c131] at h
        refine lv_aload_n hx hb d_Model_strings_332 rfl (lv_at hl 0 rfl) ?_
        refine lv_iconst (v := 2) hx hb d_Model_strings_333 (by decide) ?_
        refine lv_iconst (v := 0) hx hb d_Model_strings_334 (by decide) ?_
        refine lv_iload_n hx hb d_Model_strings_335 rfl (lv_at hl 1 rfl) ?_
        refine lv_aload_n hx hb d_Model_strings_336 rfl (lv_at hl 0 rfl) ?_
        refine lv_aload_n hx hb d_Model_strings_337 rfl (lv_at hl 0 rfl) ?_
        refine lv_iconst (v := 2) hx hb d_Model_strings_338 (by decide) ?_
        obtain ⟨z133_1, hc133, h⟩ := dz_ob h
        try dsimp only at h
        have hPc := hP
        have hKc := hK
        refine vp_callSi (va_Run.run (va_runV (As := [.int 2]) (rest := [.ref o_Model, .int p0, .int 0, .int 2, .ref o_Model, .int 2, .ref o_Model]) ⟨hx, hb, hml, hown, hg⟩ (c_Model_scalar l dC dI N cB cI o_Model r I F (2 : Int32) z133_1 hc133) (cwV 1 hg (gd_V k804 k805 k806 k707 k803) rfl rfl rfl (by decide +kernel) ⟨Nat.le_of_ble_eq_true rfl, Nat.le_of_ble_eq_true rfl⟩) ⟨dz_blindR, va_recv hKc hPc (ci := 10) (q0 := 0) rfl rfl, fun U hU hW => ⟨rfl, dz_Nw hW hN, by rw [hU]; exact hPc, va_K.moved hW.alike hKc⟩⟩ rfl rfl hl.1 rfl (lv_room (Nat.le_of_ble_eq_true rfl)) d_Model_strings_339 ⟨Nat.le_of_ble_eq_true rfl, Nat.le_of_ble_eq_true rfl⟩)) (fun r133 hw => ?_)
        have hw : z133_1 = r133 := hw.symm
        subst hw
        refine lv_aload_n hx hb d_Model_strings_342 rfl (lv_at hl 0 rfl) ?_
        refine lv_iconst (v := 1) hx hb d_Model_strings_343 (by decide) ?_
        obtain ⟨z134_1, hc134, h⟩ := dz_ob h
        try dsimp only at h
        have hPc := hP
        have hKc := hK
        refine vp_callSi (va_Run.run (va_runV (As := [.int 1]) (rest := [.int z133_1, .ref o_Model, .int p0, .int 0, .int 2, .ref o_Model, .int 2, .ref o_Model]) ⟨hx, hb, hml, hown, hg⟩ (c_Model_scalar l dC dI N cB cI o_Model r I F (1 : Int32) z134_1 hc134) (cwV 1 hg (gd_V k804 k805 k806 k707 k803) rfl rfl rfl (by decide +kernel) ⟨Nat.le_of_ble_eq_true rfl, Nat.le_of_ble_eq_true rfl⟩) ⟨dz_blindR, va_recv hKc hPc (ci := 10) (q0 := 0) rfl rfl, fun U hU hW => ⟨rfl, dz_Nw hW hN, by rw [hU]; exact hPc, va_K.moved hW.alike hKc⟩⟩ rfl rfl hl.1 rfl (lv_room (Nat.le_of_ble_eq_true rfl)) d_Model_strings_344 ⟨Nat.le_of_ble_eq_true rfl, Nat.le_of_ble_eq_true rfl⟩)) (fun r134 hw => ?_)
        have hw : z134_1 = r134 := hw.symm
        subst hw
        obtain ⟨z135_1, hc135, h⟩ := dz_ob h
        try dsimp only at h
        have hPc := hP
        have hKc := hK
        refine vp_callSi (va_Run.run (va_runV (As := [.int z133_1, .int z134_1]) (rest := [.int p0, .int 0, .int 2, .ref o_Model, .int 2, .ref o_Model]) ⟨hx, hb, hml, hown, hg⟩ (c_Model_compare l dC dI N cB cI o_Model r I F z133_1 z134_1 z135_1 hc135) (cwV 2 hg (gd_V k858 k859 k860 k707 k857) rfl rfl rfl (by decide +kernel) ⟨Nat.le_of_ble_eq_true rfl, Nat.le_of_ble_eq_true rfl⟩) ⟨dz_blindR, va_recv hKc hPc (ci := 10) (q0 := 0) rfl rfl, fun U hU hW => ⟨rfl, dz_Nw hW hN, by rw [hU]; exact hPc, va_K.moved hW.alike hKc⟩⟩ rfl rfl hl.1 rfl (lv_room (Nat.le_of_ble_eq_true rfl)) d_Model_strings_347 ⟨Nat.le_of_ble_eq_true rfl, Nat.le_of_ble_eq_true rfl⟩)) (fun r135 hw => ?_)
        have hw : z135_1 = r135 := hw.symm
        subst hw
        obtain ⟨z136_1, hc136, h⟩ := dz_ob h
        try dsimp only at h
        have hPc := hP.sub (ws' := []) [] rfl
        have hKc := hK.sub (tys' := []) [] rfl
        refine vp_callSi (va_Run.run (va_runS (As := [.int p0, .int z135_1]) (rest := [.int 0, .int 2, .ref o_Model, .int 2, .ref o_Model]) ⟨hx, hb, hml, hown, hg⟩ (c_Model_ordered l dC dI N p0 z135_1 z136_1 hc136) (va_cwS 2 hg (gd_S k911 k912 k707 k910) rfl rfl rfl (by decide +kernel) ⟨Nat.le_of_ble_eq_true rfl, Nat.le_of_ble_eq_true rfl⟩) ⟨dz_blindR, fun U hU hW => ⟨rfl, dz_Nw hW hN, by rw [hU]; exact hPc, va_K.moved hW.alike hKc⟩⟩ rfl rfl hl.1 rfl (lv_room (Nat.le_of_ble_eq_true rfl)) d_Model_strings_350 ⟨Nat.le_of_ble_eq_true rfl, Nat.le_of_ble_eq_true rfl⟩)) (fun r136 hw => ?_)
        have hw : z136_1 = r136 := hw.symm
        subst hw
        obtain ⟨⟨z137_1, z137_2, z137_3⟩, hc137, h⟩ := dz_ob h
        try dsimp only at h
        have hPc := hP
        have hKc := hK
        have hDc := hD
        have hFc := dz_freeall hD hS hA
        refine va_calli (va_runV (As := [.int 2, .int 0, .int z136_1]) (rest := [.int 2, .ref o_Model]) ⟨hx, hb, hml, hown, hg⟩ (c_Model_give l dC dI N cB cI o_Model r I F (2 : Int32) (0 : Int32) z136_1 s.heap.size (z137_1, z137_2, z137_3) hc137) (cwV 3 hg (gd_V k734 k735 k736 k707 k733) rfl rfl rfl (by decide +kernel) ⟨Nat.le_of_ble_eq_true rfl, Nat.le_of_ble_eq_true rfl⟩) ⟨dz_blind, va_recv hKc hPc (ci := 10) (q0 := 0) rfl rfl, fun U hU hW => ⟨rfl, dz_Nw hW hN, by rw [hU], by rw [hU]; exact hPc, va_K.moved hW.alike hKc, hDc.weaken (fun _ _ _ _ => trivial)⟩⟩ rfl rfl hl.1 rfl (lv_room (Nat.le_of_ble_eq_true rfl)) d_Model_strings_353 ⟨Nat.le_of_ble_eq_true rfl, Nat.le_of_ble_eq_true rfl⟩) hS (fun q _ h => hFc q h) hFc (fun r137 u137 t137 H1 locs ht hvm hw hB hz1 hk1 hS => ?_)
        obtain ⟨hP1, hK1, hD1⟩ := hB
        rw [ht] at hP1
        have hP := hP1
        have hD := hD1.weaken (fun _ q _ h => hFc q.1 h)
        have hw : z137_1 = r137 := hw.symm
        subst hw
        generalize H1 = H at hP hS ⊢
        have hP : va_P (dC, dI) classes (wD cB cI o_Model r z137_3 z137_2) H := hP
        have hD : va_D A (wD cB cI o_Model r z137_3 z137_2) := hD
        refine lv_goto (tgt := 360) hx hb d_Model_strings_356 (by decide) ?_
        obtain ⟨⟨z138_1, z138_2⟩, hc138, h⟩ := dz_ob h
        try dsimp only at h
        have hPc := hP
        have hKc := hK
        have hDc := hD
        have hFc := dz_freeall hD hS hA
        refine va_calli (va_runV (As := [.int 2, .int z137_1]) (rest := []) ⟨hx, hb, hml, hown, hg⟩ (c_Model_next l dC dI N cB cI o_Model r z137_3 z137_2 (2 : Int32) z137_1 H.size (z138_1, z138_2) hc138) (cwV 2 hg (gd_V k871 k872 k873 k707 k870) rfl rfl rfl (by decide +kernel) ⟨Nat.le_of_ble_eq_true rfl, Nat.le_of_ble_eq_true rfl⟩) ⟨dz_blind, va_recv hKc hPc (ci := 10) (q0 := 0) rfl rfl, fun U hU hW => ⟨rfl, dz_Nw hW hN, by rw [hU], by rw [hU]; exact hPc, va_K.moved hW.alike hKc, hDc.weaken (fun _ _ _ _ => trivial)⟩⟩ rfl rfl hl.1 rfl (lv_room (Nat.le_of_ble_eq_true rfl)) d_Model_strings_360 ⟨Nat.le_of_ble_eq_true rfl, Nat.le_of_ble_eq_true rfl⟩) hS (fun q _ h => hFc q h) hFc (fun r138 u138 t138 H1 locs ht hvm hw hB hz1 hk1 hS => ?_)
        obtain ⟨hP1, hK1, hD1⟩ := hB
        rw [ht] at hP1
        have hP := hP1
        have hD := hD1.weaken (fun _ q _ h => hFc q.1 h)
        have hw : z138_1 = r138 := hw.symm
        subst hw
        generalize H1 = H at hP hS ⊢
        have hP : va_P (dC, dI) classes (wD cB cI o_Model r z138_2 z137_2) H := hP
        have hD : va_D A (wD cB cI o_Model r z138_2 z137_2) := hD
        obtain rfl := Option.some.inj h
        have hP9 := hP
        have hD9 := hD
        have hK9 := hK
        exact W.iret (v := z138_1) hx hb hr (fun t ht hW => ⟨⟨z138_1, (), rfl, rfl, by rw [ht]; exact hP9, va_K.moved hW.alike hK9, hD9⟩, hS.F ht⟩) hS.2.2 d_Model_strings_363
  rw [if_neg s1_39] at h
  by_cases s1_40 : p0 = 40
  · rw [if_pos s1_40] at h
    refine lv_tableIn (off := 280) (tgt := 281) hx hb d_Model_strings_1 (by rw [s1_40]; decide) (by rw [s1_40]; decide) (by rw [s1_40]; decide) (by decide) ?_
    refine lv_aload_n hx hb d_Model_strings_281 rfl (lv_at hl 0 rfl) ?_
    obtain ⟨⟨z139_1, z139_2, z139_3⟩, hc139, h⟩ := dz_ob h
    try dsimp only at h
    have hPc := hP
    have hKc := hK
    have hDc := hD
    have hFc := dz_freeall hD hS hA
    refine va_calli (va_runV (As := []) (rest := []) ⟨hx, hb, hml, hown, hg⟩ (c_Model_implode l dC dI N cB cI o_Model r I F s.heap.size (z139_1, z139_2, z139_3) hc139) (cwV 0 hg (gd_V k922 k923 k924 k707 k921) rfl rfl rfl (by decide +kernel) ⟨Nat.le_of_ble_eq_true rfl, Nat.le_of_ble_eq_true rfl⟩) ⟨dz_blind, va_recv hKc hPc (ci := 10) (q0 := 0) rfl rfl, fun U hU hW => ⟨rfl, dz_Nw hW hN, by rw [hU], by rw [hU]; exact hPc, va_K.moved hW.alike hKc, hDc.weaken (fun _ _ _ _ => trivial)⟩⟩ rfl rfl hl.1 rfl (lv_room (Nat.le_of_ble_eq_true rfl)) d_Model_strings_282 ⟨Nat.le_of_ble_eq_true rfl, Nat.le_of_ble_eq_true rfl⟩) hS (fun q _ h => hFc q h) hFc (fun r139 u139 t139 H1 locs ht hvm hw hB hz1 hk1 hS => ?_)
    obtain ⟨hP1, hK1, hD1⟩ := hB
    rw [ht] at hP1
    have hP := hP1
    have hD := hD1.weaken (fun _ q _ h => hFc q.1 h)
    have hw : z139_1 = r139 := hw.symm
    subst hw
    generalize H1 = H at hP hS ⊢
    have hP : va_P (dC, dI) classes (wD cB cI o_Model r z139_3 z139_2) H := hP
    have hD : va_D A (wD cB cI o_Model r z139_3 z139_2) := hD
    obtain rfl := Option.some.inj h
    have hP9 := hP
    have hD9 := hD
    have hK9 := hK
    exact W.iret (v := z139_1) hx hb hr (fun t ht hW => ⟨⟨z139_1, (), rfl, rfl, by rw [ht]; exact hP9, va_K.moved hW.alike hK9, hD9⟩, hS.F ht⟩) hS.2.2 d_Model_strings_285
  rw [if_neg s1_40] at h
  by_cases s1_41 : p0 = 41
  · rw [if_pos s1_41] at h
    refine lv_tableIn (off := 285) (tgt := 286) hx hb d_Model_strings_1 (by rw [s1_41]; decide) (by rw [s1_41]; decide) (by rw [s1_41]; decide) (by decide) ?_
    refine lv_aload_n hx hb d_Model_strings_286 rfl (lv_at hl 0 rfl) ?_
    refine lv_iconst (v := 2) hx hb d_Model_strings_287 (by decide) ?_
    refine lv_aload_n hx hb d_Model_strings_288 rfl (lv_at hl 0 rfl) ?_
    refine lv_iconst (v := 1) hx hb d_Model_strings_289 (by decide) ?_
    refine lv_bipush (v := 6) hx hb d_Model_strings_290 (by decide) ?_
    obtain ⟨z140_1, hc140, h⟩ := dz_ob h
    try dsimp only at h
    have hPc := hP
    have hKc := hK
    refine vp_callSi (va_Run.run (va_runV (As := [.int 1, .int 6]) (rest := [.int 2, .ref o_Model]) ⟨hx, hb, hml, hown, hg⟩ (c_Model_is l dC dI N cB cI o_Model r I F (1 : Int32) (6 : Int32) z140_1 hc140) (cwV 2 hg (gd_V k808 k809 k810 k707 k807) rfl rfl rfl (by decide +kernel) ⟨Nat.le_of_ble_eq_true rfl, Nat.le_of_ble_eq_true rfl⟩) ⟨dz_blindR, va_recv hKc hPc (ci := 10) (q0 := 0) rfl rfl, fun U hU hW => ⟨rfl, dz_Nw hW hN, by rw [hU]; exact hPc, va_K.moved hW.alike hKc⟩⟩ rfl rfl hl.1 rfl (lv_room (Nat.le_of_ble_eq_true rfl)) d_Model_strings_292 ⟨Nat.le_of_ble_eq_true rfl, Nat.le_of_ble_eq_true rfl⟩)) (fun r140 hw => ?_)
    obtain ⟨hw, hbz140⟩ := hw
    have hw : z140_1 = r140 := hw.symm
    subst hw
    refine lv_if_eq (tgt := 305) hx hb d_Model_strings_295 (by decide) (fun c141 => ?_) (fun c141 => ?_)
    · rw [if_pos c141] at h
      refine lv_iconst (v := 4) hx hb d_Model_strings_305 (by decide) ?_
      obtain ⟨⟨z142_1, z142_2⟩, hc142, h⟩ := dz_ob h
      try dsimp only at h
      have hPc := hP
      have hKc := hK
      have hDc := hD
      have hFc := dz_freeall hD hS hA
      refine va_calli (va_runV (As := [.int 2, .int 4]) (rest := []) ⟨hx, hb, hml, hown, hg⟩ (c_Model_next l dC dI N cB cI o_Model r I F (2 : Int32) (4 : Int32) s.heap.size (z142_1, z142_2) hc142) (cwV 2 hg (gd_V k871 k872 k873 k707 k870) rfl rfl rfl (by decide +kernel) ⟨Nat.le_of_ble_eq_true rfl, Nat.le_of_ble_eq_true rfl⟩) ⟨dz_blind, va_recv hKc hPc (ci := 10) (q0 := 0) rfl rfl, fun U hU hW => ⟨rfl, dz_Nw hW hN, by rw [hU], by rw [hU]; exact hPc, va_K.moved hW.alike hKc, hDc.weaken (fun _ _ _ _ => trivial)⟩⟩ rfl rfl hl.1 rfl (lv_room (Nat.le_of_ble_eq_true rfl)) d_Model_strings_306 ⟨Nat.le_of_ble_eq_true rfl, Nat.le_of_ble_eq_true rfl⟩) hS (fun q _ h => hFc q h) hFc (fun r142 u142 t142 H1 locs ht hvm hw hB hz1 hk1 hS => ?_)
      obtain ⟨hP1, hK1, hD1⟩ := hB
      rw [ht] at hP1
      have hP := hP1
      have hD := hD1.weaken (fun _ q _ h => hFc q.1 h)
      have hw : z142_1 = r142 := hw.symm
      subst hw
      generalize H1 = H at hP hS ⊢
      have hP : va_P (dC, dI) classes (wD cB cI o_Model r z142_2 F) H := hP
      have hD : va_D A (wD cB cI o_Model r z142_2 F) := hD
      obtain rfl := Option.some.inj h
      have hP9 := hP
      have hD9 := hD
      have hK9 := hK
      exact W.iret (v := z142_1) hx hb hr (fun t ht hW => ⟨⟨z142_1, (), rfl, rfl, by rw [ht]; exact hP9, va_K.moved hW.alike hK9, hD9⟩, hS.F ht⟩) hS.2.2 d_Model_strings_309
    · rw [if_neg c141] at h
      refine lv_aload_n hx hb d_Model_strings_298 rfl (lv_at hl 0 rfl) ?_
      obtain ⟨⟨z143_1, z143_2, z143_3⟩, hc143, h⟩ := dz_ob h
      try dsimp only at h
      have hPc := hP
      have hKc := hK
      have hDc := hD
      have hFc := dz_freeall hD hS hA
      refine va_calli (va_runV (As := []) (rest := [.int 2, .ref o_Model]) ⟨hx, hb, hml, hown, hg⟩ (c_Model_explode l dC dI N cB cI o_Model r I F s.heap.size (z143_1, z143_2, z143_3) hc143) (cwV 0 hg (gd_V k926 k927 k928 k707 k925) rfl rfl rfl (by decide +kernel) ⟨Nat.le_of_ble_eq_true rfl, Nat.le_of_ble_eq_true rfl⟩) ⟨dz_blind, va_recv hKc hPc (ci := 10) (q0 := 0) rfl rfl, fun U hU hW => ⟨rfl, dz_Nw hW hN, by rw [hU], by rw [hU]; exact hPc, va_K.moved hW.alike hKc, hDc.weaken (fun _ _ _ _ => trivial)⟩⟩ rfl rfl hl.1 rfl (lv_room (Nat.le_of_ble_eq_true rfl)) d_Model_strings_299 ⟨Nat.le_of_ble_eq_true rfl, Nat.le_of_ble_eq_true rfl⟩) hS (fun q _ h => hFc q h) hFc (fun r143 u143 t143 H1 locs ht hvm hw hB hz1 hk1 hS => ?_)
      obtain ⟨hP1, hK1, hD1⟩ := hB
      rw [ht] at hP1
      have hP := hP1
      have hD := hD1.weaken (fun _ q _ h => hFc q.1 h)
      have hw : z143_1 = r143 := hw.symm
      subst hw
      generalize H1 = H at hP hS ⊢
      have hP : va_P (dC, dI) classes (wD cB cI o_Model r z143_3 z143_2) H := hP
      have hD : va_D A (wD cB cI o_Model r z143_3 z143_2) := hD
      refine lv_goto (tgt := 306) hx hb d_Model_strings_302 (by decide) ?_
      obtain ⟨⟨z144_1, z144_2⟩, hc144, h⟩ := dz_ob h
      try dsimp only at h
      have hPc := hP
      have hKc := hK
      have hDc := hD
      have hFc := dz_freeall hD hS hA
      refine va_calli (va_runV (As := [.int 2, .int z143_1]) (rest := []) ⟨hx, hb, hml, hown, hg⟩ (c_Model_next l dC dI N cB cI o_Model r z143_3 z143_2 (2 : Int32) z143_1 H.size (z144_1, z144_2) hc144) (cwV 2 hg (gd_V k871 k872 k873 k707 k870) rfl rfl rfl (by decide +kernel) ⟨Nat.le_of_ble_eq_true rfl, Nat.le_of_ble_eq_true rfl⟩) ⟨dz_blind, va_recv hKc hPc (ci := 10) (q0 := 0) rfl rfl, fun U hU hW => ⟨rfl, dz_Nw hW hN, by rw [hU], by rw [hU]; exact hPc, va_K.moved hW.alike hKc, hDc.weaken (fun _ _ _ _ => trivial)⟩⟩ rfl rfl hl.1 rfl (lv_room (Nat.le_of_ble_eq_true rfl)) d_Model_strings_306 ⟨Nat.le_of_ble_eq_true rfl, Nat.le_of_ble_eq_true rfl⟩) hS (fun q _ h => hFc q h) hFc (fun r144 u144 t144 H1 locs ht hvm hw hB hz1 hk1 hS => ?_)
      obtain ⟨hP1, hK1, hD1⟩ := hB
      rw [ht] at hP1
      have hP := hP1
      have hD := hD1.weaken (fun _ q _ h => hFc q.1 h)
      have hw : z144_1 = r144 := hw.symm
      subst hw
      generalize H1 = H at hP hS ⊢
      have hP : va_P (dC, dI) classes (wD cB cI o_Model r z144_2 z143_2) H := hP
      have hD : va_D A (wD cB cI o_Model r z144_2 z143_2) := hD
      obtain rfl := Option.some.inj h
      have hP9 := hP
      have hD9 := hD
      have hK9 := hK
      exact W.iret (v := z144_1) hx hb hr (fun t ht hW => ⟨⟨z144_1, (), rfl, rfl, by rw [ht]; exact hP9, va_K.moved hW.alike hK9, hD9⟩, hS.F ht⟩) hS.2.2 d_Model_strings_309
  rw [if_neg s1_41] at h
  refine lv_tableOut (tgt := 310) hx hb d_Model_strings_1 (by have q0 := lv_neT s1_27 (a := 27) (by decide); have q1 := lv_neT s1_28 (a := 28) (by decide); have q2 := lv_neT s1_29 (a := 29) (by decide); have q3 := lv_neT s1_30 (a := 30) (by decide); have q4 := lv_neT s1_31 (a := 31) (by decide); have q5 := lv_neT s1_32 (a := 32) (by decide); have q6 := lv_neT s1_33 (a := 33) (by decide); have q7 := lv_neT s1_34 (a := 34) (by decide); have q8 := lv_neT s1_35 (a := 35) (by decide); have q9 := lv_neT s1_36 (a := 36) (by decide); have q10 := lv_neT s1_37 (a := 37) (by decide); have q11 := lv_neT s1_38 (a := 38) (by decide); have q12 := lv_neT s1_39 (a := 39) (by decide); have q13 := lv_neT s1_40 (a := 40) (by decide); have q14 := lv_neT s1_41 (a := 41) (by decide); omega) (by decide) ?_
  refine lv_aload_n hx hb d_Model_strings_310 rfl (lv_at hl 0 rfl) ?_
  refine lv_iconst (v := 2) hx hb d_Model_strings_311 (by decide) ?_
  refine lv_aload_n hx hb d_Model_strings_312 rfl (lv_at hl 0 rfl) ?_
  refine lv_iconst (v := 1) hx hb d_Model_strings_313 (by decide) ?_
  refine lv_bipush (v := 6) hx hb d_Model_strings_314 (by decide) ?_
  obtain ⟨z145_1, hc145, h⟩ := dz_ob h
  try dsimp only at h
  have hPc := hP
  have hKc := hK
  refine vp_callSi (va_Run.run (va_runV (As := [.int 1, .int 6]) (rest := [.int 2, .ref o_Model]) ⟨hx, hb, hml, hown, hg⟩ (c_Model_is l dC dI N cB cI o_Model r I F (1 : Int32) (6 : Int32) z145_1 hc145) (cwV 2 hg (gd_V k808 k809 k810 k707 k807) rfl rfl rfl (by decide +kernel) ⟨Nat.le_of_ble_eq_true rfl, Nat.le_of_ble_eq_true rfl⟩) ⟨dz_blindR, va_recv hKc hPc (ci := 10) (q0 := 0) rfl rfl, fun U hU hW => ⟨rfl, dz_Nw hW hN, by rw [hU]; exact hPc, va_K.moved hW.alike hKc⟩⟩ rfl rfl hl.1 rfl (lv_room (Nat.le_of_ble_eq_true rfl)) d_Model_strings_316 ⟨Nat.le_of_ble_eq_true rfl, Nat.le_of_ble_eq_true rfl⟩)) (fun r145 hw => ?_)
  obtain ⟨hw, hbz145⟩ := hw
  have hw : z145_1 = r145 := hw.symm
  subst hw
  refine lv_if_eq (tgt := 359) hx hb d_Model_strings_319 (by decide) (fun c146 => ?_) (fun c146 => ?_)
  · rw [if_pos c146] at h
    refine lv_iconst (v := 4) hx hb d_Model_strings_359 (by decide) ?_
    obtain ⟨⟨z147_1, z147_2⟩, hc147, h⟩ := dz_ob h
    try dsimp only at h
    have hPc := hP
    have hKc := hK
    have hDc := hD
    have hFc := dz_freeall hD hS hA
    refine va_calli (va_runV (As := [.int 2, .int 4]) (rest := []) ⟨hx, hb, hml, hown, hg⟩ (c_Model_next l dC dI N cB cI o_Model r I F (2 : Int32) (4 : Int32) s.heap.size (z147_1, z147_2) hc147) (cwV 2 hg (gd_V k871 k872 k873 k707 k870) rfl rfl rfl (by decide +kernel) ⟨Nat.le_of_ble_eq_true rfl, Nat.le_of_ble_eq_true rfl⟩) ⟨dz_blind, va_recv hKc hPc (ci := 10) (q0 := 0) rfl rfl, fun U hU hW => ⟨rfl, dz_Nw hW hN, by rw [hU], by rw [hU]; exact hPc, va_K.moved hW.alike hKc, hDc.weaken (fun _ _ _ _ => trivial)⟩⟩ rfl rfl hl.1 rfl (lv_room (Nat.le_of_ble_eq_true rfl)) d_Model_strings_360 ⟨Nat.le_of_ble_eq_true rfl, Nat.le_of_ble_eq_true rfl⟩) hS (fun q _ h => hFc q h) hFc (fun r147 u147 t147 H1 locs ht hvm hw hB hz1 hk1 hS => ?_)
    obtain ⟨hP1, hK1, hD1⟩ := hB
    rw [ht] at hP1
    have hP := hP1
    have hD := hD1.weaken (fun _ q _ h => hFc q.1 h)
    have hw : z147_1 = r147 := hw.symm
    subst hw
    generalize H1 = H at hP hS ⊢
    have hP : va_P (dC, dI) classes (wD cB cI o_Model r z147_2 F) H := hP
    have hD : va_D A (wD cB cI o_Model r z147_2 F) := hD
    obtain rfl := Option.some.inj h
    have hP9 := hP
    have hD9 := hD
    have hK9 := hK
    exact W.iret (v := z147_1) hx hb hr (fun t ht hW => ⟨⟨z147_1, (), rfl, rfl, by rw [ht]; exact hP9, va_K.moved hW.alike hK9, hD9⟩, hS.F ht⟩) hS.2.2 d_Model_strings_363
  · rw [if_neg c146] at h
    refine lv_aload_n hx hb d_Model_strings_322 rfl (lv_at hl 0 rfl) ?_
    refine lv_iconst (v := 2) hx hb d_Model_strings_323 (by decide) ?_
    refine lv_bipush (v := 6) hx hb d_Model_strings_324 (by decide) ?_
    obtain ⟨z148_1, hc148, h⟩ := dz_ob h
    try dsimp only at h
    have hPc := hP
    have hKc := hK
    refine vp_callSi (va_Run.run (va_runV (As := [.int 2, .int 6]) (rest := [.int 2, .ref o_Model]) ⟨hx, hb, hml, hown, hg⟩ (c_Model_is l dC dI N cB cI o_Model r I F (2 : Int32) (6 : Int32) z148_1 hc148) (cwV 2 hg (gd_V k808 k809 k810 k707 k807) rfl rfl rfl (by decide +kernel) ⟨Nat.le_of_ble_eq_true rfl, Nat.le_of_ble_eq_true rfl⟩) ⟨dz_blindR, va_recv hKc hPc (ci := 10) (q0 := 0) rfl rfl, fun U hU hW => ⟨rfl, dz_Nw hW hN, by rw [hU]; exact hPc, va_K.moved hW.alike hKc⟩⟩ rfl rfl hl.1 rfl (lv_room (Nat.le_of_ble_eq_true rfl)) d_Model_strings_326 ⟨Nat.le_of_ble_eq_true rfl, Nat.le_of_ble_eq_true rfl⟩)) (fun r148 hw => ?_)
    obtain ⟨hw, hbz148⟩ := hw
    have hw : z148_1 = r148 := hw.symm
    subst hw
    refine lv_if_eq (tgt := 359) hx hb d_Model_strings_329 (by decide) (fun c149 => ?_) (fun c149 => ?_)
    · rw [if_pos c149] at h
      refine lv_iconst (v := 4) hx hb d_Model_strings_359 (by decide) ?_
      obtain ⟨⟨z150_1, z150_2⟩, hc150, h⟩ := dz_ob h
      try dsimp only at h
      have hPc := hP
      have hKc := hK
      have hDc := hD
      have hFc := dz_freeall hD hS hA
      refine va_calli (va_runV (As := [.int 2, .int 4]) (rest := []) ⟨hx, hb, hml, hown, hg⟩ (c_Model_next l dC dI N cB cI o_Model r I F (2 : Int32) (4 : Int32) s.heap.size (z150_1, z150_2) hc150) (cwV 2 hg (gd_V k871 k872 k873 k707 k870) rfl rfl rfl (by decide +kernel) ⟨Nat.le_of_ble_eq_true rfl, Nat.le_of_ble_eq_true rfl⟩) ⟨dz_blind, va_recv hKc hPc (ci := 10) (q0 := 0) rfl rfl, fun U hU hW => ⟨rfl, dz_Nw hW hN, by rw [hU], by rw [hU]; exact hPc, va_K.moved hW.alike hKc, hDc.weaken (fun _ _ _ _ => trivial)⟩⟩ rfl rfl hl.1 rfl (lv_room (Nat.le_of_ble_eq_true rfl)) d_Model_strings_360 ⟨Nat.le_of_ble_eq_true rfl, Nat.le_of_ble_eq_true rfl⟩) hS (fun q _ h => hFc q h) hFc (fun r150 u150 t150 H1 locs ht hvm hw hB hz1 hk1 hS => ?_)
      obtain ⟨hP1, hK1, hD1⟩ := hB
      rw [ht] at hP1
      have hP := hP1
      have hD := hD1.weaken (fun _ q _ h => hFc q.1 h)
      have hw : z150_1 = r150 := hw.symm
      subst hw
      generalize H1 = H at hP hS ⊢
      have hP : va_P (dC, dI) classes (wD cB cI o_Model r z150_2 F) H := hP
      have hD : va_D A (wD cB cI o_Model r z150_2 F) := hD
      obtain rfl := Option.some.inj h
      have hP9 := hP
      have hD9 := hD
      have hK9 := hK
      exact W.iret (v := z150_1) hx hb hr (fun t ht hW => ⟨⟨z150_1, (), rfl, rfl, by rw [ht]; exact hP9, va_K.moved hW.alike hK9, hD9⟩, hS.F ht⟩) hS.2.2 d_Model_strings_363
    · rw [if_neg c149] at h
      refine lv_aload_n hx hb d_Model_strings_332 rfl (lv_at hl 0 rfl) ?_
      refine lv_iconst (v := 2) hx hb d_Model_strings_333 (by decide) ?_
      refine lv_iconst (v := 0) hx hb d_Model_strings_334 (by decide) ?_
      refine lv_iload_n hx hb d_Model_strings_335 rfl (lv_at hl 1 rfl) ?_
      refine lv_aload_n hx hb d_Model_strings_336 rfl (lv_at hl 0 rfl) ?_
      refine lv_aload_n hx hb d_Model_strings_337 rfl (lv_at hl 0 rfl) ?_
      refine lv_iconst (v := 2) hx hb d_Model_strings_338 (by decide) ?_
      obtain ⟨z151_1, hc151, h⟩ := dz_ob h
      try dsimp only at h
      have hPc := hP
      have hKc := hK
      refine vp_callSi (va_Run.run (va_runV (As := [.int 2]) (rest := [.ref o_Model, .int p0, .int 0, .int 2, .ref o_Model, .int 2, .ref o_Model]) ⟨hx, hb, hml, hown, hg⟩ (c_Model_scalar l dC dI N cB cI o_Model r I F (2 : Int32) z151_1 hc151) (cwV 1 hg (gd_V k804 k805 k806 k707 k803) rfl rfl rfl (by decide +kernel) ⟨Nat.le_of_ble_eq_true rfl, Nat.le_of_ble_eq_true rfl⟩) ⟨dz_blindR, va_recv hKc hPc (ci := 10) (q0 := 0) rfl rfl, fun U hU hW => ⟨rfl, dz_Nw hW hN, by rw [hU]; exact hPc, va_K.moved hW.alike hKc⟩⟩ rfl rfl hl.1 rfl (lv_room (Nat.le_of_ble_eq_true rfl)) d_Model_strings_339 ⟨Nat.le_of_ble_eq_true rfl, Nat.le_of_ble_eq_true rfl⟩)) (fun r151 hw => ?_)
      have hw : z151_1 = r151 := hw.symm
      subst hw
      refine lv_aload_n hx hb d_Model_strings_342 rfl (lv_at hl 0 rfl) ?_
      refine lv_iconst (v := 1) hx hb d_Model_strings_343 (by decide) ?_
      obtain ⟨z152_1, hc152, h⟩ := dz_ob h
      try dsimp only at h
      have hPc := hP
      have hKc := hK
      refine vp_callSi (va_Run.run (va_runV (As := [.int 1]) (rest := [.int z151_1, .ref o_Model, .int p0, .int 0, .int 2, .ref o_Model, .int 2, .ref o_Model]) ⟨hx, hb, hml, hown, hg⟩ (c_Model_scalar l dC dI N cB cI o_Model r I F (1 : Int32) z152_1 hc152) (cwV 1 hg (gd_V k804 k805 k806 k707 k803) rfl rfl rfl (by decide +kernel) ⟨Nat.le_of_ble_eq_true rfl, Nat.le_of_ble_eq_true rfl⟩) ⟨dz_blindR, va_recv hKc hPc (ci := 10) (q0 := 0) rfl rfl, fun U hU hW => ⟨rfl, dz_Nw hW hN, by rw [hU]; exact hPc, va_K.moved hW.alike hKc⟩⟩ rfl rfl hl.1 rfl (lv_room (Nat.le_of_ble_eq_true rfl)) d_Model_strings_344 ⟨Nat.le_of_ble_eq_true rfl, Nat.le_of_ble_eq_true rfl⟩)) (fun r152 hw => ?_)
      have hw : z152_1 = r152 := hw.symm
      subst hw
      obtain ⟨z153_1, hc153, h⟩ := dz_ob h
      try dsimp only at h
      have hPc := hP
      have hKc := hK
      refine vp_callSi (va_Run.run (va_runV (As := [.int z151_1, .int z152_1]) (rest := [.int p0, .int 0, .int 2, .ref o_Model, .int 2, .ref o_Model]) ⟨hx, hb, hml, hown, hg⟩ (c_Model_compare l dC dI N cB cI o_Model r I F z151_1 z152_1 z153_1 hc153) (cwV 2 hg (gd_V k858 k859 k860 k707 k857) rfl rfl rfl (by decide +kernel) ⟨Nat.le_of_ble_eq_true rfl, Nat.le_of_ble_eq_true rfl⟩) ⟨dz_blindR, va_recv hKc hPc (ci := 10) (q0 := 0) rfl rfl, fun U hU hW => ⟨rfl, dz_Nw hW hN, by rw [hU]; exact hPc, va_K.moved hW.alike hKc⟩⟩ rfl rfl hl.1 rfl (lv_room (Nat.le_of_ble_eq_true rfl)) d_Model_strings_347 ⟨Nat.le_of_ble_eq_true rfl, Nat.le_of_ble_eq_true rfl⟩)) (fun r153 hw => ?_)
      have hw : z153_1 = r153 := hw.symm
      subst hw
      obtain ⟨z154_1, hc154, h⟩ := dz_ob h
      try dsimp only at h
      have hPc := hP.sub (ws' := []) [] rfl
      have hKc := hK.sub (tys' := []) [] rfl
      refine vp_callSi (va_Run.run (va_runS (As := [.int p0, .int z153_1]) (rest := [.int 0, .int 2, .ref o_Model, .int 2, .ref o_Model]) ⟨hx, hb, hml, hown, hg⟩ (c_Model_ordered l dC dI N p0 z153_1 z154_1 hc154) (va_cwS 2 hg (gd_S k911 k912 k707 k910) rfl rfl rfl (by decide +kernel) ⟨Nat.le_of_ble_eq_true rfl, Nat.le_of_ble_eq_true rfl⟩) ⟨dz_blindR, fun U hU hW => ⟨rfl, dz_Nw hW hN, by rw [hU]; exact hPc, va_K.moved hW.alike hKc⟩⟩ rfl rfl hl.1 rfl (lv_room (Nat.le_of_ble_eq_true rfl)) d_Model_strings_350 ⟨Nat.le_of_ble_eq_true rfl, Nat.le_of_ble_eq_true rfl⟩)) (fun r154 hw => ?_)
      have hw : z154_1 = r154 := hw.symm
      subst hw
      obtain ⟨⟨z155_1, z155_2, z155_3⟩, hc155, h⟩ := dz_ob h
      try dsimp only at h
      have hPc := hP
      have hKc := hK
      have hDc := hD
      have hFc := dz_freeall hD hS hA
      refine va_calli (va_runV (As := [.int 2, .int 0, .int z154_1]) (rest := [.int 2, .ref o_Model]) ⟨hx, hb, hml, hown, hg⟩ (c_Model_give l dC dI N cB cI o_Model r I F (2 : Int32) (0 : Int32) z154_1 s.heap.size (z155_1, z155_2, z155_3) hc155) (cwV 3 hg (gd_V k734 k735 k736 k707 k733) rfl rfl rfl (by decide +kernel) ⟨Nat.le_of_ble_eq_true rfl, Nat.le_of_ble_eq_true rfl⟩) ⟨dz_blind, va_recv hKc hPc (ci := 10) (q0 := 0) rfl rfl, fun U hU hW => ⟨rfl, dz_Nw hW hN, by rw [hU], by rw [hU]; exact hPc, va_K.moved hW.alike hKc, hDc.weaken (fun _ _ _ _ => trivial)⟩⟩ rfl rfl hl.1 rfl (lv_room (Nat.le_of_ble_eq_true rfl)) d_Model_strings_353 ⟨Nat.le_of_ble_eq_true rfl, Nat.le_of_ble_eq_true rfl⟩) hS (fun q _ h => hFc q h) hFc (fun r155 u155 t155 H1 locs ht hvm hw hB hz1 hk1 hS => ?_)
      obtain ⟨hP1, hK1, hD1⟩ := hB
      rw [ht] at hP1
      have hP := hP1
      have hD := hD1.weaken (fun _ q _ h => hFc q.1 h)
      have hw : z155_1 = r155 := hw.symm
      subst hw
      generalize H1 = H at hP hS ⊢
      have hP : va_P (dC, dI) classes (wD cB cI o_Model r z155_3 z155_2) H := hP
      have hD : va_D A (wD cB cI o_Model r z155_3 z155_2) := hD
      refine lv_goto (tgt := 360) hx hb d_Model_strings_356 (by decide) ?_
      obtain ⟨⟨z156_1, z156_2⟩, hc156, h⟩ := dz_ob h
      try dsimp only at h
      have hPc := hP
      have hKc := hK
      have hDc := hD
      have hFc := dz_freeall hD hS hA
      refine va_calli (va_runV (As := [.int 2, .int z155_1]) (rest := []) ⟨hx, hb, hml, hown, hg⟩ (c_Model_next l dC dI N cB cI o_Model r z155_3 z155_2 (2 : Int32) z155_1 H.size (z156_1, z156_2) hc156) (cwV 2 hg (gd_V k871 k872 k873 k707 k870) rfl rfl rfl (by decide +kernel) ⟨Nat.le_of_ble_eq_true rfl, Nat.le_of_ble_eq_true rfl⟩) ⟨dz_blind, va_recv hKc hPc (ci := 10) (q0 := 0) rfl rfl, fun U hU hW => ⟨rfl, dz_Nw hW hN, by rw [hU], by rw [hU]; exact hPc, va_K.moved hW.alike hKc, hDc.weaken (fun _ _ _ _ => trivial)⟩⟩ rfl rfl hl.1 rfl (lv_room (Nat.le_of_ble_eq_true rfl)) d_Model_strings_360 ⟨Nat.le_of_ble_eq_true rfl, Nat.le_of_ble_eq_true rfl⟩) hS (fun q _ h => hFc q h) hFc (fun r156 u156 t156 H1 locs ht hvm hw hB hz1 hk1 hS => ?_)
      obtain ⟨hP1, hK1, hD1⟩ := hB
      rw [ht] at hP1
      have hP := hP1
      have hD := hD1.weaken (fun _ q _ h => hFc q.1 h)
      have hw : z156_1 = r156 := hw.symm
      subst hw
      generalize H1 = H at hP hS ⊢
      have hP : va_P (dC, dI) classes (wD cB cI o_Model r z156_2 z155_2) H := hP
      have hD : va_D A (wD cB cI o_Model r z156_2 z155_2) := hD
      obtain rfl := Option.some.inj h
      have hP9 := hP
      have hD9 := hD
      have hK9 := hK
      exact W.iret (v := z156_1) hx hb hr (fun t ht hW => ⟨⟨z156_1, (), rfl, rfl, by rw [ht]; exact hP9, va_K.moved hW.alike hK9, hD9⟩, hS.F ht⟩) hS.2.2 d_Model_strings_363
