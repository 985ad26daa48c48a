theorem d_Arrays_copyOfI_0 : decode b_Arrays_copyOfI 0 = .ok (.iload_n 1, 1) := by decide +kernel
theorem d_Arrays_copyOfI_1 : decode b_Arrays_copyOfI 1 = .ok (.aload_n 0, 1) := by decide +kernel
theorem d_Arrays_copyOfI_2 : decode b_Arrays_copyOfI 2 = .ok (.arraylength, 1) := by decide +kernel
theorem d_Arrays_copyOfI_3 : decode b_Arrays_copyOfI 3 = .ok (.if_icmp .ne 11, 3) := by decide +kernel
theorem d_Arrays_copyOfI_6 : decode b_Arrays_copyOfI 6 = .ok (.aload_n 0, 1) := by decide +kernel
theorem d_Arrays_copyOfI_7 : decode b_Arrays_copyOfI 7 = .ok (.invokevirtual 316, 3) := by decide +kernel
theorem d_Arrays_copyOfI_10 : decode b_Arrays_copyOfI 10 = .ok (.checkcast 317, 3) := by decide +kernel
theorem d_Arrays_copyOfI_13 : decode b_Arrays_copyOfI 13 = .ok (.areturn, 1) := by decide +kernel
theorem d_Arrays_copyOfI_14 : decode b_Arrays_copyOfI 14 = .ok (.iload_n 1, 1) := by decide +kernel
theorem d_Arrays_copyOfI_15 : decode b_Arrays_copyOfI 15 = .ok (.newarray .int, 2) := by decide +kernel
theorem d_Arrays_copyOfI_17 : decode b_Arrays_copyOfI 17 = .ok (.astore_n 2, 1) := by decide +kernel
theorem d_Arrays_copyOfI_18 : decode b_Arrays_copyOfI 18 = .ok (.aload_n 0, 1) := by decide +kernel
theorem d_Arrays_copyOfI_19 : decode b_Arrays_copyOfI 19 = .ok (.iconst 0, 1) := by decide +kernel
theorem d_Arrays_copyOfI_20 : decode b_Arrays_copyOfI 20 = .ok (.aload_n 2, 1) := by decide +kernel
theorem d_Arrays_copyOfI_21 : decode b_Arrays_copyOfI 21 = .ok (.iconst 0, 1) := by decide +kernel
theorem d_Arrays_copyOfI_22 : decode b_Arrays_copyOfI 22 = .ok (.aload_n 0, 1) := by decide +kernel
theorem d_Arrays_copyOfI_23 : decode b_Arrays_copyOfI 23 = .ok (.arraylength, 1) := by decide +kernel
theorem d_Arrays_copyOfI_24 : decode b_Arrays_copyOfI 24 = .ok (.iload_n 1, 1) := by decide +kernel
theorem d_Arrays_copyOfI_25 : decode b_Arrays_copyOfI 25 = .ok (.invokestatic 304, 3) := by decide +kernel
theorem d_Arrays_copyOfI_28 : decode b_Arrays_copyOfI 28 = .ok (.invokestatic 150, 3) := by decide +kernel
theorem d_Arrays_copyOfI_31 : decode b_Arrays_copyOfI 31 = .ok (.aload_n 2, 1) := by decide +kernel
theorem d_Arrays_copyOfI_32 : decode b_Arrays_copyOfI 32 = .ok (.areturn, 1) := by decide +kernel
theorem d_Arrays_copyOfJ_0 : decode b_Arrays_copyOfJ 0 = .ok (.iload_n 1, 1) := by decide +kernel
theorem d_Arrays_copyOfJ_1 : decode b_Arrays_copyOfJ 1 = .ok (.aload_n 0, 1) := by decide +kernel
theorem d_Arrays_copyOfJ_2 : decode b_Arrays_copyOfJ 2 = .ok (.arraylength, 1) := by decide +kernel
theorem d_Arrays_copyOfJ_3 : decode b_Arrays_copyOfJ 3 = .ok (.if_icmp .ne 11, 3) := by decide +kernel
theorem d_Arrays_copyOfJ_6 : decode b_Arrays_copyOfJ 6 = .ok (.aload_n 0, 1) := by decide +kernel
theorem d_Arrays_copyOfJ_7 : decode b_Arrays_copyOfJ 7 = .ok (.invokevirtual 319, 3) := by decide +kernel
theorem d_Arrays_copyOfJ_10 : decode b_Arrays_copyOfJ 10 = .ok (.checkcast 320, 3) := by decide +kernel
theorem d_Arrays_copyOfJ_13 : decode b_Arrays_copyOfJ 13 = .ok (.areturn, 1) := by decide +kernel
theorem d_Arrays_copyOfJ_14 : decode b_Arrays_copyOfJ 14 = .ok (.iload_n 1, 1) := by decide +kernel
theorem d_Arrays_copyOfJ_15 : decode b_Arrays_copyOfJ 15 = .ok (.newarray .long, 2) := by decide +kernel
theorem d_Arrays_copyOfJ_17 : decode b_Arrays_copyOfJ 17 = .ok (.astore_n 2, 1) := by decide +kernel
theorem d_Arrays_copyOfJ_18 : decode b_Arrays_copyOfJ 18 = .ok (.aload_n 0, 1) := by decide +kernel
theorem d_Arrays_copyOfJ_19 : decode b_Arrays_copyOfJ 19 = .ok (.iconst 0, 1) := by decide +kernel
theorem d_Arrays_copyOfJ_20 : decode b_Arrays_copyOfJ 20 = .ok (.aload_n 2, 1) := by decide +kernel
theorem d_Arrays_copyOfJ_21 : decode b_Arrays_copyOfJ 21 = .ok (.iconst 0, 1) := by decide +kernel
theorem d_Arrays_copyOfJ_22 : decode b_Arrays_copyOfJ 22 = .ok (.aload_n 0, 1) := by decide +kernel
theorem d_Arrays_copyOfJ_23 : decode b_Arrays_copyOfJ 23 = .ok (.arraylength, 1) := by decide +kernel
theorem d_Arrays_copyOfJ_24 : decode b_Arrays_copyOfJ 24 = .ok (.iload_n 1, 1) := by decide +kernel
theorem d_Arrays_copyOfJ_25 : decode b_Arrays_copyOfJ 25 = .ok (.invokestatic 304, 3) := by decide +kernel
theorem d_Arrays_copyOfJ_28 : decode b_Arrays_copyOfJ 28 = .ok (.invokestatic 150, 3) := by decide +kernel
theorem d_Arrays_copyOfJ_31 : decode b_Arrays_copyOfJ 31 = .ok (.aload_n 2, 1) := by decide +kernel
theorem d_Arrays_copyOfJ_32 : decode b_Arrays_copyOfJ 32 = .ok (.areturn, 1) := by decide +kernel
theorem d_Arrays_copyOfB_0 : decode b_Arrays_copyOfB 0 = .ok (.iload_n 1, 1) := by decide +kernel
theorem d_Arrays_copyOfB_1 : decode b_Arrays_copyOfB 1 = .ok (.aload_n 0, 1) := by decide +kernel
theorem d_Arrays_copyOfB_2 : decode b_Arrays_copyOfB 2 = .ok (.arraylength, 1) := by decide +kernel
theorem d_Arrays_copyOfB_3 : decode b_Arrays_copyOfB 3 = .ok (.if_icmp .ne 11, 3) := by decide +kernel
theorem d_Arrays_copyOfB_6 : decode b_Arrays_copyOfB 6 = .ok (.aload_n 0, 1) := by decide +kernel
theorem d_Arrays_copyOfB_7 : decode b_Arrays_copyOfB 7 = .ok (.invokevirtual 310, 3) := by decide +kernel
theorem d_Arrays_copyOfB_10 : decode b_Arrays_copyOfB 10 = .ok (.checkcast 311, 3) := by decide +kernel
theorem d_Arrays_copyOfB_13 : decode b_Arrays_copyOfB 13 = .ok (.areturn, 1) := by decide +kernel
theorem d_Arrays_copyOfB_14 : decode b_Arrays_copyOfB 14 = .ok (.iload_n 1, 1) := by decide +kernel
theorem d_Arrays_copyOfB_15 : decode b_Arrays_copyOfB 15 = .ok (.newarray .byte, 2) := by decide +kernel
theorem d_Arrays_copyOfB_17 : decode b_Arrays_copyOfB 17 = .ok (.astore_n 2, 1) := by decide +kernel
theorem d_Arrays_copyOfB_18 : decode b_Arrays_copyOfB 18 = .ok (.aload_n 0, 1) := by decide +kernel
theorem d_Arrays_copyOfB_19 : decode b_Arrays_copyOfB 19 = .ok (.iconst 0, 1) := by decide +kernel
theorem d_Arrays_copyOfB_20 : decode b_Arrays_copyOfB 20 = .ok (.aload_n 2, 1) := by decide +kernel
theorem d_Arrays_copyOfB_21 : decode b_Arrays_copyOfB 21 = .ok (.iconst 0, 1) := by decide +kernel
theorem d_Arrays_copyOfB_22 : decode b_Arrays_copyOfB 22 = .ok (.aload_n 0, 1) := by decide +kernel
theorem d_Arrays_copyOfB_23 : decode b_Arrays_copyOfB 23 = .ok (.arraylength, 1) := by decide +kernel
theorem d_Arrays_copyOfB_24 : decode b_Arrays_copyOfB 24 = .ok (.iload_n 1, 1) := by decide +kernel
theorem d_Arrays_copyOfB_25 : decode b_Arrays_copyOfB 25 = .ok (.invokestatic 304, 3) := by decide +kernel
theorem d_Arrays_copyOfB_28 : decode b_Arrays_copyOfB 28 = .ok (.invokestatic 150, 3) := by decide +kernel
theorem d_Arrays_copyOfB_31 : decode b_Arrays_copyOfB 31 = .ok (.aload_n 2, 1) := by decide +kernel
theorem d_Arrays_copyOfB_32 : decode b_Arrays_copyOfB 32 = .ok (.areturn, 1) := by decide +kernel
theorem d_Arrays_rangeCheck_0 : decode b_Arrays_rangeCheck 0 = .ok (.iload_n 1, 1) := by decide +kernel
theorem d_Arrays_rangeCheck_1 : decode b_Arrays_rangeCheck 1 = .ok (.iload_n 2, 1) := by decide +kernel
theorem d_Arrays_rangeCheck_2 : decode b_Arrays_rangeCheck 2 = .ok (.if_icmp .le 44, 3) := by decide +kernel
theorem d_Arrays_rangeCheck_5 : decode b_Arrays_rangeCheck 5 = .ok (.new 43, 3) := by decide +kernel
theorem d_Arrays_rangeCheck_8 : decode b_Arrays_rangeCheck 8 = .ok (.dup, 1) := by decide +kernel
theorem d_Arrays_rangeCheck_9 : decode b_Arrays_rangeCheck 9 = .ok (.new 45, 3) := by decide +kernel
theorem d_Arrays_rangeCheck_12 : decode b_Arrays_rangeCheck 12 = .ok (.dup, 1) := by decide +kernel
theorem d_Arrays_rangeCheck_13 : decode b_Arrays_rangeCheck 13 = .ok (.invokespecial 47, 3) := by decide +kernel
theorem d_Arrays_rangeCheck_16 : decode b_Arrays_rangeCheck 16 = .ok (.ldc 48, 2) := by decide +kernel
theorem d_Arrays_rangeCheck_18 : decode b_Arrays_rangeCheck 18 = .ok (.invokevirtual 50, 3) := by decide +kernel
theorem d_Arrays_rangeCheck_21 : decode b_Arrays_rangeCheck 21 = .ok (.iload_n 1, 1) := by decide +kernel
theorem d_Arrays_rangeCheck_22 : decode b_Arrays_rangeCheck 22 = .ok (.invokevirtual 54, 3) := by decide +kernel
theorem d_Arrays_rangeCheck_25 : decode b_Arrays_rangeCheck 25 = .ok (.ldc 57, 2) := by decide +kernel
theorem d_Arrays_rangeCheck_27 : decode b_Arrays_rangeCheck 27 = .ok (.invokevirtual 50, 3) := by decide +kernel
theorem d_Arrays_rangeCheck_30 : decode b_Arrays_rangeCheck 30 = .ok (.iload_n 2, 1) := by decide +kernel
theorem d_Arrays_rangeCheck_31 : decode b_Arrays_rangeCheck 31 = .ok (.invokevirtual 54, 3) := by decide +kernel
theorem d_Arrays_rangeCheck_34 : decode b_Arrays_rangeCheck 34 = .ok (.ldc 59, 2) := by decide +kernel
theorem d_Arrays_rangeCheck_36 : decode b_Arrays_rangeCheck 36 = .ok (.invokevirtual 50, 3) := by decide +kernel
theorem d_Arrays_rangeCheck_39 : decode b_Arrays_rangeCheck 39 = .ok (.invokevirtual 61, 3) := by decide +kernel
theorem d_Arrays_rangeCheck_42 : decode b_Arrays_rangeCheck 42 = .ok (.invokespecial 65, 3) := by decide +kernel
theorem d_Arrays_rangeCheck_45 : decode b_Arrays_rangeCheck 45 = .ok (.athrow, 1) := by decide +kernel
theorem d_Arrays_rangeCheck_46 : decode b_Arrays_rangeCheck 46 = .ok (.iload_n 1, 1) := by decide +kernel
theorem d_Arrays_rangeCheck_47 : decode b_Arrays_rangeCheck 47 = .ok (.ifCond .ge 12, 3) := by decide +kernel
theorem d_Arrays_rangeCheck_50 : decode b_Arrays_rangeCheck 50 = .ok (.new 68, 3) := by decide +kernel
theorem d_Arrays_rangeCheck_53 : decode b_Arrays_rangeCheck 53 = .ok (.dup, 1) := by decide +kernel
theorem d_Arrays_rangeCheck_54 : decode b_Arrays_rangeCheck 54 = .ok (.iload_n 1, 1) := by decide +kernel
theorem d_Arrays_rangeCheck_55 : decode b_Arrays_rangeCheck 55 = .ok (.invokespecial 70, 3) := by decide +kernel
theorem d_Arrays_rangeCheck_58 : decode b_Arrays_rangeCheck 58 = .ok (.athrow, 1) := by decide +kernel
theorem d_Arrays_rangeCheck_59 : decode b_Arrays_rangeCheck 59 = .ok (.iload_n 2, 1) := by decide +kernel
theorem d_Arrays_rangeCheck_60 : decode b_Arrays_rangeCheck 60 = .ok (.iload_n 0, 1) := by decide +kernel
theorem d_Arrays_rangeCheck_61 : decode b_Arrays_rangeCheck 61 = .ok (.if_icmp .le 12, 3) := by decide +kernel
theorem d_Arrays_rangeCheck_64 : decode b_Arrays_rangeCheck 64 = .ok (.new 68, 3) := by decide +kernel
theorem d_Arrays_rangeCheck_67 : decode b_Arrays_rangeCheck 67 = .ok (.dup, 1) := by decide +kernel
theorem d_Arrays_rangeCheck_68 : decode b_Arrays_rangeCheck 68 = .ok (.iload_n 2, 1) := by decide +kernel
theorem d_Arrays_rangeCheck_69 : decode b_Arrays_rangeCheck 69 = .ok (.invokespecial 70, 3) := by decide +kernel
theorem d_Arrays_rangeCheck_72 : decode b_Arrays_rangeCheck 72 = .ok (.athrow, 1) := by decide +kernel
theorem d_Arrays_rangeCheck_73 : decode b_Arrays_rangeCheck 73 = .ok (.return_, 1) := by decide +kernel
theorem d_Arrays_fill_0 : decode b_Arrays_fill 0 = .ok (.aload_n 0, 1) := by decide +kernel
theorem d_Arrays_fill_1 : decode b_Arrays_fill 1 = .ok (.arraylength, 1) := by decide +kernel
theorem d_Arrays_fill_2 : decode b_Arrays_fill 2 = .ok (.iload_n 1, 1) := by decide +kernel
theorem d_Arrays_fill_3 : decode b_Arrays_fill 3 = .ok (.iload_n 2, 1) := by decide +kernel
theorem d_Arrays_fill_4 : decode b_Arrays_fill 4 = .ok (.invokestatic 13, 3) := by decide +kernel
theorem d_Arrays_fill_7 : decode b_Arrays_fill 7 = .ok (.iload_n 1, 1) := by decide +kernel
theorem d_Arrays_fill_8 : decode b_Arrays_fill 8 = .ok (.istore 5, 2) := by decide +kernel
theorem d_Arrays_fill_10 : decode b_Arrays_fill 10 = .ok (.iload 5, 2) := by decide +kernel
theorem d_Arrays_fill_12 : decode b_Arrays_fill 12 = .ok (.iload_n 2, 1) := by decide +kernel
theorem d_Arrays_fill_13 : decode b_Arrays_fill 13 = .ok (.if_icmp .ge 14, 3) := by decide +kernel
theorem d_Arrays_fill_16 : decode b_Arrays_fill 16 = .ok (.aload_n 0, 1) := by decide +kernel
theorem d_Arrays_fill_17 : decode b_Arrays_fill 17 = .ok (.iload 5, 2) := by decide +kernel
theorem d_Arrays_fill_19 : decode b_Arrays_fill 19 = .ok (.lload_n 3, 1) := by decide +kernel
theorem d_Arrays_fill_20 : decode b_Arrays_fill 20 = .ok (.lastore, 1) := by decide +kernel
theorem d_Arrays_fill_21 : decode b_Arrays_fill 21 = .ok (.iinc 5 1, 3) := by decide +kernel
theorem d_Arrays_fill_24 : decode b_Arrays_fill 24 = .ok (.goto (-14), 3) := by decide +kernel
theorem d_Arrays_fill_27 : decode b_Arrays_fill 27 = .ok (.return_, 1) := by decide +kernel
theorem k11 : Cond.arrayClass .int ∈ lw_g := kg (List.mem_append_right _ (List.mem_of_getElem? (i := 80) (by decide +kernel))) rfl
theorem k12 : Cond.methodLink R_Arrays 304 y_Math_min ∈ lw_g := kg (List.mem_append_right _ (List.mem_of_getElem? (i := 372) (by decide +kernel))) rfl
theorem k13 : Cond.methodLink R_Arrays 150 y_System_arraycopy ∈ lw_g := kg (List.mem_append_right _ (List.mem_of_getElem? (i := 373) (by decide +kernel))) rfl
theorem k14 : Cond.native y_System_arraycopy ∈ lw_g := kg (List.mem_append_right _ (List.mem_of_getElem? (i := 375) (by decide +kernel))) rfl
theorem k15 : Cond.static y_System_arraycopy ∈ lw_g := kg (List.mem_append_right _ (List.mem_of_getElem? (i := 374) (by decide +kernel))) rfl
theorem k16 : Cond.initialized R_System ∈ lw_g := kg (List.mem_append_right _ (List.mem_of_getElem? (i := 14) (by decide +kernel))) rfl
theorem k17 : Cond.arrayClass .long ∈ lw_g := kg (List.mem_append_right _ (List.mem_of_getElem? (i := 79) (by decide +kernel))) rfl
theorem k18 : Cond.arrayClass .byte ∈ lw_g := kg (List.mem_append_right _ (List.mem_of_getElem? (i := 116) (by decide +kernel))) rfl
theorem k19 : Cond.code y_Arrays_rangeCheck b_Arrays_rangeCheck 3 none ∈ lw_g := kg (List.mem_append_right _ (List.mem_of_getElem? (i := 548) (by decide +kernel))) rfl
theorem k20 : Cond.methodLink R_Arrays 13 y_Arrays_rangeCheck ∈ lw_g := kg (List.mem_append_right _ (List.mem_of_getElem? (i := 546) (by decide +kernel))) rfl
theorem k21 : Cond.static y_Arrays_rangeCheck ∈ lw_g := kg (List.mem_append_right _ (List.mem_of_getElem? (i := 547) (by decide +kernel))) rfl
theorem k22 : Cond.initialized R_Arrays ∈ lw_g := kg (List.mem_append_right _ (List.mem_of_getElem? (i := 13) (by decide +kernel))) rfl
set_option maxHeartbeats 4000000 in
set_option maxRecDepth 100000 in
theorem c_Arrays_copyOfI (l : Launch) (dC : Nat → ClassId) (dI : Nat → Nat → Nat) (N : Nat) (cI : ClassId) (q0 : Nat) (qn0 : Nat) (qf0 : Nat → Int32) (p1 : Int32) (sz : Nat) (Z1 : Nat × (Nat → Int32)) (Zc Zs : Nat) (h : m_Arrays_copyOfI N qn0 qf0 p1 = some (Z1, Zc, Zs)) : Met l y_Arrays_copyOfI (.code y_Arrays_copyOfI b_Arrays_copyOfI 3 (some (.array .int)) :: lw_g) ({ frames := 1, cells := Zc, slots := Zs, locals := 60 }) (va_Pc [.ref q0, .int p1] (fun U => dz_N U ∧ U.heap.size = sz ∧ va_P (dC, dI) classes [(q0, .inl (cI, qn0, .inl qf0))] U.heap ∧ va_K (dC, dI) classes [(cI, .int)] U ∧ va_D (fun _ => True) [(q0, .inl (cI, qn0, .inl qf0))])) (va_Qr (fun (_ : Unit) => True) (fun (u : Unit) a t => va_P (dC, dI) classes [(q0, .inl (cI, qn0, .inl qf0)), (a, .inl (cI, Z1.1, .inl Z1.2))] t.heap ∧ va_K (dC, dI) classes [(cI, .int)] t ∧ va_D (va_A [(q0, .inl (cI, qn0, .inl qf0))] sz) [(q0, .inl (cI, qn0, .inl qf0)), (a, .inl (cI, Z1.1, .inl Z1.2))]) (va_A [(q0, .inl (cI, qn0, .inl qf0))] sz)) Zc Zs (va_A [(q0, .inl (cI, qn0, .inl qf0))] sz) := by
  refine va_MetF (cc := b_Arrays_copyOfI) (maxL := 3) (ret := (some (.array .int))) (by decide +kernel) rfl ?_
  intro p e s m args below meth c s₁ B hml hv
  obtain ⟨rfl, hN, hsz, hP, hK, hD0⟩ := hv
  have hx := B.exec
  have hb := B.bytes
  have hr := B.returns
  have hg : ∀ w ∈ lw_g, w.before _ s = true := fun w hw => atoms_spec (ws := .code y_Arrays_copyOfI b_Arrays_copyOfI 3 (some (.array .int)) :: lw_g) B.pre w (List.mem_cons_of_mem _ hw)
  have hown : s.vm.findClass R_Arrays = some m.cls := findClass_of_methodNamed B.named
  have hlocks := B.notSynchronized
  clear B
  subst hsz
  have hD := hD0.self (sz := s.heap.size)
  generalize hAe : va_A [(q0, .inl (cI, qn0, .inl qf0))] s.heap.size = A at hD ⊢
  have hA : ∀ q : Nat, s.heap.size ≤ q → A q := fun q h => by rw [← hAe]; exact Or.inr h
  have hS : va_S A s.heap s.heap [] := va_S.rf
  have hP : va_P (dC, dI) classes [(q0, .inl (cI, qn0, .inl qf0))] s.heap := hP
  have hl := lv_entry ([.ref q0, .int p1]) (n := 3) (Nat.le_of_ble_eq_true rfl)
  rw [lg_entry_eq]
  generalize (lg_sl ([.ref q0, .int p1]) ++ List.replicate (3 - (lg_sl ([.ref q0, .int p1])).length) Slot.unset).toArray = ls at hl ⊢
  have hl : lv_has ls 3 [(0, .ref q0), (1, .int p1)] := hl
  unfold m_Arrays_copyOfI at h
  have hG : dz_G Z1 Zc Zs (Z1, Zc, Zs) 0 0 := ⟨rfl, (Nat.zero_add _).symm, (Nat.zero_add _).symm⟩
  generalize (Z1, Zc, Zs) = z at h hG
  refine lv_iload_n hx hb d_Arrays_copyOfI_0 rfl (lv_at hl 1 rfl) ?_
  refine lv_aload_n hx hb d_Arrays_copyOfI_1 rfl (lv_at hl 0 rfl) ?_
  refine va_alen (D := (dC, dI)) (v := Int32.ofNat qn0) hx hb hK hP 0 0 rfl rfl rfl d_Arrays_copyOfI_2 ?_
  refine lv_icmp_ne (tgt := 14) hx hb d_Arrays_copyOfI_3 (by decide) (fun c1 => ?_) (fun c1 => ?_)
  · rw [if_neg c1] at h
    refine lv_iload_n hx hb d_Arrays_copyOfI_14 rfl (lv_at hl 1 rfl) ?_
    obtain ⟨i2, h⟩ := dz_oi h
    obtain ⟨z, h, hG⟩ := dz_tkG h hG
    refine va_newa (D := (dC, dI)) (atype := .int) (N' := p1.toNatClampNeg) (a0 := (p1.toNatClampNeg, .inl (fun _ => 0))) hx hb (hg _ k11) (ty := .int) rfl hK hP hD hS hA (fun _ => rfl) (fun q => i2 (Or.inl q)) rfl (by show _ * 4 ≤ 536870912; have := fun q => i2 (Or.inr q); omega) (dz_Gc hG) (dz_Gs hG) d_Arrays_copyOfI_15 (fun b2 cA H hK hP hD hS => ?_)
    have hcc : cI = cA := Option.some.inj (((hK.2 0 _ rfl).2).symm.trans (hK.2 1 _ rfl).2)
    subst hcc
    have hK := hK.sub (tys' := [(cI, .int)]) [0] rfl
    have hP : va_P (dC, dI) classes [(q0, .inl (cI, qn0, .inl qf0)), (b2, .inl (cI, p1.toNatClampNeg, .inl (fun _ => 0)))] H := hP
    have hD : va_D A [(q0, .inl (cI, qn0, .inl qf0)), (b2, .inl (cI, p1.toNatClampNeg, .inl (fun _ => 0)))] := hD
    refine lv_astore_n (lv' := [(2, .ref b2), (0, .ref q0), (1, .int p1)]) hx hb d_Arrays_copyOfI_17 rfl hl (by decide) rfl (fun ls hl => ?_)
    refine lv_aload_n hx hb d_Arrays_copyOfI_18 rfl (lv_at hl 1 rfl) ?_
    refine lv_iconst (v := 0) hx hb d_Arrays_copyOfI_19 (by decide) ?_
    refine lv_aload_n hx hb d_Arrays_copyOfI_20 rfl (lv_at hl 0 rfl) ?_
    refine lv_iconst (v := 0) hx hb d_Arrays_copyOfI_21 (by decide) ?_
    refine lv_aload_n hx hb d_Arrays_copyOfI_22 rfl (lv_at hl 1 rfl) ?_
    refine va_alen (D := (dC, dI)) (v := Int32.ofNat qn0) hx hb hK hP 0 0 rfl rfl rfl d_Arrays_copyOfI_23 ?_
    refine lv_iload_n hx hb d_Arrays_copyOfI_24 rfl (lv_at hl 2 rfl) ?_
    obtain ⟨z3_1, hc3, h⟩ := dz_ob h
    try dsimp only at h
    have hPc := hP.sub (ws' := []) [] rfl
    have hKc := hK.sub (tys' := []) [] rfl
    refine vp_callSi (va_Run.run (va_runS (As := [.int (Int32.ofNat qn0), .int p1]) (rest := [.int 0, .ref b2, .int 0, .ref q0]) ⟨hx, hb, hml, hown, hg⟩ (c_Math_min l dC dI N (Int32.ofNat qn0) p1 z3_1 hc3) (va_cwS 2 hg (gd_S k12 k10 k7 k8) rfl rfl rfl (by decide +kernel) ⟨Nat.le_of_ble_eq_true rfl, Nat.le_of_ble_eq_true rfl⟩) ⟨dz_blindR, fun U hU hW => ⟨rfl, dz_Nw hW hN, by rw [hU]; exact hPc, va_K.moved hW.alike hKc⟩⟩ rfl rfl hl.1 rfl (lv_room (Nat.le_of_ble_eq_true rfl)) d_Arrays_copyOfI_25 ⟨dz_Gc hG, dz_Gs hG⟩)) (fun r3 hw => ?_)
    have hw : z3_1 = r3 := hw.symm
    subst hw
    obtain ⟨i4, h⟩ := dz_oi h
    refine va_copyi (D := (dC, dI)) (ty := .int) hx hb (hml.trans hl.1.symm) hown (hg _ k13) (hg _ k14) (hg _ k15) (hg _ k16) hK hP hD hS 0 1 0 0 rfl rfl rfl rfl rfl (fun q => i4 (Or.inl q)) (fun q => i4 (Or.inr (Or.inl q))) (fun q => i4 (Or.inr (Or.inr (Or.inl q)))) (Nat.not_lt.mp (fun q => i4 (Or.inr (Or.inr (Or.inr (Or.inl q)))))) (Nat.not_lt.mp (fun q => i4 (Or.inr (Or.inr (Or.inr (Or.inr q)))))) (fun _ _ => rfl) (Nat.le_of_ble_eq_true rfl) (by first | exact Nat.le_of_ble_eq_true rfl | (show _ ≤ 60; decide +kernel)) d_Arrays_copyOfI_28 (fun H locs hP hD hS => ?_)
    have hP : va_P (dC, dI) classes [(q0, .inl (cI, qn0, .inl qf0)), (b2, .inl (cI, p1.toNatClampNeg, .inl (va_cpy qf0 (fun _ => 0) (0 : Int32).toNatClampNeg (0 : Int32).toNatClampNeg z3_1.toNatClampNeg)))] H := hP
    have hD : va_D A [(q0, .inl (cI, qn0, .inl qf0)), (b2, .inl (cI, p1.toNatClampNeg, .inl (va_cpy qf0 (fun _ => 0) (0 : Int32).toNatClampNeg (0 : Int32).toNatClampNeg z3_1.toNatClampNeg)))] := hD
    refine lv_aload_n hx hb d_Arrays_copyOfI_31 rfl (lv_at hl 0 rfl) ?_
    obtain rfl := Option.some.inj h
    have hP9 := hP.sub (ws' := [(q0, .inl (cI, qn0, .inl qf0)), (b2, .inl (cI, p1.toNatClampNeg, .inl (va_cpy qf0 (fun _ => 0) (0 : Int32).toNatClampNeg (0 : Int32).toNatClampNeg z3_1.toNatClampNeg)))]) [0, 1] rfl
    have hD9 := hD.sub (ws' := [(q0, .inl (cI, qn0, .inl qf0)), (b2, .inl (cI, p1.toNatClampNeg, .inl (va_cpy qf0 (fun _ => 0) (0 : Int32).toNatClampNeg (0 : Int32).toNatClampNeg z3_1.toNatClampNeg)))]) [0, 1] (by decide) rfl
    have hK9 := hK.sub (tys' := [(cI, .int)]) [0] rfl
    refine W.widen (dz_Gc hG) (dz_Gs hG) ?_
    obtain ⟨rfl, -, -⟩ := hG
    exact W.aret (v := .ref b2) hx hb hr (Or.inr ⟨_, rfl⟩) (Or.inr ⟨_, rfl⟩) (fun t ht hW => ⟨⟨(), b2, rfl, trivial, by rw [ht]; exact hP9, va_K.moved hW.alike hK9, hD9⟩, hS.F ht⟩) hS.2.2 d_Arrays_copyOfI_32
  · rw [if_pos c1] at h
    refine lv_aload_n hx hb d_Arrays_copyOfI_6 rfl (lv_at hl 0 rfl) ?_
    cases h

set_option maxHeartbeats 4000000 in
set_option maxRecDepth 100000 in
theorem c_Arrays_copyOfJ (l : Launch) (dC : Nat → ClassId) (dI : Nat → Nat → Nat) (N : Nat) (cL : ClassId) (q0 : Nat) (qn0 : Nat) (qf0 : Nat → Int64) (p1 : Int32) (sz : Nat) (Z1 : Nat × (Nat → Int64)) (Zc Zs : Nat) (h : m_Arrays_copyOfJ N qn0 qf0 p1 = some (Z1, Zc, Zs)) : Met l y_Arrays_copyOfJ (.code y_Arrays_copyOfJ b_Arrays_copyOfJ 3 (some (.array .long)) :: lw_g) ({ frames := 1, cells := Zc, slots := Zs, locals := 60 }) (va_Pc [.ref q0, .int p1] (fun U => dz_N U ∧ U.heap.size = sz ∧ va_P (dC, dI) classes [(q0, .inl (cL, qn0, .inr (.inl qf0)))] U.heap ∧ va_K (dC, dI) classes [(cL, .long)] U ∧ va_D (fun _ => True) [(q0, .inl (cL, qn0, .inr (.inl qf0)))])) (va_Qr (fun (_ : Unit) => True) (fun (u : Unit) a t => va_P (dC, dI) classes [(q0, .inl (cL, qn0, .inr (.inl qf0))), (a, .inl (cL, Z1.1, .inr (.inl Z1.2)))] t.heap ∧ va_K (dC, dI) classes [(cL, .long)] t ∧ va_D (va_A [(q0, .inl (cL, qn0, .inr (.inl qf0)))] sz) [(q0, .inl (cL, qn0, .inr (.inl qf0))), (a, .inl (cL, Z1.1, .inr (.inl Z1.2)))]) (va_A [(q0, .inl (cL, qn0, .inr (.inl qf0)))] sz)) Zc Zs (va_A [(q0, .inl (cL, qn0, .inr (.inl qf0)))] sz) := by
  refine va_MetF (cc := b_Arrays_copyOfJ) (maxL := 3) (ret := (some (.array .long))) (by decide +kernel) rfl ?_
  intro p e s m args below meth c s₁ B hml hv
  obtain ⟨rfl, hN, hsz, hP, hK, hD0⟩ := hv
  have hx := B.exec
  have hb := B.bytes
  have hr := B.returns
  have hg : ∀ w ∈ lw_g, w.before _ s = true := fun w hw => atoms_spec (ws := .code y_Arrays_copyOfJ b_Arrays_copyOfJ 3 (some (.array .long)) :: lw_g) B.pre w (List.mem_cons_of_mem _ hw)
  have hown : s.vm.findClass R_Arrays = some m.cls := findClass_of_methodNamed B.named
  have hlocks := B.notSynchronized
  clear B
  subst hsz
  have hD := hD0.self (sz := s.heap.size)
  generalize hAe : va_A [(q0, .inl (cL, qn0, .inr (.inl qf0)))] s.heap.size = A at hD ⊢
  have hA : ∀ q : Nat, s.heap.size ≤ q → A q := fun q h => by rw [← hAe]; exact Or.inr h
  have hS : va_S A s.heap s.heap [] := va_S.rf
  have hP : va_P (dC, dI) classes [(q0, .inl (cL, qn0, .inr (.inl qf0)))] s.heap := hP
  have hl := lv_entry ([.ref q0, .int p1]) (n := 3) (Nat.le_of_ble_eq_true rfl)
  rw [lg_entry_eq]
  generalize (lg_sl ([.ref q0, .int p1]) ++ List.replicate (3 - (lg_sl ([.ref q0, .int p1])).length) Slot.unset).toArray = ls at hl ⊢
  have hl : lv_has ls 3 [(0, .ref q0), (1, .int p1)] := hl
  unfold m_Arrays_copyOfJ at h
  have hG : dz_G Z1 Zc Zs (Z1, Zc, Zs) 0 0 := ⟨rfl, (Nat.zero_add _).symm, (Nat.zero_add _).symm⟩
  generalize (Z1, Zc, Zs) = z at h hG
  refine lv_iload_n hx hb d_Arrays_copyOfJ_0 rfl (lv_at hl 1 rfl) ?_
  refine lv_aload_n hx hb d_Arrays_copyOfJ_1 rfl (lv_at hl 0 rfl) ?_
  refine va_alen (D := (dC, dI)) (v := Int32.ofNat qn0) hx hb hK hP 0 0 rfl rfl rfl d_Arrays_copyOfJ_2 ?_
  refine lv_icmp_ne (tgt := 14) hx hb d_Arrays_copyOfJ_3 (by decide) (fun c1 => ?_) (fun c1 => ?_)
  · rw [if_neg c1] at h
    refine lv_iload_n hx hb d_Arrays_copyOfJ_14 rfl (lv_at hl 1 rfl) ?_
    obtain ⟨i2, h⟩ := dz_oi h
    obtain ⟨z, h, hG⟩ := dz_tkG h hG
    refine va_newa (D := (dC, dI)) (atype := .long) (N' := p1.toNatClampNeg) (a0 := (p1.toNatClampNeg, .inr (.inl (fun _ => 0)))) hx hb (hg _ k17) (ty := .long) rfl hK hP hD hS hA (fun _ => rfl) (fun q => i2 (Or.inl q)) rfl (by show _ * 8 ≤ 536870912; have := fun q => i2 (Or.inr q); omega) (dz_Gc hG) (dz_Gs hG) d_Arrays_copyOfJ_15 (fun b2 cA H hK hP hD hS => ?_)
    have hcc : cL = cA := Option.some.inj (((hK.2 0 _ rfl).2).symm.trans (hK.2 1 _ rfl).2)
    subst hcc
    have hK := hK.sub (tys' := [(cL, .long)]) [0] rfl
    have hP : va_P (dC, dI) classes [(q0, .inl (cL, qn0, .inr (.inl qf0))), (b2, .inl (cL, p1.toNatClampNeg, .inr (.inl (fun _ => 0))))] H := hP
    have hD : va_D A [(q0, .inl (cL, qn0, .inr (.inl qf0))), (b2, .inl (cL, p1.toNatClampNeg, .inr (.inl (fun _ => 0))))] := hD
    refine lv_astore_n (lv' := [(2, .ref b2), (0, .ref q0), (1, .int p1)]) hx hb d_Arrays_copyOfJ_17 rfl hl (by decide) rfl (fun ls hl => ?_)
    refine lv_aload_n hx hb d_Arrays_copyOfJ_18 rfl (lv_at hl 1 rfl) ?_
    refine lv_iconst (v := 0) hx hb d_Arrays_copyOfJ_19 (by decide) ?_
    refine lv_aload_n hx hb d_Arrays_copyOfJ_20 rfl (lv_at hl 0 rfl) ?_
    refine lv_iconst (v := 0) hx hb d_Arrays_copyOfJ_21 (by decide) ?_
    refine lv_aload_n hx hb d_Arrays_copyOfJ_22 rfl (lv_at hl 1 rfl) ?_
    refine va_alen (D := (dC, dI)) (v := Int32.ofNat qn0) hx hb hK hP 0 0 rfl rfl rfl d_Arrays_copyOfJ_23 ?_
    refine lv_iload_n hx hb d_Arrays_copyOfJ_24 rfl (lv_at hl 2 rfl) ?_
    obtain ⟨z3_1, hc3, h⟩ := dz_ob h
    try dsimp only at h
    have hPc := hP.sub (ws' := []) [] rfl
    have hKc := hK.sub (tys' := []) [] rfl
    refine vp_callSi (va_Run.run (va_runS (As := [.int (Int32.ofNat qn0), .int p1]) (rest := [.int 0, .ref b2, .int 0, .ref q0]) ⟨hx, hb, hml, hown, hg⟩ (c_Math_min l dC dI N (Int32.ofNat qn0) p1 z3_1 hc3) (va_cwS 2 hg (gd_S k12 k10 k7 k8) rfl rfl rfl (by decide +kernel) ⟨Nat.le_of_ble_eq_true rfl, Nat.le_of_ble_eq_true rfl⟩) ⟨dz_blindR, fun U hU hW => ⟨rfl, dz_Nw hW hN, by rw [hU]; exact hPc, va_K.moved hW.alike hKc⟩⟩ rfl rfl hl.1 rfl (lv_room (Nat.le_of_ble_eq_true rfl)) d_Arrays_copyOfJ_25 ⟨dz_Gc hG, dz_Gs hG⟩)) (fun r3 hw => ?_)
    have hw : z3_1 = r3 := hw.symm
    subst hw
    obtain ⟨i4, h⟩ := dz_oi h
    refine va_copyl (D := (dC, dI)) (ty := .long) hx hb (hml.trans hl.1.symm) hown (hg _ k13) (hg _ k14) (hg _ k15) (hg _ k16) hK hP hD hS 0 1 0 0 rfl rfl rfl rfl rfl (fun q => i4 (Or.inl q)) (fun q => i4 (Or.inr (Or.inl q))) (fun q => i4 (Or.inr (Or.inr (Or.inl q)))) (Nat.not_lt.mp (fun q => i4 (Or.inr (Or.inr (Or.inr (Or.inl q)))))) (Nat.not_lt.mp (fun q => i4 (Or.inr (Or.inr (Or.inr (Or.inr q)))))) (fun _ _ => rfl) (Nat.le_of_ble_eq_true rfl) (by first | exact Nat.le_of_ble_eq_true rfl | (show _ ≤ 60; decide +kernel)) d_Arrays_copyOfJ_28 (fun H locs hP hD hS => ?_)
    have hP : va_P (dC, dI) classes [(q0, .inl (cL, qn0, .inr (.inl qf0))), (b2, .inl (cL, p1.toNatClampNeg, .inr (.inl (va_cpy qf0 (fun _ => 0) (0 : Int32).toNatClampNeg (0 : Int32).toNatClampNeg z3_1.toNatClampNeg))))] H := hP
    have hD : va_D A [(q0, .inl (cL, qn0, .inr (.inl qf0))), (b2, .inl (cL, p1.toNatClampNeg, .inr (.inl (va_cpy qf0 (fun _ => 0) (0 : Int32).toNatClampNeg (0 : Int32).toNatClampNeg z3_1.toNatClampNeg))))] := hD
    refine lv_aload_n hx hb d_Arrays_copyOfJ_31 rfl (lv_at hl 0 rfl) ?_
    obtain rfl := Option.some.inj h
    have hP9 := hP.sub (ws' := [(q0, .inl (cL, qn0, .inr (.inl qf0))), (b2, .inl (cL, p1.toNatClampNeg, .inr (.inl (va_cpy qf0 (fun _ => 0) (0 : Int32).toNatClampNeg (0 : Int32).toNatClampNeg z3_1.toNatClampNeg))))]) [0, 1] rfl
    have hD9 := hD.sub (ws' := [(q0, .inl (cL, qn0, .inr (.inl qf0))), (b2, .inl (cL, p1.toNatClampNeg, .inr (.inl (va_cpy qf0 (fun _ => 0) (0 : Int32).toNatClampNeg (0 : Int32).toNatClampNeg z3_1.toNatClampNeg))))]) [0, 1] (by decide) rfl
    have hK9 := hK.sub (tys' := [(cL, .long)]) [0] rfl
    refine W.widen (dz_Gc hG) (dz_Gs hG) ?_
    obtain ⟨rfl, -, -⟩ := hG
    exact W.aret (v := .ref b2) hx hb hr (Or.inr ⟨_, rfl⟩) (Or.inr ⟨_, rfl⟩) (fun t ht hW => ⟨⟨(), b2, rfl, trivial, by rw [ht]; exact hP9, va_K.moved hW.alike hK9, hD9⟩, hS.F ht⟩) hS.2.2 d_Arrays_copyOfJ_32
  · rw [if_pos c1] at h
    refine lv_aload_n hx hb d_Arrays_copyOfJ_6 rfl (lv_at hl 0 rfl) ?_
    cases h

set_option maxHeartbeats 4000000 in
set_option maxRecDepth 100000 in
theorem c_Arrays_copyOfB (l : Launch) (dC : Nat → ClassId) (dI : Nat → Nat → Nat) (N : Nat) (cB : ClassId) (q0 : Nat) (qn0 : Nat) (qf0 : Nat → Int32) (p1 : Int32) (sz : Nat) (Z1 : Nat × (Nat → Int32)) (Zc Zs : Nat) (h : m_Arrays_copyOfB N qn0 qf0 p1 = some (Z1, Zc, Zs)) : Met l y_Arrays_copyOfB (.code y_Arrays_copyOfB b_Arrays_copyOfB 3 (some (.array .byte)) :: lw_g) ({ frames := 1, cells := Zc, slots := Zs, locals := 60 }) (va_Pc [.ref q0, .int p1] (fun U => dz_N U ∧ U.heap.size = sz ∧ va_P (dC, dI) classes [(q0, .inl (cB, qn0, .inl qf0))] U.heap ∧ va_K (dC, dI) classes [(cB, .byte)] U ∧ va_D (fun _ => True) [(q0, .inl (cB, qn0, .inl qf0))])) (va_Qr (fun (_ : Unit) => True) (fun (u : Unit) a t => va_P (dC, dI) classes [(q0, .inl (cB, qn0, .inl qf0)), (a, .inl (cB, Z1.1, .inl Z1.2))] t.heap ∧ va_K (dC, dI) classes [(cB, .byte)] t ∧ va_D (va_A [(q0, .inl (cB, qn0, .inl qf0))] sz) [(q0, .inl (cB, qn0, .inl qf0)), (a, .inl (cB, Z1.1, .inl Z1.2))]) (va_A [(q0, .inl (cB, qn0, .inl qf0))] sz)) Zc Zs (va_A [(q0, .inl (cB, qn0, .inl qf0))] sz) := by
  refine va_MetF (cc := b_Arrays_copyOfB) (maxL := 3) (ret := (some (.array .byte))) (by decide +kernel) rfl ?_
  intro p e s m args below meth c s₁ B hml hv
  obtain ⟨rfl, hN, hsz, hP, hK, hD0⟩ := hv
  have hx := B.exec
  have hb := B.bytes
  have hr := B.returns
  have hg : ∀ w ∈ lw_g, w.before _ s = true := fun w hw => atoms_spec (ws := .code y_Arrays_copyOfB b_Arrays_copyOfB 3 (some (.array .byte)) :: lw_g) B.pre w (List.mem_cons_of_mem _ hw)
  have hown : s.vm.findClass R_Arrays = some m.cls := findClass_of_methodNamed B.named
  have hlocks := B.notSynchronized
  clear B
  subst hsz
  have hD := hD0.self (sz := s.heap.size)
  generalize hAe : va_A [(q0, .inl (cB, qn0, .inl qf0))] s.heap.size = A at hD ⊢
  have hA : ∀ q : Nat, s.heap.size ≤ q → A q := fun q h => by rw [← hAe]; exact Or.inr h
  have hS : va_S A s.heap s.heap [] := va_S.rf
  have hP : va_P (dC, dI) classes [(q0, .inl (cB, qn0, .inl qf0))] s.heap := hP
  have hl := lv_entry ([.ref q0, .int p1]) (n := 3) (Nat.le_of_ble_eq_true rfl)
  rw [lg_entry_eq]
  generalize (lg_sl ([.ref q0, .int p1]) ++ List.replicate (3 - (lg_sl ([.ref q0, .int p1])).length) Slot.unset).toArray = ls at hl ⊢
  have hl : lv_has ls 3 [(0, .ref q0), (1, .int p1)] := hl
  unfold m_Arrays_copyOfB at h
  have hG : dz_G Z1 Zc Zs (Z1, Zc, Zs) 0 0 := ⟨rfl, (Nat.zero_add _).symm, (Nat.zero_add _).symm⟩
  generalize (Z1, Zc, Zs) = z at h hG
  refine lv_iload_n hx hb d_Arrays_copyOfB_0 rfl (lv_at hl 1 rfl) ?_
  refine lv_aload_n hx hb d_Arrays_copyOfB_1 rfl (lv_at hl 0 rfl) ?_
  refine va_alen (D := (dC, dI)) (v := Int32.ofNat qn0) hx hb hK hP 0 0 rfl rfl rfl d_Arrays_copyOfB_2 ?_
  refine lv_icmp_ne (tgt := 14) hx hb d_Arrays_copyOfB_3 (by decide) (fun c1 => ?_) (fun c1 => ?_)
  · rw [if_neg c1] at h
    refine lv_iload_n hx hb d_Arrays_copyOfB_14 rfl (lv_at hl 1 rfl) ?_
    obtain ⟨i2, h⟩ := dz_oi h
    obtain ⟨z, h, hG⟩ := dz_tkG h hG
    refine va_newa (D := (dC, dI)) (atype := .byte) (N' := p1.toNatClampNeg) (a0 := (p1.toNatClampNeg, .inl (fun _ => 0))) hx hb (hg _ k18) (ty := .byte) rfl hK hP hD hS hA (fun _ => rfl) (fun q => i2 (Or.inl q)) rfl (by show _ * 1 ≤ 536870912; have := fun q => i2 (Or.inr q); omega) (dz_Gc hG) (dz_Gs hG) d_Arrays_copyOfB_15 (fun b2 cA H hK hP hD hS => ?_)
    have hcc : cB = cA := Option.some.inj (((hK.2 0 _ rfl).2).symm.trans (hK.2 1 _ rfl).2)
    subst hcc
    have hK := hK.sub (tys' := [(cB, .byte)]) [0] rfl
    have hP : va_P (dC, dI) classes [(q0, .inl (cB, qn0, .inl qf0)), (b2, .inl (cB, p1.toNatClampNeg, .inl (fun _ => 0)))] H := hP
    have hD : va_D A [(q0, .inl (cB, qn0, .inl qf0)), (b2, .inl (cB, p1.toNatClampNeg, .inl (fun _ => 0)))] := hD
    refine lv_astore_n (lv' := [(2, .ref b2), (0, .ref q0), (1, .int p1)]) hx hb d_Arrays_copyOfB_17 rfl hl (by decide) rfl (fun ls hl => ?_)
    refine lv_aload_n hx hb d_Arrays_copyOfB_18 rfl (lv_at hl 1 rfl) ?_
    refine lv_iconst (v := 0) hx hb d_Arrays_copyOfB_19 (by decide) ?_
    refine lv_aload_n hx hb d_Arrays_copyOfB_20 rfl (lv_at hl 0 rfl) ?_
    refine lv_iconst (v := 0) hx hb d_Arrays_copyOfB_21 (by decide) ?_
    refine lv_aload_n hx hb d_Arrays_copyOfB_22 rfl (lv_at hl 1 rfl) ?_
    refine va_alen (D := (dC, dI)) (v := Int32.ofNat qn0) hx hb hK hP 0 0 rfl rfl rfl d_Arrays_copyOfB_23 ?_
    refine lv_iload_n hx hb d_Arrays_copyOfB_24 rfl (lv_at hl 2 rfl) ?_
    obtain ⟨z3_1, hc3, h⟩ := dz_ob h
    try dsimp only at h
    have hPc := hP.sub (ws' := []) [] rfl
    have hKc := hK.sub (tys' := []) [] rfl
    refine vp_callSi (va_Run.run (va_runS (As := [.int (Int32.ofNat qn0), .int p1]) (rest := [.int 0, .ref b2, .int 0, .ref q0]) ⟨hx, hb, hml, hown, hg⟩ (c_Math_min l dC dI N (Int32.ofNat qn0) p1 z3_1 hc3) (va_cwS 2 hg (gd_S k12 k10 k7 k8) rfl rfl rfl (by decide +kernel) ⟨Nat.le_of_ble_eq_true rfl, Nat.le_of_ble_eq_true rfl⟩) ⟨dz_blindR, fun U hU hW => ⟨rfl, dz_Nw hW hN, by rw [hU]; exact hPc, va_K.moved hW.alike hKc⟩⟩ rfl rfl hl.1 rfl (lv_room (Nat.le_of_ble_eq_true rfl)) d_Arrays_copyOfB_25 ⟨dz_Gc hG, dz_Gs hG⟩)) (fun r3 hw => ?_)
    have hw : z3_1 = r3 := hw.symm
    subst hw
    obtain ⟨i4, h⟩ := dz_oi h
    obtain ⟨j4, h⟩ := dz_oi h
    refine va_copyi (D := (dC, dI)) (ty := .byte) hx hb (hml.trans hl.1.symm) hown (hg _ k13) (hg _ k14) (hg _ k15) (hg _ k16) hK hP hD hS 0 1 0 0 rfl rfl rfl rfl rfl (fun q => i4 (Or.inl q)) (fun q => i4 (Or.inr (Or.inl q))) (fun q => i4 (Or.inr (Or.inr (Or.inl q)))) (Nat.not_lt.mp (fun q => i4 (Or.inr (Or.inr (Or.inr (Or.inl q)))))) (Nat.not_lt.mp (fun q => i4 (Or.inr (Or.inr (Or.inr (Or.inr q)))))) (Decidable.not_not.mp j4) (Nat.le_of_ble_eq_true rfl) (by first | exact Nat.le_of_ble_eq_true rfl | (show _ ≤ 60; decide +kernel)) d_Arrays_copyOfB_28 (fun H locs hP hD hS => ?_)
    have hP : va_P (dC, dI) classes [(q0, .inl (cB, qn0, .inl qf0)), (b2, .inl (cB, p1.toNatClampNeg, .inl (va_cpy qf0 (fun _ => 0) (0 : Int32).toNatClampNeg (0 : Int32).toNatClampNeg z3_1.toNatClampNeg)))] H := hP
    have hD : va_D A [(q0, .inl (cB, qn0, .inl qf0)), (b2, .inl (cB, p1.toNatClampNeg, .inl (va_cpy qf0 (fun _ => 0) (0 : Int32).toNatClampNeg (0 : Int32).toNatClampNeg z3_1.toNatClampNeg)))] := hD
    refine lv_aload_n hx hb d_Arrays_copyOfB_31 rfl (lv_at hl 0 rfl) ?_
    obtain rfl := Option.some.inj h
    have hP9 := hP.sub (ws' := [(q0, .inl (cB, qn0, .inl qf0)), (b2, .inl (cB, p1.toNatClampNeg, .inl (va_cpy qf0 (fun _ => 0) (0 : Int32).toNatClampNeg (0 : Int32).toNatClampNeg z3_1.toNatClampNeg)))]) [0, 1] rfl
    have hD9 := hD.sub (ws' := [(q0, .inl (cB, qn0, .inl qf0)), (b2, .inl (cB, p1.toNatClampNeg, .inl (va_cpy qf0 (fun _ => 0) (0 : Int32).toNatClampNeg (0 : Int32).toNatClampNeg z3_1.toNatClampNeg)))]) [0, 1] (by decide) rfl
    have hK9 := hK.sub (tys' := [(cB, .byte)]) [0] rfl
    refine W.widen (dz_Gc hG) (dz_Gs hG) ?_
    obtain ⟨rfl, -, -⟩ := hG
    exact W.aret (v := .ref b2) hx hb hr (Or.inr ⟨_, rfl⟩) (Or.inr ⟨_, rfl⟩) (fun t ht hW => ⟨⟨(), b2, rfl, trivial, by rw [ht]; exact hP9, va_K.moved hW.alike hK9, hD9⟩, hS.F ht⟩) hS.2.2 d_Arrays_copyOfB_32
  · rw [if_pos c1] at h
    refine lv_aload_n hx hb d_Arrays_copyOfB_6 rfl (lv_at hl 0 rfl) ?_
    cases h

set_option maxHeartbeats 4000000 in
set_option maxRecDepth 100000 in
theorem c_Arrays_rangeCheck (l : Launch) (dC : Nat → ClassId) (dI : Nat → Nat → Nat) (N : Nat) (p0 : Int32) (p1 : Int32) (p2 : Int32) (z : Unit) (h : m_Arrays_rangeCheck N p0 p1 p2 = some z) : Met l y_Arrays_rangeCheck (.code y_Arrays_rangeCheck b_Arrays_rangeCheck 3 none :: lw_g) ({ frames := 0, cells := 0, slots := 0, locals := 0 }) (va_Pc [.int p0, .int p1, .int p2] (fun U => dz_N U ∧ va_P (dC, dI) classes [] U.heap ∧ va_K (dC, dI) classes [] U)) (va_Sv (fun _ => True)) 0 0 (fun _ => False) := by
  refine va_MetF (cc := b_Arrays_rangeCheck) (maxL := 3) (ret := none) (by decide +kernel) rfl ?_
  intro p e s m args below meth c s₁ B hml hv
  obtain ⟨rfl, hN, hP, hK⟩ := hv
  have hx := B.exec
  have hb := B.bytes
  have hr := B.returns
  have hg : ∀ w ∈ lw_g, w.before _ s = true := fun w hw => atoms_spec (ws := .code y_Arrays_rangeCheck b_Arrays_rangeCheck 3 none :: lw_g) B.pre w (List.mem_cons_of_mem _ hw)
  have hown : s.vm.findClass R_Arrays = some m.cls := findClass_of_methodNamed B.named
  have hlocks := B.notSynchronized
  clear B
  have hP : va_P (dC, dI) classes [] s.heap := hP
  have hl := lv_entry ([.int p0, .int p1, .int p2]) (n := 3) (Nat.le_of_ble_eq_true rfl)
  rw [lg_entry_eq]
  generalize (lg_sl ([.int p0, .int p1, .int p2]) ++ List.replicate (3 - (lg_sl ([.int p0, .int p1, .int p2])).length) Slot.unset).toArray = ls at hl ⊢
  have hl : lv_has ls 3 [(0, .int p0), (1, .int p1), (2, .int p2)] := hl
  unfold m_Arrays_rangeCheck at h
  refine lv_iload_n hx hb d_Arrays_rangeCheck_0 rfl (lv_at hl 1 rfl) ?_
  refine lv_iload_n hx hb d_Arrays_rangeCheck_1 rfl (lv_at hl 2 rfl) ?_
  refine lv_icmp_le (tgt := 46) hx hb d_Arrays_rangeCheck_2 (by decide) (fun c1 => ?_) (fun c1 => ?_)
  · rw [if_pos c1] at h
    refine lv_iload_n hx hb d_Arrays_rangeCheck_46 rfl (lv_at hl 1 rfl) ?_
    refine lv_if_ge (tgt := 59) hx hb d_Arrays_rangeCheck_47 (by decide) (fun c2 => ?_) (fun c2 => ?_)
    · rw [if_pos c2] at h
      refine lv_iload_n hx hb d_Arrays_rangeCheck_59 rfl (lv_at hl 2 rfl) ?_
      refine lv_iload_n hx hb d_Arrays_rangeCheck_60 rfl (lv_at hl 0 rfl) ?_
      refine lv_icmp_le (tgt := 73) hx hb d_Arrays_rangeCheck_61 (by decide) (fun c3 => ?_) (fun c3 => ?_)
      · rw [if_pos c3] at h
        obtain rfl := Option.some.inj h
        exact W.vret hx hb hr (fun t ht hW => ⟨rfl, trivial, ht⟩) (fun _ h => by cases h) d_Arrays_rangeCheck_73
      · rw [if_neg c3] at h
        cases h
    · rw [if_neg c2] at h
      cases h
  · rw [if_neg c1] at h
    cases h

set_option maxHeartbeats 4000000 in
set_option maxRecDepth 100000 in
theorem l_Arrays_fill_1 {p : Program} {l : Launch} {e : Env} {s : State} {m : MethodId} {args : Array Value} {below : List Frame} {meth : Method} {c : Code} {Q : State → Prop} {A : Nat → Prop} (dC : Nat → ClassId) (dI : Nat → Nat → Nat) (N : Nat) (cL : ClassId) (q0 : Nat) (qn0 : Nat) (p1 : Int32) (p2 : Int32) (p3 : Int64) {ζ : Type} {z : ζ} (hx : p.tables.exec = Jvm.exec) (hb : c.code = b_Arrays_fill) (hml : c.maxLocals = 6) (hown : s.vm.findClass R_Arrays = some m.cls) (hg : ∀ w ∈ lw_g, w.before args s = true) (hN : dz_N s) (hK : va_K (dC, dI) classes [(cL, .long)] s) (hA : ∀ q : Nat, s.heap.size ≤ q → A q) {k1_27 : Int32 → (Nat → Int64) → Option (ζ)} (hk1_27 : ∀ (v1_5 : Int32) (w1_f_qf0 : (Nat → Int64))    (H : Heap) (locs : List Loc) (ls : Array Slot), k1_27 v1_5 w1_f_qf0 = some z → va_P (dC, dI) classes [(q0, .inl (cL, qn0, .inr (.inl w1_f_qf0)))] H → va_D A [(q0, .inl (cL, qn0, .inr (.inl w1_f_qf0)))] → va_S A s.heap H locs → lv_has ls 6 [(5, .int v1_5), (0, .ref q0), (1, .int p1), (2, .int p2), (3, .long p3)] → W p l e ({ frames := 1, cells := 0, slots := 0, locals := 22 } : Room) s m args below meth c H locs 0 0 Q (F0 m 27 ls [])) : ∀ (n1 : Nat) (v1_5 : Int32) (w1_f_qf0 : (Nat → Int64))   (H : Heap) (locs : List Loc) (ls : Array Slot), lm_Arrays_fill_1 N qn0 p2 p3 k1_27 n1 v1_5 w1_f_qf0 = some z → va_P (dC, dI) classes [(q0, .inl (cL, qn0, .inr (.inl w1_f_qf0)))] H → va_D A [(q0, .inl (cL, qn0, .inr (.inl w1_f_qf0)))] → va_S A s.heap H locs → lv_has ls 6 [(5, .int v1_5), (0, .ref q0), (1, .int p1), (2, .int p2), (3, .long p3)] → W p l e ({ frames := 1, cells := 0, slots := 0, locals := 22 } : Room) s m args below meth c H locs 0 0 Q (F0 m 10 ls []) := by
  intro n1
  induction n1 with
  | zero =>
    intro v1_5 w1_f_qf0 H locs ls h hP hD hS hl
    rw [lm_Arrays_fill_1] at h
    cases h
  | succ n1 ih1 =>
    intro v1_5 w1_f_qf0 H locs ls h hP hD hS hl
    rw [lm_Arrays_fill_1] at h
    refine lv_iload hx hb d_Arrays_fill_10 (lv_at hl 0 rfl) ?_
    refine lv_iload_n hx hb d_Arrays_fill_12 rfl (lv_at hl 3 rfl) ?_
    refine lv_icmp_ge (tgt := 27) hx hb d_Arrays_fill_13 (by decide) (fun c2 => ?_) (fun c2 => ?_)
    · rw [if_pos c2] at h
      exact hk1_27 v1_5 w1_f_qf0 _ _ _ h (hP.sub [0] rfl) (hD.sub [0] (by decide) rfl) hS (lv_sub hl [0, 1, 2, 3, 4] rfl)
    · rw [if_neg c2] at h
      refine lv_aload_n hx hb d_Arrays_fill_16 rfl (lv_at hl 1 rfl) ?_
      refine lv_iload hx hb d_Arrays_fill_17 (lv_at hl 0 rfl) ?_
      refine lv_lload_n hx hb d_Arrays_fill_19 rfl (lv_at hl 4 rfl) ?_
      obtain ⟨i3, h⟩ := dz_oi h
      refine va_last (D := (dC, dI)) hx hb hK hP hD hS 0 0 rfl rfl i3 d_Arrays_fill_20 (fun H locs hP hD hS => ?_)
      have hP : va_P (dC, dI) classes [(q0, .inl (cL, qn0, .inr (.inl (vp_updL w1_f_qf0 v1_5.toNatClampNeg p3))))] H := hP
      have hD : va_D A [(q0, .inl (cL, qn0, .inr (.inl (vp_updL w1_f_qf0 v1_5.toNatClampNeg p3))))] := hD
      refine lv_iinc (v := v1_5 + 1) (lv' := [(5, .int (v1_5 + 1)), (0, .ref q0), (1, .int p1), (2, .int p2), (3, .long p3)]) hx hb d_Arrays_fill_21 hl (k := 0) rfl rfl (by decide) rfl (fun ls hl => ?_)
      refine lv_goto (tgt := 10) hx hb d_Arrays_fill_24 (by decide) ?_
      exact ih1 (v1_5 + 1) (vp_updL w1_f_qf0 v1_5.toNatClampNeg p3) _ _ _ h (hP.sub [0] rfl) (hD.sub [0] (by decide) rfl) hS (lv_sub hl [0, 1, 2, 3, 4] rfl)
set_option maxHeartbeats 4000000 in
set_option maxRecDepth 100000 in
theorem c_Arrays_fill (l : Launch) (dC : Nat → ClassId) (dI : Nat → Nat → Nat) (N : Nat) (cL : ClassId) (q0 : Nat) (qn0 : Nat) (qf0 : Nat → Int64) (p1 : Int32) (p2 : Int32) (p3 : Int64) (sz : Nat) (z : (Nat → Int64)) (h : m_Arrays_fill N qn0 qf0 p1 p2 p3 = some z) : Met l y_Arrays_fill (.code y_Arrays_fill b_Arrays_fill 6 none :: lw_g) ({ frames := 1, cells := 0, slots := 0, locals := 22 }) (va_Pc [.ref q0, .int p1, .int p2, .long p3] (fun U => dz_N U ∧ U.heap.size = sz ∧ va_P (dC, dI) classes [(q0, .inl (cL, qn0, .inr (.inl qf0)))] U.heap ∧ va_K (dC, dI) classes [(cL, .long)] U ∧ va_D (fun _ => True) [(q0, .inl (cL, qn0, .inr (.inl qf0)))])) (va_Qv (fun (_ : Unit) => True) (fun (u : Unit) t => va_P (dC, dI) classes [(q0, .inl (cL, qn0, .inr (.inl z)))] t.heap ∧ va_K (dC, dI) classes [(cL, .long)] t ∧ va_D (va_A [(q0, .inl (cL, qn0, .inr (.inl qf0)))] sz) [(q0, .inl (cL, qn0, .inr (.inl z)))]) (va_A [(q0, .inl (cL, qn0, .inr (.inl qf0)))] sz)) 0 0 (va_A [(q0, .inl (cL, qn0, .inr (.inl qf0)))] sz) := by
  refine va_MetF (cc := b_Arrays_fill) (maxL := 6) (ret := none) (by decide +kernel) rfl ?_
  intro p e s m args below meth c s₁ B hml hv
  obtain ⟨rfl, hN, hsz, hP, hK, hD0⟩ := hv
  have hx := B.exec
  have hb := B.bytes
  have hr := B.returns
  have hg : ∀ w ∈ lw_g, w.before _ s = true := fun w hw => atoms_spec (ws := .code y_Arrays_fill b_Arrays_fill 6 none :: lw_g) B.pre w (List.mem_cons_of_mem _ hw)
  have hown : s.vm.findClass R_Arrays = some m.cls := findClass_of_methodNamed B.named
  have hlocks := B.notSynchronized
  clear B
  subst hsz
  have hD := hD0.self (sz := s.heap.size)
  generalize hAe : va_A [(q0, .inl (cL, qn0, .inr (.inl qf0)))] s.heap.size = A at hD ⊢
  have hA : ∀ q : Nat, s.heap.size ≤ q → A q := fun q h => by rw [← hAe]; exact Or.inr h
  have hS : va_S A s.heap s.heap [] := va_S.rf
  have hP : va_P (dC, dI) classes [(q0, .inl (cL, qn0, .inr (.inl qf0)))] s.heap := hP
  have hl := lv_entry ([.ref q0, .int p1, .int p2, .long p3]) (n := 6) (Nat.le_of_ble_eq_true rfl)
  rw [lg_entry_eq]
  generalize (lg_sl ([.ref q0, .int p1, .int p2, .long p3]) ++ List.replicate (6 - (lg_sl ([.ref q0, .int p1, .int p2, .long p3])).length) Slot.unset).toArray = ls at hl ⊢
  have hl : lv_has ls 6 [(0, .ref q0), (1, .int p1), (2, .int p2), (3, .long p3)] := hl
  unfold m_Arrays_fill at h
  refine lv_aload_n hx hb d_Arrays_fill_0 rfl (lv_at hl 0 rfl) ?_
  refine va_alen (D := (dC, dI)) (v := Int32.ofNat qn0) hx hb hK hP 0 0 rfl rfl rfl d_Arrays_fill_1 ?_
  refine lv_iload_n hx hb d_Arrays_fill_2 rfl (lv_at hl 1 rfl) ?_
  refine lv_iload_n hx hb d_Arrays_fill_3 rfl (lv_at hl 2 rfl) ?_
  obtain ⟨⟨⟩, hc1, h⟩ := dz_ob h
  try dsimp only at h
  have hPc := hP.sub (ws' := []) [] rfl
  have hKc := hK.sub (tys' := []) [] rfl
  refine va_csv (va_Run.run (va_runS (As := [.int (Int32.ofNat qn0), .int p1, .int p2]) (rest := []) ⟨hx, hb, hml, hown, hg⟩ (c_Arrays_rangeCheck l dC dI N (Int32.ofNat qn0) p1 p2 () hc1) (va_cwS 3 hg (gd_S k20 k21 k22 k19) rfl rfl rfl (by decide +kernel) ⟨Nat.le_of_ble_eq_true rfl, Nat.le_of_ble_eq_true rfl⟩) ⟨dz_blindR, fun U hU hW => ⟨rfl, dz_Nw hW hN, by rw [hU]; exact hPc, va_K.moved hW.alike hKc⟩⟩ rfl rfl hl.1 rfl (lv_room (Nat.le_of_ble_eq_true rfl)) d_Arrays_fill_4 ⟨Nat.le_of_ble_eq_true rfl, Nat.le_of_ble_eq_true rfl⟩)) (fun hw => ?_)
  refine lv_iload_n hx hb d_Arrays_fill_7 rfl (lv_at hl 1 rfl) ?_
  refine lv_istore (lv' := [(5, .int p1), (0, .ref q0), (1, .int p1), (2, .int p2), (3, .long p3)]) hx hb d_Arrays_fill_8 hl (by decide) rfl (fun ls hl => ?_)
  refine l_Arrays_fill_1 dC dI N cL q0 qn0 p1 p2 p3 hx hb hml hown hg hN hK hA (fun v1_5 w1_f_qf0 H locs ls h hP hD hS hl => ?_) N p1 qf0 _ _ _ h (hP.sub [0] rfl) (hD.sub [0] (by decide) rfl) hS (lv_sub hl [0, 1, 2, 3, 4] rfl)
  obtain rfl := Option.some.inj h
  have hP9 := hP.sub (ws' := [(q0, .inl (cL, qn0, .inr (.inl w1_f_qf0)))]) [0] rfl
  have hD9 := hD.sub (ws' := [(q0, .inl (cL, qn0, .inr (.inl w1_f_qf0)))]) [0] (by decide) rfl
  have hK9 := hK.sub (tys' := [(cL, .long)]) [0] rfl
  exact W.vret hx hb hr (fun t ht hW => ⟨⟨(), rfl, trivial, by rw [ht]; exact hP9, va_K.moved hW.alike hK9, hD9⟩, hS.F ht⟩) hS.2.2 d_Arrays_fill_27
