/-! What the law's start gives: nest mates' links, classes, array classes, the static tables -/
theorem law_N {args : Array Value} {s : State} (hts : ∀ w ∈ lw_tbl, w.before args s = true) : dz_N s := ⟨va_Nw.of rfl (hts _ (List.mem_append_right _ (List.mem_of_getElem? (i := 781) (by decide +kernel)))), va_Nw.of rfl (hts _ (List.mem_append_right _ (List.mem_of_getElem? (i := 528) (by decide +kernel)))), va_Nw.of rfl (hts _ (List.mem_append_right _ (List.mem_of_getElem? (i := 881) (by decide +kernel)))), va_Nw.of rfl (hts _ (List.mem_append_right _ (List.mem_of_getElem? (i := 353) (by decide +kernel)))), va_Nw.of rfl (hts _ (List.mem_append_right _ (List.mem_of_getElem? (i := 485) (by decide +kernel))))⟩
theorem law_N2 {args : Array Value} {s : State} (hts : ∀ w ∈ lw_tbl, w.before args s = true) : dz_N2 s := ⟨va_Nw.of rfl (hts _ (List.mem_append_right _ (List.mem_of_getElem? (i := 27) (by decide +kernel)))), va_Nw.of rfl (hts _ (List.mem_append_right _ (List.mem_of_getElem? (i := 83) (by decide +kernel)))), va_Nw.of rfl (hts _ (List.mem_append_right _ (List.mem_of_getElem? (i := 119) (by decide +kernel))))⟩
theorem law_arrB {args : Array Value} {s : State} (h : (Cond.arrayClass .byte).before args s = true) : ∃ cA : ClassId, ArrOfT s cA .byte ∧ va_RA s cA .byte := by
  obtain ⟨cA, kA, comp, h1, h2, h3⟩ := Cond.arrayClass_spec h
  exact ⟨cA, fun n z => ⟨fun k h => (by cases h), kA, h2, comp, h3⟩, h1⟩
theorem law_arrI {args : Array Value} {s : State} (h : (Cond.arrayClass .int).before args s = true) : ∃ cA : ClassId, ArrOfT s cA .int ∧ va_RA s cA .int := by
  obtain ⟨cA, kA, comp, h1, h2, h3⟩ := Cond.arrayClass_spec h
  exact ⟨cA, fun n z => ⟨fun k h => (by cases h), kA, h2, comp, h3⟩, h1⟩
theorem law_arrL {args : Array Value} {s : State} (h : (Cond.arrayClass .long).before args s = true) : ∃ cA : ClassId, ArrOfT s cA .long ∧ va_RA s cA .long := by
  obtain ⟨cA, kA, comp, h1, h2, h3⟩ := Cond.arrayClass_spec h
  exact ⟨cA, fun n z => ⟨fun k h => (by cases h), kA, h2, comp, h3⟩, h1⟩
set_option maxRecDepth 20000 in
theorem law_K {args : Array Value} {s : State} (hts : ∀ w ∈ lw_tbl, w.before args s = true) : ∃ (dC : Nat → ClassId) (dI : Nat → Nat → Nat) (cB cI cL : ClassId), va_K (dC, dI) classes [(cB, .byte), (cI, .int), (cL, .long)] s := by
  have hg : ∀ w ∈ lw_g, w.before args s = true := fun w hw => hts w (List.mem_filter.mp hw).1
  obtain ⟨c0, s0, hk0⟩ := u_known (C := R_Program) (T := F_Program) (N := 7) (n := 7) hg i_Program (hts (.instantiable R_Program 7) (List.mem_append_right _ (List.mem_of_getElem? (i := 82) (by decide +kernel))))
  obtain ⟨c1, s1, hk1⟩ := u_known (C := R_Output) (T := F_Output) (N := 2) (n := 2) hg i_Output (hts (.instantiable R_Output 2) (List.mem_append_right _ (List.mem_of_getElem? (i := 118) (by decide +kernel))))
  obtain ⟨c2, s2, hk2⟩ := u_known (C := R_Stacks) (T := F_Stacks) (N := 12) (n := 12) hg i_Stacks (hts (.instantiable R_Stacks 12) (List.mem_append_right _ (List.mem_of_getElem? (i := 26) (by decide +kernel))))
  obtain ⟨c3, s3, hk3⟩ := u_known (C := R_Heap) (T := F_Heap) (N := 20) (n := 20) hg i_Heap (hts (.instantiable R_Heap 20) (List.mem_append_right _ (List.mem_of_getElem? (i := 133) (by decide +kernel))))
  obtain ⟨c4, s4, hk4⟩ := u_known (C := R_Objects) (T := F_Objects) (N := 4) (n := 4) hg i_Objects (hts (.instantiable R_Objects 4) (List.mem_append_right _ (List.mem_of_getElem? (i := 220) (by decide +kernel))))
  obtain ⟨c5, s5, hk5⟩ := u_known (C := R_Equality) (T := F_Equality) (N := 4) (n := 4) hg i_Equality (hts (.instantiable R_Equality 4) (List.mem_append_right _ (List.mem_of_getElem? (i := 239) (by decide +kernel))))
  obtain ⟨c6, s6, hk6⟩ := u_known (C := R_Numbers) (T := F_Numbers) (N := 1) (n := 1) hg i_Numbers (hts (.instantiable R_Numbers 1) (List.mem_append_right _ (List.mem_of_getElem? (i := 258) (by decide +kernel))))
  obtain ⟨c7, s7, hk7⟩ := u_known (C := R_Strings) (T := F_Strings) (N := 3) (n := 3) hg i_Strings (hts (.instantiable R_Strings 3) (List.mem_append_right _ (List.mem_of_getElem? (i := 268) (by decide +kernel))))
  obtain ⟨c8, s8, hk8⟩ := u_known (C := R_Machine) (T := F_Machine) (N := 15) (n := 15) hg i_Machine (hts (.instantiable R_Machine 15) (List.mem_append_right _ (List.mem_of_getElem? (i := 214) (by decide +kernel))))
  obtain ⟨c9, s9, hk9⟩ := u_known (C := R_Engine) (T := F_Engine) (N := 4) (n := 4) hg i_Engine (hts (.instantiable R_Engine 4) (List.mem_append_right _ (List.mem_of_getElem? (i := 18) (by decide +kernel))))
  obtain ⟨c10, s10, hk10⟩ := u_known (C := R_Model) (T := F_Model) (N := 54) (n := 54) hg i_Model (hts (.instantiable R_Model 54) (List.mem_append_right _ (List.mem_of_getElem? (i := 1008) (by decide +kernel))))
  obtain ⟨cB, aB, rB⟩ := law_arrB (hts (.arrayClass .byte) (List.mem_append_right _ (List.mem_of_getElem? (i := 116) (by decide +kernel))))
  obtain ⟨cI, aI, rI⟩ := law_arrI (hts (.arrayClass .int) (List.mem_append_right _ (List.mem_of_getElem? (i := 80) (by decide +kernel))))
  obtain ⟨cL, aL, rL⟩ := law_arrL (hts (.arrayClass .long) (List.mem_append_right _ (List.mem_of_getElem? (i := 79) (by decide +kernel))))
  refine ⟨fun k => if k = 0 then c0 else if k = 1 then c1 else if k = 2 then c2 else if k = 3 then c3 else if k = 4 then c4 else if k = 5 then c5 else if k = 6 then c6 else if k = 7 then c7 else if k = 8 then c8 else if k = 9 then c9 else c10, fun k => if k = 0 then s0 else if k = 1 then s1 else if k = 2 then s2 else if k = 3 then s3 else if k = 4 then s4 else if k = 5 then s5 else if k = 6 then s6 else if k = 7 then s7 else if k = 8 then s8 else if k = 9 then s9 else s10, cB, cI, cL, ?_, ?_⟩
  · intro k q hq
    match k, hq with
    | 0, hq => cases hq; exact hk0
    | 1, hq => cases hq; exact hk1
    | 2, hq => cases hq; exact hk2
    | 3, hq => cases hq; exact hk3
    | 4, hq => cases hq; exact hk4
    | 5, hq => cases hq; exact hk5
    | 6, hq => cases hq; exact hk6
    | 7, hq => cases hq; exact hk7
    | 8, hq => cases hq; exact hk8
    | 9, hq => cases hq; exact hk9
    | 10, hq => cases hq; exact hk10
    | k + 11, hq => simp [classes] at hq
  · intro k q hq
    match k, hq with
    | 0, hq => cases hq; exact ⟨aB, rB⟩
    | 1, hq => cases hq; exact ⟨aI, rI⟩
    | 2, hq => cases hq; exact ⟨aL, rL⟩
    | k + 3, hq => simp at hq
set_option maxRecDepth 20000 in
theorem law_t1 {args : Array Value} {s : State} {A : Nat → Prop} (hts : ∀ w ∈ lw_tbl, w.before args s = true) (hs : ∀ c ∈ flatC (Jvm.Cond.and given_1 narrow_1), c.before args s = true) (hA : ∀ a : Nat, a < s.heap.size → ¬ A a) : ∃ t : Nat, va_Z R_Machine "OPERANDS" "[I" (.ref t) A s s.heap ∧ va_T .int t 40 (fun j => .int (tab1 j)) A s s.heap := by
  have e0 := va_eqt (hs (.eq (.elem (Term.static "CellEngine$Machine" "OPERANDS" "[I") (.int 0)) (.int 0)) (by decide +kernel))
  have e1 := va_eqt (hs (.eq (.elem (Term.static "CellEngine$Machine" "OPERANDS" "[I") (.int 1)) (.int 1)) (by decide +kernel))
  have e2 := va_eqt (hs (.eq (.elem (Term.static "CellEngine$Machine" "OPERANDS" "[I") (.int 2)) (.int 1)) (by decide +kernel))
  have e3 := va_eqt (hs (.eq (.elem (Term.static "CellEngine$Machine" "OPERANDS" "[I") (.int 3)) (.int 1)) (by decide +kernel))
  have e4 := va_eqt (hs (.eq (.elem (Term.static "CellEngine$Machine" "OPERANDS" "[I") (.int 4)) (.int 1)) (by decide +kernel))
  have e5 := va_eqt (hs (.eq (.elem (Term.static "CellEngine$Machine" "OPERANDS" "[I") (.int 5)) (.int 1)) (by decide +kernel))
  have e6 := va_eqt (hs (.eq (.elem (Term.static "CellEngine$Machine" "OPERANDS" "[I") (.int 6)) (.int 1)) (by decide +kernel))
  have e7 := va_eqt (hs (.eq (.elem (Term.static "CellEngine$Machine" "OPERANDS" "[I") (.int 7)) (.int 1)) (by decide +kernel))
  have e8 := va_eqt (hs (.eq (.elem (Term.static "CellEngine$Machine" "OPERANDS" "[I") (.int 8)) (.int 0)) (by decide +kernel))
  have e9 := va_eqt (hs (.eq (.elem (Term.static "CellEngine$Machine" "OPERANDS" "[I") (.int 9)) (.int 0)) (by decide +kernel))
  have e10 := va_eqt (hs (.eq (.elem (Term.static "CellEngine$Machine" "OPERANDS" "[I") (.int 10)) (.int 1)) (by decide +kernel))
  have e11 := va_eqt (hs (.eq (.elem (Term.static "CellEngine$Machine" "OPERANDS" "[I") (.int 11)) (.int 1)) (by decide +kernel))
  have e12 := va_eqt (hs (.eq (.elem (Term.static "CellEngine$Machine" "OPERANDS" "[I") (.int 12)) (.int 1)) (by decide +kernel))
  have e13 := va_eqt (hs (.eq (.elem (Term.static "CellEngine$Machine" "OPERANDS" "[I") (.int 13)) (.int 0)) (by decide +kernel))
  have e14 := va_eqt (hs (.eq (.elem (Term.static "CellEngine$Machine" "OPERANDS" "[I") (.int 14)) (.int 0)) (by decide +kernel))
  have e15 := va_eqt (hs (.eq (.elem (Term.static "CellEngine$Machine" "OPERANDS" "[I") (.int 15)) (.int 2)) (by decide +kernel))
  have e16 := va_eqt (hs (.eq (.elem (Term.static "CellEngine$Machine" "OPERANDS" "[I") (.int 16)) (.int 1)) (by decide +kernel))
  have e17 := va_eqt (hs (.eq (.elem (Term.static "CellEngine$Machine" "OPERANDS" "[I") (.int 17)) (.int 0)) (by decide +kernel))
  have e18 := va_eqt (hs (.eq (.elem (Term.static "CellEngine$Machine" "OPERANDS" "[I") (.int 18)) (.int 0)) (by decide +kernel))
  have e19 := va_eqt (hs (.eq (.elem (Term.static "CellEngine$Machine" "OPERANDS" "[I") (.int 19)) (.int 0)) (by decide +kernel))
  have e20 := va_eqt (hs (.eq (.elem (Term.static "CellEngine$Machine" "OPERANDS" "[I") (.int 20)) (.int 1)) (by decide +kernel))
  have e21 := va_eqt (hs (.eq (.elem (Term.static "CellEngine$Machine" "OPERANDS" "[I") (.int 21)) (.int 1)) (by decide +kernel))
  have e22 := va_eqt (hs (.eq (.elem (Term.static "CellEngine$Machine" "OPERANDS" "[I") (.int 22)) (.int 2)) (by decide +kernel))
  have e23 := va_eqt (hs (.eq (.elem (Term.static "CellEngine$Machine" "OPERANDS" "[I") (.int 23)) (.int 0)) (by decide +kernel))
  have e24 := va_eqt (hs (.eq (.elem (Term.static "CellEngine$Machine" "OPERANDS" "[I") (.int 24)) (.int 0)) (by decide +kernel))
  have e25 := va_eqt (hs (.eq (.elem (Term.static "CellEngine$Machine" "OPERANDS" "[I") (.int 25)) (.int 0)) (by decide +kernel))
  have e26 := va_eqt (hs (.eq (.elem (Term.static "CellEngine$Machine" "OPERANDS" "[I") (.int 26)) (.int 1)) (by decide +kernel))
  have e27 := va_eqt (hs (.eq (.elem (Term.static "CellEngine$Machine" "OPERANDS" "[I") (.int 27)) (.int 0)) (by decide +kernel))
  have e28 := va_eqt (hs (.eq (.elem (Term.static "CellEngine$Machine" "OPERANDS" "[I") (.int 28)) (.int 0)) (by decide +kernel))
  have e29 := va_eqt (hs (.eq (.elem (Term.static "CellEngine$Machine" "OPERANDS" "[I") (.int 29)) (.int 1)) (by decide +kernel))
  have e30 := va_eqt (hs (.eq (.elem (Term.static "CellEngine$Machine" "OPERANDS" "[I") (.int 30)) (.int 0)) (by decide +kernel))
  have e31 := va_eqt (hs (.eq (.elem (Term.static "CellEngine$Machine" "OPERANDS" "[I") (.int 31)) (.int 0)) (by decide +kernel))
  have e32 := va_eqt (hs (.eq (.elem (Term.static "CellEngine$Machine" "OPERANDS" "[I") (.int 32)) (.int 0)) (by decide +kernel))
  have e33 := va_eqt (hs (.eq (.elem (Term.static "CellEngine$Machine" "OPERANDS" "[I") (.int 33)) (.int 0)) (by decide +kernel))
  have e34 := va_eqt (hs (.eq (.elem (Term.static "CellEngine$Machine" "OPERANDS" "[I") (.int 34)) (.int 1)) (by decide +kernel))
  have e35 := va_eqt (hs (.eq (.elem (Term.static "CellEngine$Machine" "OPERANDS" "[I") (.int 35)) (.int 0)) (by decide +kernel))
  have e36 := va_eqt (hs (.eq (.elem (Term.static "CellEngine$Machine" "OPERANDS" "[I") (.int 36)) (.int 1)) (by decide +kernel))
  have e37 := va_eqt (hs (.eq (.elem (Term.static "CellEngine$Machine" "OPERANDS" "[I") (.int 37)) (.int 1)) (by decide +kernel))
  have e38 := va_eqt (hs (.eq (.elem (Term.static "CellEngine$Machine" "OPERANDS" "[I") (.int 38)) (.int 1)) (by decide +kernel))
  have e39 := va_eqt (hs (.eq (.elem (Term.static "CellEngine$Machine" "OPERANDS" "[I") (.int 39)) (.int 0)) (by decide +kernel))
  obtain ⟨t, h1, h2⟩ := va_Tof (N := 40) (f := fun j => .int (tab1 j)) (A := A) (by decide) (hs (.arrayOf (Term.static "CellEngine$Machine" "OPERANDS" "[I") .int) (by decide +kernel)) (va_eqt (hs (.eq (.length (Term.static "CellEngine$Machine" "OPERANDS" "[I")) (.int 40)) (by decide +kernel))) (fun j hj => by
    rcases (show j = 0 ∨ j = 1 ∨ j = 2 ∨ j = 3 ∨ j = 4 ∨ j = 5 ∨ j = 6 ∨ j = 7 ∨ j = 8 ∨ j = 9 ∨ j = 10 ∨ j = 11 ∨ j = 12 ∨ j = 13 ∨ j = 14 ∨ j = 15 ∨ j = 16 ∨ j = 17 ∨ j = 18 ∨ j = 19 ∨ j = 20 ∨ j = 21 ∨ j = 22 ∨ j = 23 ∨ j = 24 ∨ j = 25 ∨ j = 26 ∨ j = 27 ∨ j = 28 ∨ j = 29 ∨ j = 30 ∨ j = 31 ∨ j = 32 ∨ j = 33 ∨ j = 34 ∨ j = 35 ∨ j = 36 ∨ j = 37 ∨ j = 38 ∨ j = 39 by omega) with rfl | rfl | rfl | rfl | rfl | rfl | rfl | rfl | rfl | rfl | rfl | rfl | rfl | rfl | rfl | rfl | rfl | rfl | rfl | rfl | rfl | rfl | rfl | rfl | rfl | rfl | rfl | rfl | rfl | rfl | rfl | rfl | rfl | rfl | rfl | rfl | rfl | rfl | rfl | rfl
    · exact e0
    · exact e1
    · exact e2
    · exact e3
    · exact e4
    · exact e5
    · exact e6
    · exact e7
    · exact e8
    · exact e9
    · exact e10
    · exact e11
    · exact e12
    · exact e13
    · exact e14
    · exact e15
    · exact e16
    · exact e17
    · exact e18
    · exact e19
    · exact e20
    · exact e21
    · exact e22
    · exact e23
    · exact e24
    · exact e25
    · exact e26
    · exact e27
    · exact e28
    · exact e29
    · exact e30
    · exact e31
    · exact e32
    · exact e33
    · exact e34
    · exact e35
    · exact e36
    · exact e37
    · exact e38
    · exact e39
    ) hA
  exact ⟨t, va_Zref (hts (.laysStatic "CellEngine$Machine" "OPERANDS" "[I") (List.mem_append_right _ (List.mem_of_getElem? (i := 446) (by decide +kernel)))) (hts (.initialized R_Machine) (List.mem_append_right _ (List.mem_of_getElem? (i := 6) (by decide +kernel)))) h1 hA, h2⟩
set_option maxRecDepth 20000 in
theorem law_t2 {args : Array Value} {s : State} {A : Nat → Prop} (hts : ∀ w ∈ lw_tbl, w.before args s = true) (hs : ∀ c ∈ flatC (Jvm.Cond.and given_1 narrow_1), c.before args s = true) (hA : ∀ a : Nat, a < s.heap.size → ¬ A a) : ∃ t : Nat, va_Z R_Machine "TAKEN" "[I" (.ref t) A s s.heap ∧ va_T .int t 40 (fun j => .int (tab2 j)) A s s.heap := by
  have e0 := va_eqt (hs (.eq (.elem (Term.static "CellEngine$Machine" "TAKEN" "[I") (.int 0)) (.int 1)) (by decide +kernel))
  have e1 := va_eqt (hs (.eq (.elem (Term.static "CellEngine$Machine" "TAKEN" "[I") (.int 1)) (.int 0)) (by decide +kernel))
  have e2 := va_eqt (hs (.eq (.elem (Term.static "CellEngine$Machine" "TAKEN" "[I") (.int 2)) (.int 0)) (by decide +kernel))
  have e3 := va_eqt (hs (.eq (.elem (Term.static "CellEngine$Machine" "TAKEN" "[I") (.int 3)) (.int 0)) (by decide +kernel))
  have e4 := va_eqt (hs (.eq (.elem (Term.static "CellEngine$Machine" "TAKEN" "[I") (.int 4)) (.int 1)) (by decide +kernel))
  have e5 := va_eqt (hs (.eq (.elem (Term.static "CellEngine$Machine" "TAKEN" "[I") (.int 5)) (.int 0)) (by decide +kernel))
  have e6 := va_eqt (hs (.eq (.elem (Term.static "CellEngine$Machine" "TAKEN" "[I") (.int 6)) (.int 0)) (by decide +kernel))
  have e7 := va_eqt (hs (.eq (.elem (Term.static "CellEngine$Machine" "TAKEN" "[I") (.int 7)) (.int 1)) (by decide +kernel))
  have e8 := va_eqt (hs (.eq (.elem (Term.static "CellEngine$Machine" "TAKEN" "[I") (.int 8)) (.int 1)) (by decide +kernel))
  have e9 := va_eqt (hs (.eq (.elem (Term.static "CellEngine$Machine" "TAKEN" "[I") (.int 9)) (.int 1)) (by decide +kernel))
  have e10 := va_eqt (hs (.eq (.elem (Term.static "CellEngine$Machine" "TAKEN" "[I") (.int 10)) (.int 0)) (by decide +kernel))
  have e11 := va_eqt (hs (.eq (.elem (Term.static "CellEngine$Machine" "TAKEN" "[I") (.int 11)) (.int 1)) (by decide +kernel))
  have e12 := va_eqt (hs (.eq (.elem (Term.static "CellEngine$Machine" "TAKEN" "[I") (.int 12)) (.int 1)) (by decide +kernel))
  have e13 := va_eqt (hs (.eq (.elem (Term.static "CellEngine$Machine" "TAKEN" "[I") (.int 13)) (.int 1)) (by decide +kernel))
  have e14 := va_eqt (hs (.eq (.elem (Term.static "CellEngine$Machine" "TAKEN" "[I") (.int 14)) (.int 1)) (by decide +kernel))
  have e15 := va_eqt (hs (.eq (.elem (Term.static "CellEngine$Machine" "TAKEN" "[I") (.int 15)) (.int 0)) (by decide +kernel))
  have e16 := va_eqt (hs (.eq (.elem (Term.static "CellEngine$Machine" "TAKEN" "[I") (.int 16)) (.int 2)) (by decide +kernel))
  have e17 := va_eqt (hs (.eq (.elem (Term.static "CellEngine$Machine" "TAKEN" "[I") (.int 17)) (.int 2)) (by decide +kernel))
  have e18 := va_eqt (hs (.eq (.elem (Term.static "CellEngine$Machine" "TAKEN" "[I") (.int 18)) (.int 2)) (by decide +kernel))
  have e19 := va_eqt (hs (.eq (.elem (Term.static "CellEngine$Machine" "TAKEN" "[I") (.int 19)) (.int 1)) (by decide +kernel))
  have e20 := va_eqt (hs (.eq (.elem (Term.static "CellEngine$Machine" "TAKEN" "[I") (.int 20)) (.int 0)) (by decide +kernel))
  have e21 := va_eqt (hs (.eq (.elem (Term.static "CellEngine$Machine" "TAKEN" "[I") (.int 21)) (.int 1)) (by decide +kernel))
  have e22 := va_eqt (hs (.eq (.elem (Term.static "CellEngine$Machine" "TAKEN" "[I") (.int 22)) (.int 1)) (by decide +kernel))
  have e23 := va_eqt (hs (.eq (.elem (Term.static "CellEngine$Machine" "TAKEN" "[I") (.int 23)) (.int 1)) (by decide +kernel))
  have e24 := va_eqt (hs (.eq (.elem (Term.static "CellEngine$Machine" "TAKEN" "[I") (.int 24)) (.int 1)) (by decide +kernel))
  have e25 := va_eqt (hs (.eq (.elem (Term.static "CellEngine$Machine" "TAKEN" "[I") (.int 25)) (.int 2)) (by decide +kernel))
  have e26 := va_eqt (hs (.eq (.elem (Term.static "CellEngine$Machine" "TAKEN" "[I") (.int 26)) (.int 0)) (by decide +kernel))
  have e27 := va_eqt (hs (.eq (.elem (Term.static "CellEngine$Machine" "TAKEN" "[I") (.int 27)) (.int 0)) (by decide +kernel))
  have e28 := va_eqt (hs (.eq (.elem (Term.static "CellEngine$Machine" "TAKEN" "[I") (.int 28)) (.int 1)) (by decide +kernel))
  have e29 := va_eqt (hs (.eq (.elem (Term.static "CellEngine$Machine" "TAKEN" "[I") (.int 29)) (.int 0)) (by decide +kernel))
  have e30 := va_eqt (hs (.eq (.elem (Term.static "CellEngine$Machine" "TAKEN" "[I") (.int 30)) (.int 2)) (by decide +kernel))
  have e31 := va_eqt (hs (.eq (.elem (Term.static "CellEngine$Machine" "TAKEN" "[I") (.int 31)) (.int 1)) (by decide +kernel))
  have e32 := va_eqt (hs (.eq (.elem (Term.static "CellEngine$Machine" "TAKEN" "[I") (.int 32)) (.int 2)) (by decide +kernel))
  have e33 := va_eqt (hs (.eq (.elem (Term.static "CellEngine$Machine" "TAKEN" "[I") (.int 33)) (.int 2)) (by decide +kernel))
  have e34 := va_eqt (hs (.eq (.elem (Term.static "CellEngine$Machine" "TAKEN" "[I") (.int 34)) (.int 0)) (by decide +kernel))
  have e35 := va_eqt (hs (.eq (.elem (Term.static "CellEngine$Machine" "TAKEN" "[I") (.int 35)) (.int 0)) (by decide +kernel))
  have e36 := va_eqt (hs (.eq (.elem (Term.static "CellEngine$Machine" "TAKEN" "[I") (.int 36)) (.int 0)) (by decide +kernel))
  have e37 := va_eqt (hs (.eq (.elem (Term.static "CellEngine$Machine" "TAKEN" "[I") (.int 37)) (.int 0)) (by decide +kernel))
  have e38 := va_eqt (hs (.eq (.elem (Term.static "CellEngine$Machine" "TAKEN" "[I") (.int 38)) (.int 0)) (by decide +kernel))
  have e39 := va_eqt (hs (.eq (.elem (Term.static "CellEngine$Machine" "TAKEN" "[I") (.int 39)) (.int 2)) (by decide +kernel))
  obtain ⟨t, h1, h2⟩ := va_Tof (N := 40) (f := fun j => .int (tab2 j)) (A := A) (by decide) (hs (.arrayOf (Term.static "CellEngine$Machine" "TAKEN" "[I") .int) (by decide +kernel)) (va_eqt (hs (.eq (.length (Term.static "CellEngine$Machine" "TAKEN" "[I")) (.int 40)) (by decide +kernel))) (fun j hj => by
    rcases (show j = 0 ∨ j = 1 ∨ j = 2 ∨ j = 3 ∨ j = 4 ∨ j = 5 ∨ j = 6 ∨ j = 7 ∨ j = 8 ∨ j = 9 ∨ j = 10 ∨ j = 11 ∨ j = 12 ∨ j = 13 ∨ j = 14 ∨ j = 15 ∨ j = 16 ∨ j = 17 ∨ j = 18 ∨ j = 19 ∨ j = 20 ∨ j = 21 ∨ j = 22 ∨ j = 23 ∨ j = 24 ∨ j = 25 ∨ j = 26 ∨ j = 27 ∨ j = 28 ∨ j = 29 ∨ j = 30 ∨ j = 31 ∨ j = 32 ∨ j = 33 ∨ j = 34 ∨ j = 35 ∨ j = 36 ∨ j = 37 ∨ j = 38 ∨ j = 39 by omega) with rfl | rfl | rfl | rfl | rfl | rfl | rfl | rfl | rfl | rfl | rfl | rfl | rfl | rfl | rfl | rfl | rfl | rfl | rfl | rfl | rfl | rfl | rfl | rfl | rfl | rfl | rfl | rfl | rfl | rfl | rfl | rfl | rfl | rfl | rfl | rfl | rfl | rfl | rfl | rfl
    · exact e0
    · exact e1
    · exact e2
    · exact e3
    · exact e4
    · exact e5
    · exact e6
    · exact e7
    · exact e8
    · exact e9
    · exact e10
    · exact e11
    · exact e12
    · exact e13
    · exact e14
    · exact e15
    · exact e16
    · exact e17
    · exact e18
    · exact e19
    · exact e20
    · exact e21
    · exact e22
    · exact e23
    · exact e24
    · exact e25
    · exact e26
    · exact e27
    · exact e28
    · exact e29
    · exact e30
    · exact e31
    · exact e32
    · exact e33
    · exact e34
    · exact e35
    · exact e36
    · exact e37
    · exact e38
    · exact e39
    ) hA
  exact ⟨t, va_Zref (hts (.laysStatic "CellEngine$Machine" "TAKEN" "[I") (List.mem_append_right _ (List.mem_of_getElem? (i := 452) (by decide +kernel)))) (hts (.initialized R_Machine) (List.mem_append_right _ (List.mem_of_getElem? (i := 6) (by decide +kernel)))) h1 hA, h2⟩
set_option maxRecDepth 20000 in
theorem law_t3 {args : Array Value} {s : State} {A : Nat → Prop} (hts : ∀ w ∈ lw_tbl, w.before args s = true) (hs : ∀ c ∈ flatC (Jvm.Cond.and given_1 narrow_1), c.before args s = true) (hA : ∀ a : Nat, a < s.heap.size → ¬ A a) : ∃ t : Nat, va_Z R_Machine "PRIMITIVE_TAKES" "[I" (.ref t) A s s.heap ∧ va_T .int t 42 (fun j => .int (tab3 j)) A s s.heap := by
  have e0 := va_eqt (hs (.eq (.elem (Term.static "CellEngine$Machine" "PRIMITIVE_TAKES" "[I") (.int 0)) (.int 2)) (by decide +kernel))
  have e1 := va_eqt (hs (.eq (.elem (Term.static "CellEngine$Machine" "PRIMITIVE_TAKES" "[I") (.int 1)) (.int 2)) (by decide +kernel))
  have e2 := va_eqt (hs (.eq (.elem (Term.static "CellEngine$Machine" "PRIMITIVE_TAKES" "[I") (.int 2)) (.int 2)) (by decide +kernel))
  have e3 := va_eqt (hs (.eq (.elem (Term.static "CellEngine$Machine" "PRIMITIVE_TAKES" "[I") (.int 3)) (.int 1)) (by decide +kernel))
  have e4 := va_eqt (hs (.eq (.elem (Term.static "CellEngine$Machine" "PRIMITIVE_TAKES" "[I") (.int 4)) (.int 1)) (by decide +kernel))
  have e5 := va_eqt (hs (.eq (.elem (Term.static "CellEngine$Machine" "PRIMITIVE_TAKES" "[I") (.int 5)) (.int 2)) (by decide +kernel))
  have e6 := va_eqt (hs (.eq (.elem (Term.static "CellEngine$Machine" "PRIMITIVE_TAKES" "[I") (.int 6)) (.int 2)) (by decide +kernel))
  have e7 := va_eqt (hs (.eq (.elem (Term.static "CellEngine$Machine" "PRIMITIVE_TAKES" "[I") (.int 7)) (.int 2)) (by decide +kernel))
  have e8 := va_eqt (hs (.eq (.elem (Term.static "CellEngine$Machine" "PRIMITIVE_TAKES" "[I") (.int 8)) (.int 2)) (by decide +kernel))
  have e9 := va_eqt (hs (.eq (.elem (Term.static "CellEngine$Machine" "PRIMITIVE_TAKES" "[I") (.int 9)) (.int 2)) (by decide +kernel))
  have e10 := va_eqt (hs (.eq (.elem (Term.static "CellEngine$Machine" "PRIMITIVE_TAKES" "[I") (.int 10)) (.int 2)) (by decide +kernel))
  have e11 := va_eqt (hs (.eq (.elem (Term.static "CellEngine$Machine" "PRIMITIVE_TAKES" "[I") (.int 11)) (.int 2)) (by decide +kernel))
  have e12 := va_eqt (hs (.eq (.elem (Term.static "CellEngine$Machine" "PRIMITIVE_TAKES" "[I") (.int 12)) (.int 2)) (by decide +kernel))
  have e13 := va_eqt (hs (.eq (.elem (Term.static "CellEngine$Machine" "PRIMITIVE_TAKES" "[I") (.int 13)) (.int 2)) (by decide +kernel))
  have e14 := va_eqt (hs (.eq (.elem (Term.static "CellEngine$Machine" "PRIMITIVE_TAKES" "[I") (.int 14)) (.int 2)) (by decide +kernel))
  have e15 := va_eqt (hs (.eq (.elem (Term.static "CellEngine$Machine" "PRIMITIVE_TAKES" "[I") (.int 15)) (.int 2)) (by decide +kernel))
  have e16 := va_eqt (hs (.eq (.elem (Term.static "CellEngine$Machine" "PRIMITIVE_TAKES" "[I") (.int 16)) (.int 2)) (by decide +kernel))
  have e17 := va_eqt (hs (.eq (.elem (Term.static "CellEngine$Machine" "PRIMITIVE_TAKES" "[I") (.int 17)) (.int 2)) (by decide +kernel))
  have e18 := va_eqt (hs (.eq (.elem (Term.static "CellEngine$Machine" "PRIMITIVE_TAKES" "[I") (.int 18)) (.int 2)) (by decide +kernel))
  have e19 := va_eqt (hs (.eq (.elem (Term.static "CellEngine$Machine" "PRIMITIVE_TAKES" "[I") (.int 19)) (.int 2)) (by decide +kernel))
  have e20 := va_eqt (hs (.eq (.elem (Term.static "CellEngine$Machine" "PRIMITIVE_TAKES" "[I") (.int 20)) (.int 2)) (by decide +kernel))
  have e21 := va_eqt (hs (.eq (.elem (Term.static "CellEngine$Machine" "PRIMITIVE_TAKES" "[I") (.int 21)) (.int 2)) (by decide +kernel))
  have e22 := va_eqt (hs (.eq (.elem (Term.static "CellEngine$Machine" "PRIMITIVE_TAKES" "[I") (.int 22)) (.int 2)) (by decide +kernel))
  have e23 := va_eqt (hs (.eq (.elem (Term.static "CellEngine$Machine" "PRIMITIVE_TAKES" "[I") (.int 23)) (.int 1)) (by decide +kernel))
  have e24 := va_eqt (hs (.eq (.elem (Term.static "CellEngine$Machine" "PRIMITIVE_TAKES" "[I") (.int 24)) (.int 2)) (by decide +kernel))
  have e25 := va_eqt (hs (.eq (.elem (Term.static "CellEngine$Machine" "PRIMITIVE_TAKES" "[I") (.int 25)) (.int 2)) (by decide +kernel))
  have e26 := va_eqt (hs (.eq (.elem (Term.static "CellEngine$Machine" "PRIMITIVE_TAKES" "[I") (.int 26)) (.int 1)) (by decide +kernel))
  have e27 := va_eqt (hs (.eq (.elem (Term.static "CellEngine$Machine" "PRIMITIVE_TAKES" "[I") (.int 27)) (.int 2)) (by decide +kernel))
  have e28 := va_eqt (hs (.eq (.elem (Term.static "CellEngine$Machine" "PRIMITIVE_TAKES" "[I") (.int 28)) (.int 1)) (by decide +kernel))
  have e29 := va_eqt (hs (.eq (.elem (Term.static "CellEngine$Machine" "PRIMITIVE_TAKES" "[I") (.int 29)) (.int 1)) (by decide +kernel))
  have e30 := va_eqt (hs (.eq (.elem (Term.static "CellEngine$Machine" "PRIMITIVE_TAKES" "[I") (.int 30)) (.int 3)) (by decide +kernel))
  have e31 := va_eqt (hs (.eq (.elem (Term.static "CellEngine$Machine" "PRIMITIVE_TAKES" "[I") (.int 31)) (.int 2)) (by decide +kernel))
  have e32 := va_eqt (hs (.eq (.elem (Term.static "CellEngine$Machine" "PRIMITIVE_TAKES" "[I") (.int 32)) (.int 2)) (by decide +kernel))
  have e33 := va_eqt (hs (.eq (.elem (Term.static "CellEngine$Machine" "PRIMITIVE_TAKES" "[I") (.int 33)) (.int 2)) (by decide +kernel))
  have e34 := va_eqt (hs (.eq (.elem (Term.static "CellEngine$Machine" "PRIMITIVE_TAKES" "[I") (.int 34)) (.int 2)) (by decide +kernel))
  have e35 := va_eqt (hs (.eq (.elem (Term.static "CellEngine$Machine" "PRIMITIVE_TAKES" "[I") (.int 35)) (.int 2)) (by decide +kernel))
  have e36 := va_eqt (hs (.eq (.elem (Term.static "CellEngine$Machine" "PRIMITIVE_TAKES" "[I") (.int 36)) (.int 2)) (by decide +kernel))
  have e37 := va_eqt (hs (.eq (.elem (Term.static "CellEngine$Machine" "PRIMITIVE_TAKES" "[I") (.int 37)) (.int 1)) (by decide +kernel))
  have e38 := va_eqt (hs (.eq (.elem (Term.static "CellEngine$Machine" "PRIMITIVE_TAKES" "[I") (.int 38)) (.int 1)) (by decide +kernel))
  have e39 := va_eqt (hs (.eq (.elem (Term.static "CellEngine$Machine" "PRIMITIVE_TAKES" "[I") (.int 39)) (.int 1)) (by decide +kernel))
  have e40 := va_eqt (hs (.eq (.elem (Term.static "CellEngine$Machine" "PRIMITIVE_TAKES" "[I") (.int 40)) (.int 1)) (by decide +kernel))
  have e41 := va_eqt (hs (.eq (.elem (Term.static "CellEngine$Machine" "PRIMITIVE_TAKES" "[I") (.int 41)) (.int 1)) (by decide +kernel))
  obtain ⟨t, h1, h2⟩ := va_Tof (N := 42) (f := fun j => .int (tab3 j)) (A := A) (by decide) (hs (.arrayOf (Term.static "CellEngine$Machine" "PRIMITIVE_TAKES" "[I") .int) (by decide +kernel)) (va_eqt (hs (.eq (.length (Term.static "CellEngine$Machine" "PRIMITIVE_TAKES" "[I")) (.int 42)) (by decide +kernel))) (fun j hj => by
    rcases (show j = 0 ∨ j = 1 ∨ j = 2 ∨ j = 3 ∨ j = 4 ∨ j = 5 ∨ j = 6 ∨ j = 7 ∨ j = 8 ∨ j = 9 ∨ j = 10 ∨ j = 11 ∨ j = 12 ∨ j = 13 ∨ j = 14 ∨ j = 15 ∨ j = 16 ∨ j = 17 ∨ j = 18 ∨ j = 19 ∨ j = 20 ∨ j = 21 ∨ j = 22 ∨ j = 23 ∨ j = 24 ∨ j = 25 ∨ j = 26 ∨ j = 27 ∨ j = 28 ∨ j = 29 ∨ j = 30 ∨ j = 31 ∨ j = 32 ∨ j = 33 ∨ j = 34 ∨ j = 35 ∨ j = 36 ∨ j = 37 ∨ j = 38 ∨ j = 39 ∨ j = 40 ∨ j = 41 by omega) with rfl | rfl | rfl | rfl | rfl | rfl | rfl | rfl | rfl | rfl | rfl | rfl | rfl | rfl | rfl | rfl | rfl | rfl | rfl | rfl | rfl | rfl | rfl | rfl | rfl | rfl | rfl | rfl | rfl | rfl | rfl | rfl | rfl | rfl | rfl | rfl | rfl | rfl | rfl | rfl | rfl | rfl
    · exact e0
    · exact e1
    · exact e2
    · exact e3
    · exact e4
    · exact e5
    · exact e6
    · exact e7
    · exact e8
    · exact e9
    · exact e10
    · exact e11
    · exact e12
    · exact e13
    · exact e14
    · exact e15
    · exact e16
    · exact e17
    · exact e18
    · exact e19
    · exact e20
    · exact e21
    · exact e22
    · exact e23
    · exact e24
    · exact e25
    · exact e26
    · exact e27
    · exact e28
    · exact e29
    · exact e30
    · exact e31
    · exact e32
    · exact e33
    · exact e34
    · exact e35
    · exact e36
    · exact e37
    · exact e38
    · exact e39
    · exact e40
    · exact e41
    ) hA
  exact ⟨t, va_Zref (hts (.laysStatic "CellEngine$Machine" "PRIMITIVE_TAKES" "[I") (List.mem_append_right _ (List.mem_of_getElem? (i := 795) (by decide +kernel)))) (hts (.initialized R_Machine) (List.mem_append_right _ (List.mem_of_getElem? (i := 6) (by decide +kernel)))) h1 hA, h2⟩
set_option maxRecDepth 20000 in
theorem law_t4 {args : Array Value} {s : State} {A : Nat → Prop} (hts : ∀ w ∈ lw_tbl, w.before args s = true) (hs : ∀ c ∈ flatC (Jvm.Cond.and given_1 narrow_1), c.before args s = true) (hA : ∀ a : Nat, a < s.heap.size → ¬ A a) : ∃ t : Nat, va_Z R_Machine "PRIMITIVE_STRINGS" "[I" (.ref t) A s s.heap ∧ va_T .int t 42 (fun j => .int (tab4 j)) A s s.heap := by
  have e0 := va_eqt (hs (.eq (.elem (Term.static "CellEngine$Machine" "PRIMITIVE_STRINGS" "[I") (.int 0)) (.int 0)) (by decide +kernel))
  have e1 := va_eqt (hs (.eq (.elem (Term.static "CellEngine$Machine" "PRIMITIVE_STRINGS" "[I") (.int 1)) (.int 0)) (by decide +kernel))
  have e2 := va_eqt (hs (.eq (.elem (Term.static "CellEngine$Machine" "PRIMITIVE_STRINGS" "[I") (.int 2)) (.int 0)) (by decide +kernel))
  have e3 := va_eqt (hs (.eq (.elem (Term.static "CellEngine$Machine" "PRIMITIVE_STRINGS" "[I") (.int 3)) (.int 0)) (by decide +kernel))
  have e4 := va_eqt (hs (.eq (.elem (Term.static "CellEngine$Machine" "PRIMITIVE_STRINGS" "[I") (.int 4)) (.int 0)) (by decide +kernel))
  have e5 := va_eqt (hs (.eq (.elem (Term.static "CellEngine$Machine" "PRIMITIVE_STRINGS" "[I") (.int 5)) (.int 0)) (by decide +kernel))
  have e6 := va_eqt (hs (.eq (.elem (Term.static "CellEngine$Machine" "PRIMITIVE_STRINGS" "[I") (.int 6)) (.int 0)) (by decide +kernel))
  have e7 := va_eqt (hs (.eq (.elem (Term.static "CellEngine$Machine" "PRIMITIVE_STRINGS" "[I") (.int 7)) (.int 0)) (by decide +kernel))
  have e8 := va_eqt (hs (.eq (.elem (Term.static "CellEngine$Machine" "PRIMITIVE_STRINGS" "[I") (.int 8)) (.int 0)) (by decide +kernel))
  have e9 := va_eqt (hs (.eq (.elem (Term.static "CellEngine$Machine" "PRIMITIVE_STRINGS" "[I") (.int 9)) (.int 0)) (by decide +kernel))
  have e10 := va_eqt (hs (.eq (.elem (Term.static "CellEngine$Machine" "PRIMITIVE_STRINGS" "[I") (.int 10)) (.int 0)) (by decide +kernel))
  have e11 := va_eqt (hs (.eq (.elem (Term.static "CellEngine$Machine" "PRIMITIVE_STRINGS" "[I") (.int 11)) (.int 0)) (by decide +kernel))
  have e12 := va_eqt (hs (.eq (.elem (Term.static "CellEngine$Machine" "PRIMITIVE_STRINGS" "[I") (.int 12)) (.int 0)) (by decide +kernel))
  have e13 := va_eqt (hs (.eq (.elem (Term.static "CellEngine$Machine" "PRIMITIVE_STRINGS" "[I") (.int 13)) (.int 0)) (by decide +kernel))
  have e14 := va_eqt (hs (.eq (.elem (Term.static "CellEngine$Machine" "PRIMITIVE_STRINGS" "[I") (.int 14)) (.int 0)) (by decide +kernel))
  have e15 := va_eqt (hs (.eq (.elem (Term.static "CellEngine$Machine" "PRIMITIVE_STRINGS" "[I") (.int 15)) (.int 0)) (by decide +kernel))
  have e16 := va_eqt (hs (.eq (.elem (Term.static "CellEngine$Machine" "PRIMITIVE_STRINGS" "[I") (.int 16)) (.int 0)) (by decide +kernel))
  have e17 := va_eqt (hs (.eq (.elem (Term.static "CellEngine$Machine" "PRIMITIVE_STRINGS" "[I") (.int 17)) (.int 0)) (by decide +kernel))
  have e18 := va_eqt (hs (.eq (.elem (Term.static "CellEngine$Machine" "PRIMITIVE_STRINGS" "[I") (.int 18)) (.int 0)) (by decide +kernel))
  have e19 := va_eqt (hs (.eq (.elem (Term.static "CellEngine$Machine" "PRIMITIVE_STRINGS" "[I") (.int 19)) (.int 0)) (by decide +kernel))
  have e20 := va_eqt (hs (.eq (.elem (Term.static "CellEngine$Machine" "PRIMITIVE_STRINGS" "[I") (.int 20)) (.int 0)) (by decide +kernel))
  have e21 := va_eqt (hs (.eq (.elem (Term.static "CellEngine$Machine" "PRIMITIVE_STRINGS" "[I") (.int 21)) (.int 0)) (by decide +kernel))
  have e22 := va_eqt (hs (.eq (.elem (Term.static "CellEngine$Machine" "PRIMITIVE_STRINGS" "[I") (.int 22)) (.int 0)) (by decide +kernel))
  have e23 := va_eqt (hs (.eq (.elem (Term.static "CellEngine$Machine" "PRIMITIVE_STRINGS" "[I") (.int 23)) (.int 0)) (by decide +kernel))
  have e24 := va_eqt (hs (.eq (.elem (Term.static "CellEngine$Machine" "PRIMITIVE_STRINGS" "[I") (.int 24)) (.int 0)) (by decide +kernel))
  have e25 := va_eqt (hs (.eq (.elem (Term.static "CellEngine$Machine" "PRIMITIVE_STRINGS" "[I") (.int 25)) (.int 0)) (by decide +kernel))
  have e26 := va_eqt (hs (.eq (.elem (Term.static "CellEngine$Machine" "PRIMITIVE_STRINGS" "[I") (.int 26)) (.int 0)) (by decide +kernel))
  have e27 := va_eqt (hs (.eq (.elem (Term.static "CellEngine$Machine" "PRIMITIVE_STRINGS" "[I") (.int 27)) (.int 2)) (by decide +kernel))
  have e28 := va_eqt (hs (.eq (.elem (Term.static "CellEngine$Machine" "PRIMITIVE_STRINGS" "[I") (.int 28)) (.int 1)) (by decide +kernel))
  have e29 := va_eqt (hs (.eq (.elem (Term.static "CellEngine$Machine" "PRIMITIVE_STRINGS" "[I") (.int 29)) (.int 0)) (by decide +kernel))
  have e30 := va_eqt (hs (.eq (.elem (Term.static "CellEngine$Machine" "PRIMITIVE_STRINGS" "[I") (.int 30)) (.int 1)) (by decide +kernel))
  have e31 := va_eqt (hs (.eq (.elem (Term.static "CellEngine$Machine" "PRIMITIVE_STRINGS" "[I") (.int 31)) (.int 1)) (by decide +kernel))
  have e32 := va_eqt (hs (.eq (.elem (Term.static "CellEngine$Machine" "PRIMITIVE_STRINGS" "[I") (.int 32)) (.int 2)) (by decide +kernel))
  have e33 := va_eqt (hs (.eq (.elem (Term.static "CellEngine$Machine" "PRIMITIVE_STRINGS" "[I") (.int 33)) (.int 2)) (by decide +kernel))
  have e34 := va_eqt (hs (.eq (.elem (Term.static "CellEngine$Machine" "PRIMITIVE_STRINGS" "[I") (.int 34)) (.int 2)) (by decide +kernel))
  have e35 := va_eqt (hs (.eq (.elem (Term.static "CellEngine$Machine" "PRIMITIVE_STRINGS" "[I") (.int 35)) (.int 2)) (by decide +kernel))
  have e36 := va_eqt (hs (.eq (.elem (Term.static "CellEngine$Machine" "PRIMITIVE_STRINGS" "[I") (.int 36)) (.int 2)) (by decide +kernel))
  have e37 := va_eqt (hs (.eq (.elem (Term.static "CellEngine$Machine" "PRIMITIVE_STRINGS" "[I") (.int 37)) (.int 1)) (by decide +kernel))
  have e38 := va_eqt (hs (.eq (.elem (Term.static "CellEngine$Machine" "PRIMITIVE_STRINGS" "[I") (.int 38)) (.int 0)) (by decide +kernel))
  have e39 := va_eqt (hs (.eq (.elem (Term.static "CellEngine$Machine" "PRIMITIVE_STRINGS" "[I") (.int 39)) (.int 0)) (by decide +kernel))
  have e40 := va_eqt (hs (.eq (.elem (Term.static "CellEngine$Machine" "PRIMITIVE_STRINGS" "[I") (.int 40)) (.int 0)) (by decide +kernel))
  have e41 := va_eqt (hs (.eq (.elem (Term.static "CellEngine$Machine" "PRIMITIVE_STRINGS" "[I") (.int 41)) (.int 1)) (by decide +kernel))
  obtain ⟨t, h1, h2⟩ := va_Tof (N := 42) (f := fun j => .int (tab4 j)) (A := A) (by decide) (hs (.arrayOf (Term.static "CellEngine$Machine" "PRIMITIVE_STRINGS" "[I") .int) (by decide +kernel)) (va_eqt (hs (.eq (.length (Term.static "CellEngine$Machine" "PRIMITIVE_STRINGS" "[I")) (.int 42)) (by decide +kernel))) (fun j hj => by
    rcases (show j = 0 ∨ j = 1 ∨ j = 2 ∨ j = 3 ∨ j = 4 ∨ j = 5 ∨ j = 6 ∨ j = 7 ∨ j = 8 ∨ j = 9 ∨ j = 10 ∨ j = 11 ∨ j = 12 ∨ j = 13 ∨ j = 14 ∨ j = 15 ∨ j = 16 ∨ j = 17 ∨ j = 18 ∨ j = 19 ∨ j = 20 ∨ j = 21 ∨ j = 22 ∨ j = 23 ∨ j = 24 ∨ j = 25 ∨ j = 26 ∨ j = 27 ∨ j = 28 ∨ j = 29 ∨ j = 30 ∨ j = 31 ∨ j = 32 ∨ j = 33 ∨ j = 34 ∨ j = 35 ∨ j = 36 ∨ j = 37 ∨ j = 38 ∨ j = 39 ∨ j = 40 ∨ j = 41 by omega) with rfl | rfl | rfl | rfl | rfl | rfl | rfl | rfl | rfl | rfl | rfl | rfl | rfl | rfl | rfl | rfl | rfl | rfl | rfl | rfl | rfl | rfl | rfl | rfl | rfl | rfl | rfl | rfl | rfl | rfl | rfl | rfl | rfl | rfl | rfl | rfl | rfl | rfl | rfl | rfl | rfl | rfl
    · exact e0
    · exact e1
    · exact e2
    · exact e3
    · exact e4
    · exact e5
    · exact e6
    · exact e7
    · exact e8
    · exact e9
    · exact e10
    · exact e11
    · exact e12
    · exact e13
    · exact e14
    · exact e15
    · exact e16
    · exact e17
    · exact e18
    · exact e19
    · exact e20
    · exact e21
    · exact e22
    · exact e23
    · exact e24
    · exact e25
    · exact e26
    · exact e27
    · exact e28
    · exact e29
    · exact e30
    · exact e31
    · exact e32
    · exact e33
    · exact e34
    · exact e35
    · exact e36
    · exact e37
    · exact e38
    · exact e39
    · exact e40
    · exact e41
    ) hA
  exact ⟨t, va_Zref (hts (.laysStatic "CellEngine$Machine" "PRIMITIVE_STRINGS" "[I") (List.mem_append_right _ (List.mem_of_getElem? (i := 797) (by decide +kernel)))) (hts (.initialized R_Machine) (List.mem_append_right _ (List.mem_of_getElem? (i := 6) (by decide +kernel)))) h1 hA, h2⟩
theorem law_T {b : Nat} {s : State} (hts : ∀ w ∈ lw_tbl, w.before #[Value.ref b] s = true) (hgv : (Jvm.Cond.and given_1 narrow_1).before #[Value.ref b] s = true) : ∃ t1 t2 t3 t4 : Nat, dz_Tb t1 t2 t3 t4 (fun q : Nat => s.heap.size ≤ q) s s.heap := by
  have hs := flat_of_before _ hgv
  have hA : ∀ a : Nat, a < s.heap.size → ¬ (fun q : Nat => s.heap.size ≤ q) a := fun a h => Nat.not_le.mpr h
  obtain ⟨t1, z1, y1⟩ := law_t1 hts hs hA
  obtain ⟨t2, z2, y2⟩ := law_t2 hts hs hA
  obtain ⟨t3, z3, y3⟩ := law_t3 hts hs hA
  obtain ⟨t4, z4, y4⟩ := law_t4 hts hs hA
  exact ⟨t1, t2, t3, t4, ⟨z1, y1⟩, ⟨z2, y2⟩, ⟨z3, y3⟩, ⟨z4, y4⟩⟩
