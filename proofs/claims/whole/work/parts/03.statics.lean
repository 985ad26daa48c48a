def tab1 (j : Nat) : Int32 := ([0, 1, 1, 1, 1, 1, 1, 1, 0, 0, 1, 1, 1, 0, 0, 2, 1, 0, 0, 0, 1, 1, 2, 0, 0, 0, 1, 0, 0, 1, 0, 0, 0, 0, 1, 0, 1, 1, 1, 0] : List Int32).getD j 0
def tab2 (j : Nat) : Int32 := ([1, 0, 0, 0, 1, 0, 0, 1, 1, 1, 0, 1, 1, 1, 1, 0, 2, 2, 2, 1, 0, 1, 1, 1, 1, 2, 0, 0, 1, 0, 2, 1, 2, 2, 0, 0, 0, 0, 0, 2] : List Int32).getD j 0
def tab3 (j : Nat) : Int32 := ([2, 2, 2, 1, 1, 2, 2, 2, 2, 2, 2, 2, 2, 2, 2, 2, 2, 2, 2, 2, 2, 2, 2, 1, 2, 2, 1, 2, 1, 1, 3, 2, 2, 2, 2, 2, 2, 1, 1, 1, 1, 1] : List Int32).getD j 0
def tab4 (j : Nat) : Int32 := ([0, 0, 0, 0, 0, 0, 0, 0, 0, 0, 0, 0, 0, 0, 0, 0, 0, 0, 0, 0, 0, 0, 0, 0, 0, 0, 0, 2, 1, 0, 1, 1, 2, 2, 2, 2, 2, 1, 0, 0, 0, 1] : List Int32).getD j 0
/-- the static tables, out of reach of what may change -/
def dz_Tb (t1 t2 t3 t4 : Nat) (A : Nat → Prop) (U : State) (H : Heap) : Prop := (va_Z R_Machine "OPERANDS" "[I" (.ref t1) A U H ∧ va_T .int t1 40 (fun j => .int (tab1 j)) A U H) ∧ (va_Z R_Machine "TAKEN" "[I" (.ref t2) A U H ∧ va_T .int t2 40 (fun j => .int (tab2 j)) A U H) ∧ (va_Z R_Machine "PRIMITIVE_TAKES" "[I" (.ref t3) A U H ∧ va_T .int t3 42 (fun j => .int (tab3 j)) A U H) ∧ (va_Z R_Machine "PRIMITIVE_STRINGS" "[I" (.ref t4) A U H ∧ va_T .int t4 42 (fun j => .int (tab4 j)) A U H)
theorem dz_Tm {t1 t2 t3 t4 : Nat} {A : Nat → Prop} {u U : State} {H : Heap} (hvm : u.vm.Alike U.vm) (h : dz_Tb t1 t2 t3 t4 A u H) : dz_Tb t1 t2 t3 t4 A U H := ⟨⟨h.1.1.moved hvm, h.1.2.moved hvm⟩, ⟨h.2.1.1.moved hvm, h.2.1.2.moved hvm⟩, ⟨h.2.2.1.1.moved hvm, h.2.2.1.2.moved hvm⟩, ⟨h.2.2.2.1.moved hvm, h.2.2.2.2.moved hvm⟩⟩
theorem dz_zg {C n d : String} {v : Value} {A B : Nat → Prop} {s U : State} {H : Heap} {locs : List Loc} (h : va_Z C n d v A s s.heap) (hS : va_S A s.heap H locs) (hB : ∀ q, B q → A q) (hvm : s.vm.Alike U.vm) (hU : U.heap = H) : va_Z C n d v B U U.heap := by
  have h := h.moved hvm
  obtain ⟨cf, kf, fi, f, a, cell, h1, h2, h3, h4, h5, h6, h7, h8⟩ := h
  exact ⟨cf, kf, fi, f, a, cell, h1, h2, h3, h4, by rw [hU, hS.2.1 a (Array.getElem?_eq_some_iff.mp h5).1 h8]; exact h5, h6, h7, fun q => h8 (hB a q)⟩
theorem dz_tg {ty : FieldType} {t N : Nat} {f : Nat → Value} {A B : Nat → Prop} {s U : State} {H : Heap} {locs : List Loc} (h : va_T ty t N f A s s.heap) (hS : va_S A s.heap H locs) (hB : ∀ q, B q → A q) (hvm : s.vm.Alike U.vm) (hU : U.heap = H) : va_T ty t N f B U U.heap := by
  have h := h.moved hvm
  obtain ⟨cell, h1, h2, h3, h4, h5, h6, h7⟩ := h
  exact ⟨cell, by rw [hU, hS.2.1 t (Array.getElem?_eq_some_iff.mp h1).1 h7]; exact h1, h2, h3, h4, h5, h6, fun q => h7 (hB t q)⟩
theorem dz_Tg {t1 t2 t3 t4 : Nat} {A B : Nat → Prop} {s U : State} {H : Heap} {locs : List Loc} (h : dz_Tb t1 t2 t3 t4 A s s.heap) (hS : va_S A s.heap H locs) (hB : ∀ q, B q → A q) (hvm : s.vm.Alike U.vm) (hU : U.heap = H) : dz_Tb t1 t2 t3 t4 B U U.heap := ⟨⟨dz_zg h.1.1 hS hB hvm hU, dz_tg h.1.2 hS hB hvm hU⟩, ⟨dz_zg h.2.1.1 hS hB hvm hU, dz_tg h.2.1.2 hS hB hvm hU⟩, ⟨dz_zg h.2.2.1.1 hS hB hvm hU, dz_tg h.2.2.1.2 hS hB hvm hU⟩, ⟨dz_zg h.2.2.2.1 hS hB hvm hU, dz_tg h.2.2.2.2 hS hB hvm hU⟩⟩
theorem dz_bool {v : Int32} (h : ¬ ¬ (v = 0 ∨ v = 1)) : narrow .boolean (.int v) = .int v ∧ fits .boolean (.int v) = true := by
  rcases Decidable.not_not.mp h with rfl | rfl
  · exact ⟨rfl, rfl⟩
  · exact ⟨rfl, rfl⟩
theorem dz_blindT {A : Nat → Prop} {t1 t2 t3 t4 : Nat} {av : List Value} {sz : Nat} {D : va_G} {cl : List vw_C} {ws : va_W} {tys : List (ClassId × FieldType)} : FrameBlind (va_Pc av (fun U => dz_N U ∧ dz_Tb t1 t2 t3 t4 A U U.heap ∧ U.heap.size = sz ∧ va_P D cl ws U.heap ∧ va_K D cl tys U ∧ va_D (fun _ => True) ws)) := fun a U g mk q => by
  obtain ⟨q0, qN, qT, q1, qP, qK, qD⟩ := q
  exact ⟨q0, dz_Ns rfl qN, dz_Tm (u := U) (U := U.calling g mk a) (Vm.Alike.refl U.vm) qT, q1, qP, va_K.moved (u := U) (U := U.calling g mk a) (Vm.Alike.refl U.vm) qK, qD⟩
theorem dz_blindRT {A : Nat → Prop} {t1 t2 t3 t4 : Nat} {av : List Value} {D : va_G} {cl : List vw_C} {ws : va_W} {tys : List (ClassId × FieldType)} : FrameBlind (va_Pc av (fun U => dz_N U ∧ dz_Tb t1 t2 t3 t4 A U U.heap ∧ va_P D cl ws U.heap ∧ va_K D cl tys U)) := fun a U g mk q => by
  obtain ⟨q0, qN, qT, qP, qK⟩ := q
  exact ⟨q0, dz_Ns rfl qN, dz_Tm (u := U) (U := U.calling g mk a) (Vm.Alike.refl U.vm) qT, qP, va_K.moved (u := U) (U := U.calling g mk a) (Vm.Alike.refl U.vm) qK⟩

