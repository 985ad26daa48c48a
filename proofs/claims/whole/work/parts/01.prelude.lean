/-! Rows for decompiled methods: m_TAG .. = some z is a run of the method, c_TAG its contract. -/
def dz_let {α β : Type} (e : α) (f : α → β) : β := f e
theorem dz_lt {α β : Type} {e : α} {f : α → Option β} {z : β} (h : dz_let e f = some z) : ∃ x, x = e ∧ f x = some z := ⟨e, rfl, h⟩
theorem dz_ob {α β : Type} {o : Option α} {f : α → Option β} {z : β} (h : o.bind f = some z) : ∃ r, o = some r ∧ f r = some z := by
  cases o with
  | none => cases h
  | some r => exact ⟨r, rfl, h⟩
theorem dz_oi {c : Prop} [Decidable c] {β : Type} {x : Option β} {z : β} (h : (if c then none else x) = some z) : ¬ c ∧ x = some z := by
  by_cases q : c
  · rw [if_pos q] at h; cases h
  · rw [if_neg q] at h; exact ⟨q, h⟩
def dz_tk {α : Type} (k n : Nat) (o : Option (α × Nat × Nat)) : Option (α × Nat × Nat) := o.map (fun z => (z.1, z.2.1 + k, z.2.2 + n))
theorem dz_tks {α : Type} {k n : Nat} {o : Option (α × Nat × Nat)} {z : α × Nat × Nat} (h : dz_tk k n o = some z) : ∃ z', o = some z' ∧ (z'.1, z'.2.1 + k, z'.2.2 + n) = z := by
  cases o with
  | none => cases h
  | some r => exact ⟨r, rfl, Option.some.inj h⟩
section DZ
variable {p : Program} {l : Launch} {e : Env} {R : Room} {s : State} {m : MethodId} {args : Array Value} {below : List Frame} {meth : Method} {c : Code} {H : Heap} {locs : List Loc} {cells slots : Nat} {Q : State → Prop} {pc : Nat} {ls : Array Slot} {rest : List Value}
theorem dz_topi {x y : Int32} (h : x = y) (k : W p l e R s m args below meth c H locs cells slots Q (F0 m pc ls (.int x :: rest))) : W p l e R s m args below meth c H locs cells slots Q (F0 m pc ls (.int y :: rest)) := h ▸ k
theorem dz_topl {x y : Int64} (h : x = y) (k : W p l e R s m args below meth c H locs cells slots Q (F0 m pc ls (.long x :: rest))) : W p l e R s m args below meth c H locs cells slots Q (F0 m pc ls (.long y :: rest)) := h ▸ k
end DZ
def lw_g : List Cond := lw_tbl.filter goodWord
theorem lw_gg (w : Cond) (h : w ∈ lw_g) : (w.onTables && w.keeps) = true ∨ ∃ ty, w = .arrayClass ty := good_of_word (List.mem_filter.mp h).2
theorem kg {w : Cond} (h : w ∈ lw_tbl) (g : goodWord w = true) : w ∈ lw_g := List.mem_filter.mpr ⟨h, g⟩
theorem gd_N {y : MethodName} {b : ByteArray} {n : Nat} {r : Option FieldType} (hc : Cond.code y b n r ∈ lw_g) : GoodIn lw_g (.code y b n r :: lw_g) := fun w h => by
  rcases List.mem_cons.mp h with rfl | h
  · exact ⟨hc, lw_gg _ hc⟩
  · exact ⟨h, lw_gg _ h⟩
theorem gd_V {own : String} {idx : Nat} {C : String} {y : MethodName} {b : ByteArray} {n : Nat} {r : Option FieldType} (h1 : Cond.methodLink own idx y ∈ lw_g) (h2 : Cond.instanceMethod y ∈ lw_g) (h3 : Cond.selects C y y ∈ lw_g) (h4 : Cond.initialized C ∈ lw_g) (hc : Cond.code y b n r ∈ lw_g) : GoodIn lw_g (wsV own idx C y (.code y b n r :: lw_g)) := by
  intro w hw
  unfold wsV at hw
  rcases List.mem_append.mp hw with h | h
  · simp only [List.mem_cons, List.not_mem_nil, or_false] at h
    rcases h with rfl | rfl | rfl | rfl
    · exact ⟨h1, lw_gg _ h1⟩
    · exact ⟨h2, lw_gg _ h2⟩
    · exact ⟨h3, lw_gg _ h3⟩
    · exact ⟨h4, lw_gg _ h4⟩
  · exact gd_N hc w h
theorem gd_S {own : String} {idx : Nat} {y : MethodName} {b : ByteArray} {n : Nat} {r : Option FieldType} (h1 : Cond.methodLink own idx y ∈ lw_g) (h2 : Cond.static y ∈ lw_g) (h4 : Cond.initialized y.cls ∈ lw_g) (hc : Cond.code y b n r ∈ lw_g) : GoodIn lw_g (va_wsS own idx y (.code y b n r :: lw_g)) := by
  intro w hw
  unfold va_wsS at hw
  rcases List.mem_append.mp hw with h | h
  · simp only [List.mem_cons, List.not_mem_nil, or_false] at h
    rcases h with rfl | rfl | rfl
    · exact ⟨h1, lw_gg _ h1⟩
    · exact ⟨h2, lw_gg _ h2⟩
    · exact ⟨h4, lw_gg _ h4⟩
  · exact gd_N hc w h
/-- z is what is left of (Z1, Zc, Zs) when c cells of n slots have been made -/
def dz_G {α : Type} (Z1 : α) (Zc Zs : Nat) (z : α × Nat × Nat) (c n : Nat) : Prop := z.1 = Z1 ∧ Zc = c + z.2.1 ∧ Zs = n + z.2.2
theorem dz_Gc {α : Type} {Z1 : α} {Zc Zs : Nat} {z : α × Nat × Nat} {c n : Nat} (h : dz_G Z1 Zc Zs z c n) : c ≤ Zc := by
  have := h.2.1
  omega
theorem dz_Gs {α : Type} {Z1 : α} {Zc Zs : Nat} {z : α × Nat × Nat} {c n : Nat} (h : dz_G Z1 Zc Zs z c n) : n ≤ Zs := by
  have := h.2.2
  omega
theorem dz_tkG {α : Type} {Z1 : α} {Zc Zs k i : Nat} {o : Option (α × Nat × Nat)} {z : α × Nat × Nat} {c n : Nat} (h : dz_tk k i o = some z) (hG : dz_G Z1 Zc Zs z c n) : ∃ z', o = some z' ∧ dz_G Z1 Zc Zs z' (c + k) (n + i) := by
  obtain ⟨z', h1, rfl⟩ := dz_tks h
  obtain ⟨g1, g2, g3⟩ := hG
  refine ⟨z', h1, g1, ?_, ?_⟩
  · rw [g2]; show c + (z'.2.1 + k) = c + k + z'.2.1; omega
  · rw [g3]; show n + (z'.2.2 + i) = n + i + z'.2.2; omega
