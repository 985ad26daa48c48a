/-! What both sides stand for: values, objects by their numbers, and where an object stands in a row of objects -/
abbrev AV : Type := Int32 ⊕ ((Nat × Nat) ⊕ Nat)
abbrev vS (n : Int32) : AV := Sum.inl n
abbrev vN (k i : Nat) : AV := Sum.inr (Sum.inl (k, i))
abbrev vO (o : Nat) : AV := Sum.inr (Sum.inr o)
/-- kind, number, count, parts, bytes -/
abbrev GO : Type := Nat × Int32 × Nat × (Nat → AV) × (Nat → Nat)
def gK (G : Nat → GO) (o : Nat) : Nat := (G o).1
def gN (G : Nat → GO) (o : Nat) : Int32 := (G o).2.1
def gC (G : Nat → GO) (o : Nat) : Nat := (G o).2.2.1
def gP (G : Nat → GO) (o i : Nat) : AV := (G o).2.2.2.1 i
def gB (G : Nat → GO) (o i : Nat) : Nat := (G o).2.2.2.2 i
def gNp (G : Nat → GO) (o : Nat) : Nat := if gK G o = 6 then 0 else if gK G o = 7 then 1 else gC G o
def gZ (G : Nat → GO) (o : Nat) : Nat := if gK G o = 6 then 1 + (gC G o + 3) / 4 else if gK G o = 7 then 2 else 1 + gC G o
def tot (Z : Nat → Nat) : List Nat → Nat
  | [] => 0
  | o :: l => Z o + tot Z l
def adr (Z : Nat → Nat) : List Nat → Nat → Nat
  | [], _ => 0
  | x :: l, o => if x = o then 0 else Z x + adr Z l o
theorem gZ_pos (G : Nat → GO) (o : Nat) : 1 ≤ gZ G o := by
  unfold gZ
  split
  · omega
  · split <;> omega
theorem gZ_np {G : Nat → GO} {o : Nat} (h : gK G o ≠ 6) : gZ G o = 1 + gNp G o := by
  unfold gZ gNp
  rw [if_neg h, if_neg h]
  split <;> rfl
theorem tot_append (Z : Nat → Nat) (l m : List Nat) : tot Z (l ++ m) = tot Z l + tot Z m := by
  induction l with
  | nil => simp [tot]
  | cons x l ih => simp only [List.cons_append, tot, ih]; omega
theorem tot_one (Z : Nat → Nat) (o : Nat) : tot Z [o] = Z o := rfl
theorem tot_perm {Z : Nat → Nat} {l m : List Nat} (h : l.Perm m) : tot Z l = tot Z m := by
  induction h with
  | nil => rfl
  | cons x _ ih => simp only [tot, ih]
  | swap x y l => simp only [tot]; omega
  | trans _ _ a b => exact a.trans b
theorem tot_sub {Z : Nat → Nat} {l : List Nat} : ∀ {m : List Nat}, l.Nodup → (∀ o, o ∈ l → o ∈ m) → tot Z l ≤ tot Z m := by
  induction l with
  | nil => intro m _ _; exact Nat.zero_le _
  | cons x l ih =>
    intro m hn hs
    have hx : x ∈ m := hs x (List.mem_cons_self ..)
    have hp := List.perm_cons_erase hx
    have e := tot_perm (Z := Z) hp
    have hn' := List.nodup_cons.mp hn
    have h2 := ih (m := m.erase x) hn'.2 (fun o ho => by
      have hne : o ≠ x := fun h => hn'.1 (h ▸ ho)
      exact (List.mem_erase_of_ne hne).mpr (hs o (List.mem_cons_of_mem _ ho)))
    simp only [tot] at e ⊢
    omega
theorem tot_same {Z : Nat → Nat} {l m : List Nat} (hl : l.Nodup) (hm : m.Nodup) (h : ∀ o, o ∈ l ↔ o ∈ m) : tot Z l = tot Z m :=
  Nat.le_antisymm (tot_sub hl (fun o => (h o).mp)) (tot_sub hm (fun o => (h o).mpr))
theorem tot_congr {Z Z' : Nat → Nat} {l : List Nat} (h : ∀ o, o ∈ l → Z o = Z' o) : tot Z l = tot Z' l := by
  induction l with
  | nil => rfl
  | cons x l ih =>
    simp only [tot]
    rw [h x (List.mem_cons_self ..), ih (fun o ho => h o (List.mem_cons_of_mem _ ho))]
theorem tot_len {Z : Nat → Nat} {l : List Nat} {k : Nat} (h : ∀ o, o ∈ l → k ≤ Z o) : k * l.length ≤ tot Z l := by
  induction l with
  | nil => simp [tot]
  | cons x l ih =>
    have h1 := h x (List.mem_cons_self ..)
    have h2 := ih (fun o ho => h o (List.mem_cons_of_mem _ ho))
    simp only [tot, List.length_cons, Nat.mul_add, Nat.mul_one]
    omega
theorem adr_l {Z : Nat → Nat} {l m : List Nat} {o : Nat} (h : o ∈ l) : adr Z (l ++ m) o = adr Z l o := by
  induction l with
  | nil => cases h
  | cons x l ih =>
    simp only [List.cons_append, adr]
    by_cases e : x = o
    · rw [if_pos e, if_pos e]
    · rw [if_neg e, if_neg e]
      rcases List.mem_cons.mp h with h1 | h1
      · exact absurd h1.symm e
      · rw [ih h1]
theorem adr_r {Z : Nat → Nat} {l m : List Nat} {o : Nat} (h : o ∉ l) : adr Z (l ++ m) o = tot Z l + adr Z m o := by
  induction l with
  | nil => simp [tot]
  | cons x l ih =>
    simp only [List.cons_append, adr, tot]
    rw [if_neg (fun (e : x = o) => h (by rw [e]; exact List.mem_cons_self ..)), ih (fun h1 => h (List.mem_cons_of_mem _ h1))]
    omega
theorem adr_new {Z : Nat → Nat} {l : List Nat} {o : Nat} (h : o ∉ l) : adr Z (l ++ [o]) o = tot Z l := by
  rw [adr_r h]
  simp [adr]
theorem adr_end {Z : Nat → Nat} {l : List Nat} {o : Nat} (h : o ∈ l) : adr Z l o + Z o ≤ tot Z l := by
  induction l with
  | nil => cases h
  | cons x l ih =>
    simp only [adr, tot]
    by_cases e : x = o
    · rw [if_pos e, e]; omega
    · rw [if_neg e]
      rcases List.mem_cons.mp h with h1 | h1
      · exact absurd h1.symm e
      · have := ih h1; omega
theorem adr_dis {Z : Nat → Nat} {l : List Nat} {o p : Nat} (h : o ∈ l) (hp : p ∈ l) (hne : o ≠ p) : adr Z l o + Z o ≤ adr Z l p ∨ adr Z l p + Z p ≤ adr Z l o := by
  induction l with
  | nil => cases h
  | cons x l ih =>
    simp only [adr]
    by_cases e : x = o
    · rw [if_pos e, if_neg (fun e2 => hne (e.symm.trans e2)), e]; omega
    · by_cases e2 : x = p
      · rw [if_pos e2, if_neg e, e2]; omega
      · rw [if_neg e, if_neg e2]
        rcases List.mem_cons.mp h with h1 | h1
        · exact absurd h1.symm e
        · rcases List.mem_cons.mp hp with h2 | h2
          · exact absurd h2.symm e2
          · have := ih h1 h2; omega
theorem adr_inj {Z : Nat → Nat} {l : List Nat} {o p : Nat} (hZ : ∀ o, 1 ≤ Z o) (h : o ∈ l) (hp : p ∈ l) (e : adr Z l o = adr Z l p) : o = p := by
  by_cases hne : o = p
  · exact hne
  · have := hZ o; have := hZ p
    rcases adr_dis (Z := Z) h hp hne with h1 | h1 <;> omega
theorem adr_congr {Z Z' : Nat → Nat} {l : List Nat} (h : ∀ o, o ∈ l → Z o = Z' o) (o : Nat) : adr Z l o = adr Z' l o := by
  induction l with
  | nil => rfl
  | cons x l ih =>
    simp only [adr]
    rw [h x (List.mem_cons_self ..), ih (fun o ho => h o (List.mem_cons_of_mem _ ho))]
/-- the object at an address: a place inside one is not inside another -/
theorem adr_in {Z : Nat → Nat} {l : List Nat} {o p i j : Nat} (h : o ∈ l) (hp : p ∈ l) (hi : i < Z o) (hj : j < Z p) (e : adr Z l o + i = adr Z l p + j) : o = p ∧ i = j := by
  by_cases hne : o = p
  · subst hne; exact ⟨rfl, by omega⟩
  · rcases adr_dis (Z := Z) h hp hne with h1 | h1 <;> omega
/-- the engine's words for values and heads -/
def kV (G : Nat → GO) : AV → Nat
  | .inl _ => 0
  | .inr (.inl _) => 1
  | .inr (.inr o) => gK G o
def wE (G : Nat → GO) (l : List Nat) : AV → Int64
  | .inl n => scW n
  | .inr (.inl (k, i)) => nmW k i
  | .inr (.inr o) => obW (gK G o) (adr (gZ G) l o)
def nE (G : Nat → GO) (l : List Nat) : AV → Int32
  | .inl n => n
  | .inr (.inl (k, _)) => nI k
  | .inr (.inr o) => nI (adr (gZ G) l o)
def hE (G : Nat → GO) (o : Nat) : Int64 := if gK G o = 6 then lN (gC G o * 8 + 6) else hdW (gK G o) (gN G o) (gC G o)
/-- four bytes in one number, the first one highest; the first one lowest -/
def w4 (b : Nat → Nat) (j : Nat) : Nat := b (4 * j) * 16777216 + b (4 * j + 1) * 65536 + b (4 * j + 2) * 256 + b (4 * j + 3)
def w4R (b : Nat → Nat) (j : Nat) : Nat := b (4 * j) + b (4 * j + 1) * 256 + b (4 * j + 2) * 65536 + b (4 * j + 3) * 16777216
/-- the reference's tags and ints -/
def tR : AV → Int32
  | .inl _ => 0
  | .inr (.inl (k, _)) => nI (1 + 256 * k)
  | .inr (.inr _) => 2
def vR (G : Nat → GO) (l : List Nat) : AV → Int32
  | .inl n => n
  | .inr (.inl (_, i)) => nI i
  | .inr (.inr o) => nI (adr (gZ G) l o)
def thR (G : Nat → GO) (o : Nat) : Int32 := nI (gK G o + 256 * (if gK G o = 6 then 0 else if gK G o = 7 then (gN G o).toNatClampNeg else gC G o))
def chR (G : Nat → GO) (o : Nat) : Int32 := if gK G o = 6 ∨ gK G o = 7 then nI (gC G o) else gN G o
/-- what a value, an object may be -/
def okV (nk : Nat → Nat) (nm : Nat) (l : List Nat) : AV → Prop
  | .inl _ => True
  | .inr (.inl (k, i)) => k ≤ 65535 ∧ 1 ≤ i ∧ i ≤ nm ∧ nk i = k
  | .inr (.inr o) => o ∈ l
def okO (nk : Nat → Nat) (nm : Nat) (G : Nat → GO) (o : Nat) : Prop :=
  (gK G o = 2 ∧ gN G o = nI 0 ∧ 1 ≤ gC G o ∧ gC G o ≤ 255) ∨ (gK G o = 3 ∧ gC G o = 1) ∨ (gK G o = 4 ∧ gC G o ≤ 4095) ∨ (gK G o = 5 ∧ gN G o = nI 0 ∧ gC G o = 1) ∨
  (gK G o = 6 ∧ gC G o ≤ 65535 ∧ ∀ i, gB G o i < 256 ∧ (gC G o ≤ i → gB G o i = 0)) ∨ (gK G o = 7 ∧ ∃ k, gN G o = nI k ∧ k ≤ 65535 ∧ 1 ≤ gC G o ∧ gC G o ≤ nm ∧ nk (gC G o) = k)
def wf (nk : Nat → Nat) (nm nid : Nat) (G : Nat → GO) (l : List Nat) : Prop :=
  l.Nodup ∧ ∀ o, o ∈ l → o < nid ∧ okO nk nm G o ∧ (∀ i, 1 ≤ i → i ≤ gNp G o → okV nk nm l (gP G o i)) ∧ (gK G o ≤ 3 → ∀ i p, 1 ≤ i → i ≤ gNp G o → gP G o i = vO p → p < o)
/-- the objects of a row in the engine's cells, in the reference's -/
def heE (G : Nat → GO) (l : List Nat) (c : Nat → Int64) : Prop :=
  ∀ o, o ∈ l → c (adr (gZ G) l o) = hE G o ∧ (∀ i, 1 ≤ i → i ≤ gNp G o → c (adr (gZ G) l o + i) = wE G l (gP G o i)) ∧ (gK G o = 6 → ∀ j, j < (gC G o + 3) / 4 → c (adr (gZ G) l o + 1 + j) = lN (w4 (gB G o) j))
def heR (G : Nat → GO) (l : List Nat) (tg c : Nat → Int32) : Prop :=
  ∀ o, o ∈ l → tg (adr (gZ G) l o) = thR G o ∧ c (adr (gZ G) l o) = chR G o ∧ (∀ i, 1 ≤ i → i ≤ gNp G o → tg (adr (gZ G) l o + i) = tR (gP G o i) ∧ c (adr (gZ G) l o + i) = vR G l (gP G o i)) ∧ (gK G o = 6 → ∀ j, j < (gC G o + 3) / 4 → c (adr (gZ G) l o + 1 + j) = nI (w4R (gB G o) j))
