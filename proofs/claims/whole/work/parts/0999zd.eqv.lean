/-! What it is for two values to be equal; classes that grow together -/
section EV
variable {G : Nat → GO} {nk : Nat → Nat} {nm nid : Nat} {l : List Nat}
/-- heads that agree, of objects that are equal by their parts -/
def hd2 (G : Nat → GO) (o p : Nat) : Prop := gK G o = gK G p ∧ gC G o = gC G p ∧ (gK G o ≠ 6 → gN G o = gN G p) ∧ (gK G o = 2 ∨ gK G o = 3 ∨ gK G o = 6)
/-- equal as far as n steps down -/
def eqN (G : Nat → GO) : Nat → AV → AV → Prop
  | 0, _, _ => True
  | n + 1, v, w => v = w ∨ ∃ o p, v = vO o ∧ w = vO p ∧ hd2 G o p ∧ (gK G o = 6 → ∀ i, gB G o i = gB G p i) ∧ (gK G o ≠ 6 → ∀ i, 1 ≤ i → i ≤ gNp G o → eqN G n (gP G o i) (gP G p i))
def sEq (G : Nat → GO) (v w : AV) : Prop := ∀ n, eqN G n v w
theorem np_hd {o p : Nat} (h : hd2 G o p) : gNp G o = gNp G p ∧ gZ G o = gZ G p := by
  unfold gNp gZ
  rw [h.1, h.2.1]
  exact ⟨rfl, rfl⟩
theorem hd_sym {o p : Nat} (h : hd2 G o p) : hd2 G p o := ⟨h.1.symm, h.2.1.symm, fun h6 => (h.2.2.1 (by rw [h.1]; exact h6)).symm, by rw [← h.1]; exact h.2.2.2⟩
theorem hd_tr {o p q : Nat} (h : hd2 G o p) (h' : hd2 G p q) : hd2 G o q := ⟨h.1.trans h'.1, h.2.1.trans h'.2.1, fun h6 => (h.2.2.1 h6).trans (h'.2.2.1 (by rw [← h.1]; exact h6)), h.2.2.2⟩
theorem eq_refl : ∀ (n : Nat) (v : AV), eqN G n v v
  | 0, _ => trivial
  | _ + 1, _ => Or.inl rfl
theorem eq_sym : ∀ {n : Nat} {v w : AV}, eqN G n v w → eqN G n w v
  | 0, _, _, _ => trivial
  | n + 1, v, w, Or.inl h => Or.inl h.symm
  | n + 1, v, w, Or.inr ⟨o, p, h1, h2, h3, h4, h5⟩ => Or.inr ⟨p, o, h2, h1, hd_sym h3, fun h6 i => (h4 (by rw [h3.1]; exact h6) i).symm, fun h6 i hi hin => eq_sym (h5 (by rw [h3.1]; exact h6) i hi (by rw [(np_hd h3).1]; exact hin))⟩
theorem eq_tr : ∀ {n : Nat} {v w u : AV}, eqN G n v w → eqN G n w u → eqN G n v u
  | 0, _, _, _, _, _ => trivial
  | n + 1, v, w, u, Or.inl h, h' => by rw [h]; exact h'
  | n + 1, v, w, u, h, Or.inl h' => by rw [← h']; exact h
  | n + 1, v, w, u, Or.inr ⟨o, p, h1, h2, h3, h4, h5⟩, Or.inr ⟨p', q, k1, k2, k3, k4, k5⟩ => by
    have e : p = p' := by rw [h2] at k1; exact Sum.inr.inj (Sum.inr.inj k1)
    subst e
    exact Or.inr ⟨o, q, h1, k2, hd_tr h3 k3, fun h6 i => (h4 h6 i).trans (k4 (by rw [← h3.1]; exact h6) i), fun h6 i hi hin => eq_tr (h5 h6 i hi hin) (k5 (by rw [← h3.1]; exact h6) i hi (by rw [← (np_hd h3).1]; exact hin))⟩
theorem sEq_hd {o p : Nat} (h : sEq G (vO o) (vO p)) (hne : o ≠ p) : hd2 G o p ∧ (gK G o = 6 → ∀ i, gB G o i = gB G p i) := by
  rcases h 1 with h | ⟨o', p', h1, h2, h3, h4, _⟩
  · exact absurd (Sum.inr.inj (Sum.inr.inj h)) hne
  · have e1 : o = o' := Sum.inr.inj (Sum.inr.inj h1)
    have e2 : p = p' := Sum.inr.inj (Sum.inr.inj h2)
    subst e1 e2
    exact ⟨h3, h4⟩
theorem sEq_P {o p i : Nat} (h : sEq G (vO o) (vO p)) (h6 : gK G o ≠ 6) (hi : 1 ≤ i) (hin : i ≤ gNp G o) : sEq G (gP G o i) (gP G p i) := by
  intro n
  rcases h (n + 1) with h | ⟨o', p', h1, h2, h3, _, h5⟩
  · have e : o = p := Sum.inr.inj (Sum.inr.inj h)
    rw [e]
    exact eq_refl n _
  · have e1 : o = o' := Sum.inr.inj (Sum.inr.inj h1)
    have e2 : p = p' := Sum.inr.inj (Sum.inr.inj h2)
    subst e1 e2
    exact h5 h6 i hi hin
/-- values that are not both objects -/
theorem sEq_ob {v w : AV} (h : sEq G v w) (hne : v ≠ w) : ∃ o p, v = vO o ∧ w = vO p ∧ o ≠ p := by
  rcases h 1 with h | ⟨o, p, h1, h2, _⟩
  · exact absurd h hne
  · exact ⟨o, p, h1, h2, fun e => hne (by rw [h1, h2, e])⟩
/-- links, leaders, how far a leader is -/
def ufI (lk : Nat → Option Nat) (ld d : Nat → Nat) (k : Nat) : Prop := (∀ a, lk a = none → ld a = a ∧ d a = 0) ∧ (∀ a b, lk a = some b → ld a = ld b ∧ d b < d a) ∧ (∀ a, d a ≤ k)
def upL (lk : Nat → Option Nat) (a : Nat) (b : Option Nat) : Nat → Option Nat := fun x => if x = a then b else lk x
theorem upL_e {lk : Nat → Option Nat} {a x : Nat} {b : Option Nat} (h : x = a) : upL lk a b x = b := if_pos h
theorem upL_n {lk : Nat → Option Nat} {a x : Nat} {b : Option Nat} (h : x ≠ a) : upL lk a b x = lk x := if_neg h
variable {lk : Nat → Option Nat} {ld d : Nat → Nat} {k : Nat}
theorem uf_ld (h : ufI lk ld d k) : ∀ (n a : Nat), d a ≤ n → lk (ld a) = none ∧ ld (ld a) = ld a
  | n, a, hn => by
    cases e : lk a with
    | none =>
      have := (h.1 a e).1
      rw [this]
      exact ⟨e, this⟩
    | some b =>
      obtain ⟨h1, h2⟩ := h.2.1 a b e
      match n, hn with
      | 0, hn => omega
      | n + 1, hn =>
        rw [h1]
        exact uf_ld h n b (by omega)
theorem uf_ld' (h : ufI lk ld d k) (a : Nat) : lk (ld a) = none ∧ ld (ld a) = ld a := uf_ld h _ a (Nat.le_refl _)
theorem uf_half {a b c : Nat} (h : ufI lk ld d k) (h1 : lk a = some b) (h2 : lk b = some c) : ufI (upL lk a (some c)) ld d k := by
  refine ⟨fun x hx => ?_, fun x y hx => ?_, h.2.2⟩
  · by_cases e : x = a
    · rw [upL_e e] at hx; cases hx
    · rw [upL_n e] at hx; exact h.1 x hx
  · by_cases e : x = a
    · rw [upL_e e] at hx
      have hy : c = y := Option.some.inj hx
      subst hy
      obtain ⟨p1, p2⟩ := h.2.1 a b h1
      obtain ⟨q1, q2⟩ := h.2.1 b c h2
      rw [e]
      exact ⟨p1.trans q1, by omega⟩
    · rw [upL_n e] at hx; exact h.2.1 x y hx
def ldU (ld : Nat → Nat) (A B : Nat) : Nat → Nat := fun a => if ld a = A then B else ld a
theorem uf_union {A B : Nat} (h : ufI lk ld d k) (hA : lk A = none) (hB : lk B = none) (hne : A ≠ B) : ufI (upL lk A (some B)) (ldU ld A B) (fun a => if ld a = A then d a + 1 else d a) (k + 1) := by
  have lA := h.1 A hA
  have lB := h.1 B hB
  refine ⟨fun x hx => ?_, fun x y hx => ?_, fun a => ?_⟩
  · by_cases e : x = A
    · rw [upL_e e] at hx; cases hx
    · rw [upL_n e] at hx
      have := h.1 x hx
      unfold ldU
      dsimp only
      rw [this.1, if_neg e, if_neg e]
      exact ⟨rfl, this.2⟩
  · by_cases e : x = A
    · rw [upL_e e] at hx
      have hy : B = y := Option.some.inj hx
      subst hy
      unfold ldU
      dsimp only
      rw [e, lA.1, lB.1, if_pos rfl, if_neg (Ne.symm hne), if_pos rfl, if_neg (Ne.symm hne), lB.2]
      exact ⟨rfl, by omega⟩
    · rw [upL_n e] at hx
      obtain ⟨p1, p2⟩ := h.2.1 x y hx
      unfold ldU
      dsimp only
      rw [p1]
      by_cases e2 : ld y = A
      · rw [if_pos e2, if_pos e2, if_pos e2]
        exact ⟨rfl, by omega⟩
      · rw [if_neg e2, if_neg e2, if_neg e2]
        exact ⟨rfl, p2⟩
  · have := h.2.2 a
    dsimp only
    split <;> omega
theorem ldU_m {A B x y : Nat} (h : ld x = ld y) : ldU ld A B x = ldU ld A B y := by unfold ldU; rw [h]
/-- pairs that were put together -/
def clo (ps : List (Nat × Nat)) (ld : Nat → Nat) : Prop := ∀ E : Nat → Nat → Prop, (∀ x, E x x) → (∀ x y, E x y → E y x) → (∀ x y z, E x y → E y z → E x z) → (∀ q, q ∈ ps → E q.1 q.2) → ∀ x y, ld x = ld y → E x y
theorem clo_u {ps : List (Nat × Nat)} {o p : Nat} (hc : clo ps ld) (hu : ufI lk ld d k) : clo (ps ++ [(o, p)]) (ldU ld (ld o) (ld p)) := by
  intro E h1 h2 h3 h4 x y hxy
  have hE := hc E h1 h2 h3 (fun q hq => h4 q (List.mem_append_left _ hq))
  have hop : E o p := h4 (o, p) (List.mem_append_right _ (List.mem_singleton.mpr rfl))
  unfold ldU at hxy
  have key : ∀ z, ld z = ld o → E z p := fun z hz => h3 _ _ _ (hE z o hz) hop
  by_cases e1 : ld x = ld o
  · rw [if_pos e1] at hxy
    by_cases e2 : ld y = ld o
    · exact hE x y (e1.trans e2.symm)
    · rw [if_neg e2] at hxy
      exact h3 _ _ _ (key x e1) (hE p y hxy)
  · rw [if_neg e1] at hxy
    by_cases e2 : ld y = ld o
    · rw [if_pos e2] at hxy
      exact h2 _ _ (h3 _ _ _ (key y e2) (hE p x hxy.symm))
    · rw [if_neg e2] at hxy
      exact hE x y hxy
/-- one class, or the same value -/
def rel (ld : Nat → Nat) (v w : AV) : Prop := v = w ∨ ∃ x y, v = vO x ∧ w = vO y ∧ ld x = ld y
theorem rel_m {ld' : Nat → Nat} {v w : AV} (h : ∀ x y, ld x = ld y → ld' x = ld' y) (hr : rel ld v w) : rel ld' v w := by
  rcases hr with hr | ⟨x, y, h1, h2, h3⟩
  · exact Or.inl hr
  · exact Or.inr ⟨x, y, h1, h2, h _ _ h3⟩
/-- nothing is left to be done for a pair -/
def dun (G : Nat → GO) (ld : Nat → Nat) (o p : Nat) : Prop := (gK G o = 6 → ∀ i, gB G o i = gB G p i) ∧ (gK G o ≠ 6 → ∀ i, 1 ≤ i → i ≤ gNp G o → rel ld (gP G o i) (gP G p i))
theorem dun_m {ld' : Nat → Nat} {o p : Nat} (h : ∀ x y, ld x = ld y → ld' x = ld' y) (hd : dun G ld o p) : dun G ld' o p := ⟨hd.1, fun h6 i hi hin => rel_m h (hd.2 h6 i hi hin)⟩
theorem all_eq {ps : List (Nat × Nat)} (hc : clo ps ld) (hh : ∀ q, q ∈ ps → hd2 G q.1 q.2) (hd : ∀ q, q ∈ ps → dun G ld q.1 q.2) : ∀ (n : Nat) (v w : AV), rel ld v w → eqN G n v w := by
  intro n
  induction n with
  | zero => intro v w _; exact trivial
  | succ n ih =>
    intro v w hr
    rcases hr with rfl | ⟨x, y, rfl, rfl, h⟩
    · exact eq_refl _ _
    · exact hc (fun x y => eqN G (n + 1) (vO x) (vO y)) (fun x => eq_refl _ _) (fun x y => eq_sym) (fun x y z => eq_tr) (fun q hq => Or.inr ⟨q.1, q.2, rfl, rfl, hh q hq, (hd q hq).1, fun h6 i hi hin => ih _ _ ((hd q hq).2 h6 i hi hin)⟩) x y h
/-- what the classes keep while they grow: l the objects, nl those that lead no more -/
def eqI (G : Nat → GO) (l : List Nat) (v w : AV) (ps : List (Nat × Nat)) (nl : List Nat) (lk : Nat → Option Nat) (ld d : Nat → Nat) : Prop :=
  ufI lk ld d ps.length ∧ (∀ o p, lk o = some p → o ∈ l ∧ p ∈ l) ∧ clo ps ld ∧ (∀ q, q ∈ ps → q.1 ∈ l ∧ q.2 ∈ l ∧ hd2 G q.1 q.2 ∧ ld q.1 = ld q.2) ∧ (sEq G v w → ∀ q, q ∈ ps → sEq G (vO q.1) (vO q.2)) ∧ nl.Nodup ∧ (∀ o, o ∈ nl → o ∈ l ∧ lk o ≠ none) ∧ nl.length = ps.length
theorem eqI_0 {v w : AV} : eqI G l v w [] [] (fun _ => none) (fun a => a) (fun _ => 0) := by
  refine ⟨⟨fun _ _ => ⟨rfl, rfl⟩, fun _ _ h => ?_, fun _ => Nat.zero_le _⟩, fun _ _ h => ?_, fun E h1 _ _ _ x y h => ?_, fun q h => ?_, fun _ q h => ?_, List.nodup_nil, fun o h => ?_, rfl⟩
  · cases h
  · cases h
  · have h : x = y := h
    subst h
    exact h1 x
  · cases h
  · cases h
  · cases h
theorem ld_l {v w : AV} {ps : List (Nat × Nat)} {nl : List Nat} (h : eqI G l v w ps nl lk ld d) : ∀ (n a : Nat), d a ≤ n → a ∈ l → ld a ∈ l
  | n, a, hn, ha => by
    cases e : lk a with
    | none => rw [(h.1.1 a e).1]; exact ha
    | some b =>
      obtain ⟨h1, h2⟩ := h.1.2.1 a b e
      match n, hn with
      | 0, hn => omega
      | n + 1, hn =>
        rw [h1]
        exact ld_l h n b (by omega) (h.2.1 a b e).2
theorem eqI_half {v w : AV} {ps : List (Nat × Nat)} {nl : List Nat} {a b c : Nat} (h : eqI G l v w ps nl lk ld d) (h1 : lk a = some b) (h2 : lk b = some c) : eqI G l v w ps nl (upL lk a (some c)) ld d := by
  obtain ⟨a1, a2, a3, a4, a5, a6, a7, a8⟩ := h
  refine ⟨uf_half a1 h1 h2, fun x y hx => ?_, a3, a4, a5, a6, fun x hx => ⟨(a7 x hx).1, ?_⟩, a8⟩
  · by_cases e : x = a
    · rw [upL_e e] at hx
      have hy : c = y := Option.some.inj hx
      subst hy
      rw [e]
      exact ⟨(a2 a b h1).1, (a2 b c h2).2⟩
    · rw [upL_n e] at hx; exact a2 x y hx
  · by_cases e : x = a
    · rw [upL_e e]; exact fun h => by cases h
    · rw [upL_n e]; exact (a7 x hx).2
theorem eqI_u {v w : AV} {ps : List (Nat × Nat)} {nl : List Nat} {o p : Nat} (h : eqI G l v w ps nl lk ld d) (ho : o ∈ l) (hp : p ∈ l) (hne : ld o ≠ ld p) (hh : hd2 G o p) (hs : sEq G v w → sEq G (vO o) (vO p)) : eqI G l v w (ps ++ [(o, p)]) (nl ++ [ld o]) (upL lk (ld o) (some (ld p))) (ldU ld (ld o) (ld p)) (fun a => if ld a = ld o then d a + 1 else d a) := by
  have lo := ld_l h _ o (Nat.le_refl _) ho
  have lp := ld_l h _ p (Nat.le_refl _) hp
  obtain ⟨a1, a2, a3, a4, a5, a6, a7, a8⟩ := h
  have uo := uf_ld' a1 o
  have up := uf_ld' a1 p
  have hnl : ld o ∉ nl := fun hm => (a7 _ hm).2 uo.1
  refine ⟨by rw [List.length_append]; exact uf_union a1 uo.1 up.1 hne, fun x y hx => ?_, clo_u a3 a1, fun q hq => ?_, fun hq q hm => ?_, nodup_snoc a6 hnl, fun x hx => ?_, by rw [List.length_append, List.length_append, a8]; rfl⟩
  · by_cases e : x = ld o
    · rw [upL_e e] at hx
      have hy : ld p = y := Option.some.inj hx
      subst hy
      rw [e]
      exact ⟨lo, lp⟩
    · rw [upL_n e] at hx; exact a2 x y hx
  · rcases List.mem_append.mp hq with hq | hq
    · obtain ⟨b1, b2, b3, b4⟩ := a4 q hq
      exact ⟨b1, b2, b3, ldU_m b4⟩
    · have e := List.mem_singleton.mp hq
      subst e
      refine ⟨ho, hp, hh, ?_⟩
      unfold ldU
      dsimp only
      rw [if_pos rfl, if_neg (Ne.symm hne)]
  · rcases List.mem_append.mp hm with hm | hm
    · exact a5 hq q hm
    · have e := List.mem_singleton.mp hm
      subst e
      exact hs hq
  · rcases mem_snoc.mp hx with hx | rfl
    · refine ⟨(a7 x hx).1, ?_⟩
      rw [upL_n (show x ≠ ld o from fun e => hnl (by rw [← e]; exact hx))]
      exact (a7 x hx).2
    · exact ⟨lo, by rw [upL_e rfl]; exact fun h => by cases h⟩
/-- objects of one class are of one size -/
theorem eqI_Z {v w : AV} {ps : List (Nat × Nat)} {nl : List Nat} (h : eqI G l v w ps nl lk ld d) {x y : Nat} (hxy : ld x = ld y) : gZ G x = gZ G y :=
  h.2.2.1 (fun x y => gZ G x = gZ G y) (fun _ => rfl) (fun _ _ h => h.symm) (fun _ _ _ h h' => h.trans h') (fun q hq => (np_hd (h.2.2.2.1 q hq).2.2.1).2) x y hxy
/-- one class: equal, if v and w are -/
theorem eqI_c {v w : AV} {ps : List (Nat × Nat)} {nl : List Nat} (h : eqI G l v w ps nl lk ld d) (hs : sEq G v w) {x y : AV} (hxy : rel ld x y) : sEq G x y := by
  rcases hxy with rfl | ⟨a, b, rfl, rfl, hab⟩
  · exact fun n => eq_refl n _
  · exact h.2.2.1 (fun x y => sEq G (vO x) (vO y)) (fun _ n => eq_refl n _) (fun _ _ h n => eq_sym (h n)) (fun _ _ _ h h' n => eq_tr (h n) (h' n)) (fun q hq => h.2.2.2.2.1 hs q hq) a b hab
end EV
