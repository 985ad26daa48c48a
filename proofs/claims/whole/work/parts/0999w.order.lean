/-! Primitives 32 to 36: the order of two strings -/
section OD
variable {N : Nat}
variable {nk : Nat → Nat} {nm : Nat} {nid : Nat} {G : Nat → GO} {lE : List Nat} {gg : Nat → AV} {t : Nat} {gs : Nat → AV} {fr : Nat} {gc : Nat → AV} {hn : Nat} {gb : Nat → Nat} {gf : Nat → Nat} {gr : Nat → Int32} {hF : Nat → Nat} {hH : Nat → Nat} {hP : Nat → Int32} {hD : Nat → Int32} {lR : List Nat} {P_size : Int32} {P_constants : Int32} {P_closed : Int32} {P_open : Int32} {O_size : Int32} {S_top : Int32} {S_frames : Int32} {S_handlers : Int32} {H_globalsUsed : Int32} {H_used : Int32} {H_spareUsed : Int32} {H_old : Int32} {H_oldLeadsToNew : Int32} {H_limit : Int32} {H_every : Int32} {H_fresh : Int32} {H_made : Int32} {H_madeLimit : Int32} {H_reachedFromGlobals : Int32} {H_reachedInAll : Int32} {H_keptGlobalsUsed : Int32} {H_kept : Int32} {B_names : Int32} {Q_size : Int32} {M_status : Int32} {M_place : Int32} {M_next : Int32} {M_fuel : Int32} {M_ticks : Int32} {M_depth : Int32} {M_depthLimit : Int32} {M_done : Int32} {n_P_words : Nat} {f_P_words : Nat → Int32} {n_P_bytes : Nat} {f_P_bytes : Nat → Int32} {n_P_ends : Nat} {f_P_ends : Nat → Int32} {n_O_bytes : Nat} {f_O_bytes : Nat → Int32} {n_S_values : Nat} {f_S_values : Nat → Int64} {n_S_bases : Nat} {f_S_bases : Nat → Int32} {n_S_floors : Nat} {f_S_floors : Nat → Int32} {n_S_returns : Nat} {f_S_returns : Nat → Int32} {n_S_closures : Nat} {f_S_closures : Nat → Int64} {n_S_handlerFrames : Nat} {f_S_handlerFrames : Nat → Int32} {n_S_handlerPlaces : Nat} {f_S_handlerPlaces : Nat → Int32} {n_S_handlerHeights : Nat} {f_S_handlerHeights : Nat → Int32} {n_S_handlerDepths : Nat} {f_S_handlerDepths : Nat → Int32} {n_H_globals : Nat} {f_H_globals : Nat → Int64} {n_H_cells : Nat} {f_H_cells : Nat → Int64} {n_H_spare : Nat} {f_H_spare : Nat → Int64} {n_Q_links : Nat} {f_Q_links : Nat → Int32} {n_Q_pairs : Nat} {f_Q_pairs : Nat → Int64} {I : Nat → Int32} {F : Nat → Nat → Int32}
/-- -1, 0 or 1 -/
def ordS (b1 : Nat → Nat) (n1 : Nat) (b0 : Nat → Nat) (n0 : Nat) (r : Int32) : Prop :=
  (∃ i, i < n1 ∧ i < n0 ∧ (∀ j, j < i → b1 j = b0 j) ∧ b1 i ≠ b0 i ∧ r = if b1 i < b0 i then -1 else 1) ∨ ((∀ j, j < n1 → j < n0 → b1 j = b0 j) ∧ r = if n1 < n0 then -1 else if n0 < n1 then 1 else 0)
theorem ordS_u {b1 b0 : Nat → Nat} {n1 n0 : Nat} {r s : Int32} (h : ordS b1 n1 b0 n0 r) (h' : ordS b1 n1 b0 n0 s) : r = s := by
  rcases h with ⟨i, a1, a2, a3, a4, a5⟩ | ⟨a1, a2⟩
  · rcases h' with ⟨k, c1, c2, c3, c4, c5⟩ | ⟨c1, c2⟩
    · rcases Nat.lt_trichotomy i k with h | h | h
      · exact absurd (c3 i h) a4
      · subst h
        rw [a5, c5]
      · exact absurd (a3 k h) c4
    · exact absurd (c1 i a1 a2) a4
  · rcases h' with ⟨k, c1, c2, c3, c4, c5⟩ | ⟨c1, c2⟩
    · exact absurd (a1 k c1 c2) c4
    · rw [a2, c2]
theorem w4_first {b1 b0 : Nat → Nat} {j : Nat} (h1 : ∀ i, b1 i < 256) (h0 : ∀ i, b0 i < 256) (h : w4 b1 j ≠ w4 b0 j) : ∃ r, r < 4 ∧ (∀ s, s < r → b1 (4 * j + s) = b0 (4 * j + s)) ∧ b1 (4 * j + r) ≠ b0 (4 * j + r) ∧ (w4 b1 j < w4 b0 j ↔ b1 (4 * j + r) < b0 (4 * j + r)) := by
  unfold w4 at h ⊢
  have x0 := h1 (4 * j)
  have x1 := h1 (4 * j + 1)
  have x2 := h1 (4 * j + 2)
  have x3 := h1 (4 * j + 3)
  have y0 := h0 (4 * j)
  have y1 := h0 (4 * j + 1)
  have y2 := h0 (4 * j + 2)
  have y3 := h0 (4 * j + 3)
  by_cases e0 : b1 (4 * j) = b0 (4 * j)
  · by_cases e1 : b1 (4 * j + 1) = b0 (4 * j + 1)
    · by_cases e2 : b1 (4 * j + 2) = b0 (4 * j + 2)
      · refine ⟨3, by omega, fun s hs => ?_, by omega, by omega⟩
        match s, hs with
        | 0, _ => exact e0
        | 1, _ => exact e1
        | 2, _ => exact e2
        | s + 3, h => exact absurd h (by omega)
      · refine ⟨2, by omega, fun s hs => ?_, e2, by omega⟩
        match s, hs with
        | 0, _ => exact e0
        | 1, _ => exact e1
        | s + 2, h => exact absurd h (by omega)
    · refine ⟨1, by omega, fun s hs => ?_, e1, by omega⟩
      match s, hs with
      | 0, _ => exact e0
      | s + 1, h => exact absurd h (by omega)
  · exact ⟨0, by omega, fun s hs => absurd hs (by omega), e0, by show _ ↔ b1 (4 * j) < b0 (4 * j); omega⟩
theorem w4_same {b1 b0 : Nat → Nat} {w : Nat} (h1 : ∀ i, b1 i < 256) (h0 : ∀ i, b0 i < 256) (h : ∀ j, j < w → w4 b1 j = w4 b0 j) (i : Nat) (hi : i < 4 * w) : b1 i = b0 i := by
  have hj := h (i / 4) (by omega)
  unfold w4 at hj
  have x0 := h1 (4 * (i / 4))
  have x1 := h1 (4 * (i / 4) + 1)
  have x2 := h1 (4 * (i / 4) + 2)
  have x3 := h1 (4 * (i / 4) + 3)
  have y0 := h0 (4 * (i / 4))
  have y1 := h0 (4 * (i / 4) + 1)
  have y2 := h0 (4 * (i / 4) + 2)
  have y3 := h0 (4 * (i / 4) + 3)
  have hm : i % 4 = 0 ∨ i % 4 = 1 ∨ i % 4 = 2 ∨ i % 4 = 3 := by omega
  rcases hm with h | h | h | h
  · rw [show i = 4 * (i / 4) by omega]; omega
  · rw [show i = 4 * (i / 4) + 1 by omega]; omega
  · rw [show i = 4 * (i / 4) + 2 by omega]; omega
  · rw [show i = 4 * (i / 4) + 3 by omega]; omega
theorem lc_0 {x y : Nat} (hx : x < 4294967296) (hy : y < 4294967296) : (lg_cmp (lN x) (lN y) = 0) ↔ x = y :=
  (lg_cmp_eq _ _).trans ⟨fun h => lN_inj (by omega) (by omega) h, fun h => by rw [h]⟩
theorem lc_ge {x y : Nat} (hx : x < 4294967296) (hy : y < 4294967296) : (0 ≤ lg_cmp (lN x) (lN y)) ↔ y ≤ x := by
  refine (lg_cmp_ge _ _).trans ?_
  rw [Int64.le_iff_toInt_le, pf_lI (by omega), pf_lI (by omega)]
  omega
theorem order1 {a1 a0 w nC : Nat} {c : Nat → Int64} {b1 b0 : Nat → Nat} (h1 : ∀ i, b1 i < 256) (h0 : ∀ i, b0 i < 256) (hC : nC ≤ 131072) (hl1 : a1 + 1 + w ≤ nC) (hl0 : a0 + 1 + w ≤ nC) (hw1 : ∀ j, j < w → c (a1 + 1 + j) = lN (w4 b1 j)) (hw0 : ∀ j, j < w → c (a0 + 1 + j) = lN (w4 b0 j)) :
    ∀ (m i : Nat), i ≤ w → w - i < m → (∀ j, j < i → w4 b1 j = w4 b0 j) →
      ((∀ j, j < w → w4 b1 j = w4 b0 j) ∧ ∀ (ζ : Type) (k1 k2 : Int32 → Option ζ), lm_Strings_order_1 N nC c (nI a1) (nI a0) (nI (1 + w)) k1 k2 m (nI (1 + i)) = k1 (nI (1 + w))) ∨ (∃ x, x < w ∧ (∀ j, j < x → w4 b1 j = w4 b0 j) ∧ w4 b1 x ≠ w4 b0 x ∧ ∀ (ζ : Type) (k1 k2 : Int32 → Option ζ), lm_Strings_order_1 N nC c (nI a1) (nI a0) (nI (1 + w)) k1 k2 m (nI (1 + i)) = k2 (nI (1 + x)))
  | 0, i, _, h, _ => absurd h (Nat.not_lt_zero _)
  | m + 1, i, hi, h, hs => by
    by_cases q : i = w
    · subst q
      refine Or.inl ⟨hs, fun ζ k1 k2 => ?_⟩
      rw [lm_Strings_order_1, if_pos Int32.le_rfl]
    · have e1 : ¬ nI (1 + w) ≤ nI (1 + i) := by rw [q_le_f (by omega) (by omega)]; exact id
      have g1 : ¬ (nI (a1 + 1 + i) < 0 ∨ nC ≤ (nI (a1 + 1 + i)).toNatClampNeg) := bd_n (by omega) (by omega)
      have g0 : ¬ (nI (a0 + 1 + i) < 0 ∨ nC ≤ (nI (a0 + 1 + i)).toNatClampNeg) := bd_n (by omega) (by omega)
      have x1 : nI a1 + nI (1 + i) = nI (a1 + 1 + i) := by rw [q_add, Nat.add_assoc]
      have x0 : nI a0 + nI (1 + i) = nI (a0 + 1 + i) := by rw [q_add, Nat.add_assoc]
      have l1 := (w4_lt h1 i).1
      have l0 := (w4_lt h0 i).1
      have hstep : ∀ (ζ : Type) (k1 k2 : Int32 → Option ζ), lm_Strings_order_1 N nC c (nI a1) (nI a0) (nI (1 + w)) k1 k2 (m + 1) (nI (1 + i)) = if lg_cmp (lN (w4 b1 i)) (lN (w4 b0 i)) = 0 then lm_Strings_order_1 N nC c (nI a1) (nI a0) (nI (1 + w)) k1 k2 m (nI (1 + (i + 1))) else k2 (nI (1 + i)) := by
        intro ζ k1 k2
        rw [lm_Strings_order_1, if_neg e1, x1, x0, if_neg g1, if_neg g0, q_cl (by omega), q_cl (by omega), hw1 i (by omega), hw0 i (by omega), nI_1, Nat.add_assoc]
      by_cases he : w4 b1 i = w4 b0 i
      · have hs' : ∀ j, j < i + 1 → w4 b1 j = w4 b0 j := by
          intro j hj
          by_cases e : j = i
          · rw [e]; exact he
          · exact hs j (by omega)
        rcases order1 h1 h0 hC hl1 hl0 hw1 hw0 m (i + 1) (by omega) (by omega) hs' with ⟨d1, d2⟩ | ⟨x, d1, d2, d3, d4⟩
        · refine Or.inl ⟨d1, fun ζ k1 k2 => ?_⟩
          rw [hstep, if_pos ((lc_0 l1 l0).mpr he)]
          exact d2 ζ k1 k2
        · refine Or.inr ⟨x, d1, d2, d3, fun ζ k1 k2 => ?_⟩
          rw [hstep, if_pos ((lc_0 l1 l0).mpr he)]
          exact d4 ζ k1 k2
      · refine Or.inr ⟨i, by omega, hs, he, fun ζ k1 k2 => ?_⟩
        rw [hstep, if_neg (fun h => he ((lc_0 l1 l0).mp h))]
theorem order_ev {w1 w0 : Int64} {v w n1 n0 mn sh r : Int32} (h1 : m_Stacks_peek N S_top S_frames S_handlers n_S_values f_S_values 1 = some w1) (h2 : m_Value_number N w1 = some v) (h3 : m_Stacks_peek N S_top S_frames S_handlers n_S_values f_S_values 0 = some w0) (h4 : m_Value_number N w0 = some w) (h5 : m_Heap_told N H_globalsUsed H_used H_spareUsed H_old H_oldLeadsToNew H_limit H_every H_fresh H_made H_madeLimit H_reachedFromGlobals H_reachedInAll H_keptGlobalsUsed H_kept n_H_cells f_H_cells w1 = some n1) (h6 : m_Heap_told N H_globalsUsed H_used H_spareUsed H_old H_oldLeadsToNew H_limit H_every H_fresh H_made H_madeLimit H_reachedFromGlobals H_reachedInAll H_keptGlobalsUsed H_kept n_H_cells f_H_cells w0 = some n0) (h7 : m_Math_min N n1 n0 = some mn) (h8 : m_Value_cellsOfString N mn = some sh)
    (h9 : lm_Strings_order_1 N n_H_cells f_H_cells v w sh (fun (v1_6 : Int32) => (if n0 ≤ n1 then (if n1 ≤ n0 then some (0 : Int32) else some (1 : Int32)) else some (-1 : Int32))) (fun (v1_6 : Int32) => (if (v + v1_6) < 0 ∨ n_H_cells ≤ (v + v1_6).toNatClampNeg then none else (if (w + v1_6) < 0 ∨ n_H_cells ≤ (w + v1_6).toNatClampNeg then none else (if 0 ≤ (lg_cmp (f_H_cells (v + v1_6).toNatClampNeg) (f_H_cells (w + v1_6).toNatClampNeg)) then some (1 : Int32) else some (-1 : Int32))))) N (1 : Int32) = some r) : m_Strings_order N S_top S_frames S_handlers H_globalsUsed H_used H_spareUsed H_old H_oldLeadsToNew H_limit H_every H_fresh H_made H_madeLimit H_reachedFromGlobals H_reachedInAll H_keptGlobalsUsed H_kept n_S_values f_S_values n_H_cells f_H_cells = some r := by
  unfold m_Strings_order
  rw [h1, bind_s, h2, bind_s, h3, bind_s, h4, bind_s, bind_s, h5, bind_s, bind_s, h6, bind_s, h7, bind_s, h8, bind_s]
  exact h9
theorem order_E {o1 o0 : Nat} (hN : 400000 ≤ N) (he : eR nk nm nid G lE gg t gs fr gc hn gb gf gr hF hH hP hD S_top S_frames S_handlers n_S_values f_S_values n_S_bases f_S_bases n_S_floors f_S_floors n_S_returns f_S_returns n_S_closures f_S_closures n_S_handlerFrames f_S_handlerFrames n_S_handlerPlaces f_S_handlerPlaces n_S_handlerHeights f_S_handlerHeights n_S_handlerDepths f_S_handlerDepths H_globalsUsed H_used H_old H_oldLeadsToNew f_H_globals n_H_cells f_H_cells n_H_spare) (ht2 : 2 ≤ t) (hv1 : gs (t - 2) = vO o1) (hv0 : gs (t - 1) = vO o0) (hK1 : gK G o1 = 6) (hK0 : gK G o0 = 6) : ∃ r, (∀ (H_globalsUsed : Int32) (H_used : Int32) (H_spareUsed : Int32) (H_old : Int32) (H_oldLeadsToNew : Int32) (H_limit : Int32) (H_every : Int32) (H_fresh : Int32) (H_made : Int32) (H_madeLimit : Int32) (H_reachedFromGlobals : Int32) (H_reachedInAll : Int32) (H_keptGlobalsUsed : Int32) (H_kept : Int32), m_Strings_order N S_top S_frames S_handlers H_globalsUsed H_used H_spareUsed H_old H_oldLeadsToNew H_limit H_every H_fresh H_made H_madeLimit H_reachedFromGlobals H_reachedInAll H_keptGlobalsUsed H_kept n_S_values f_S_values n_H_cells f_H_cells = some r) ∧ ordS (gB G o1) (gC G o1) (gB G o0) (gC G o0) r := by
  obtain ⟨hG, hT, hC, hH', hnn⟩ := eR_hp he
  have mE1 : o1 ∈ lE := by have := (vE he (k := t - 2) (by omega)).2; rw [hv1] at this; exact this
  have mE0 : o0 ∈ lE := by have := (vE he (k := t - 1) (by omega)).2; rw [hv0] at this; exact this
  have O1 := str_ok (hG.2 o1 mE1).2.1 hK1
  have O0 := str_ok (hG.2 o0 mE0).2.1 hK0
  have pk1 := eR_peek (N := N) (k := 1) he (by omega)
  rw [show t - 1 - 1 = t - 2 by omega, hv1] at pk1
  have pk0 := eR_peek (N := N) (k := 0) he (by omega)
  rw [Nat.sub_zero, hv0] at pk0
  have td1 := told_O (N := N) he mE1
  have td0 := told_O (N := N) he mE0
  rw [if_pos hK1] at td1
  rw [if_pos hK0] at td0
  have nu1 : m_Value_number N (wE G lE (vO o1)) = some (nI (adr (gZ G) lE o1)) := nu_E (v := vO o1) hG mE1 hnn (by omega)
  have nu0 : m_Value_number N (wE G lE (vO o0)) = some (nI (adr (gZ G) lE o0)) := nu_E (v := vO o0) hG mE0 hnn (by omega)
  have hz1 : gZ G o1 = 1 + (gC G o1 + 3) / 4 := by unfold gZ; rw [if_pos hK1]
  have hz0 : gZ G o0 = 1 + (gC G o0 + 3) / 4 := by unfold gZ; rw [if_pos hK0]
  have end1 := adr_end (Z := gZ G) mE1
  have end0 := adr_end (Z := gZ G) mE0
  have hw1 := (hH' o1 mE1).2.2 hK1
  have hw0 := (hH' o0 mE0).2.2 hK0
  have hmin : m_Math_min N (nI (gC G o1)) (nI (gC G o0)) = some (nI (min (gC G o1) (gC G o0))) := by
    unfold m_Math_min
    by_cases h : gC G o0 < gC G o1
    · rw [if_pos (by rw [q_lt_t (by omega) (by omega)]; exact True.intro), Nat.min_eq_right (by omega)]
    · rw [if_neg (by rw [q_lt_f (by omega) (by omega)]; exact id), Nat.min_eq_left (by omega)]
  have hcl := cells_E (N := N) (n := min (gC G o1) (gC G o0)) (by omega)
  rcases order1 (N := N) (a1 := adr (gZ G) lE o1) (a0 := adr (gZ G) lE o0) (w := (min (gC G o1) (gC G o0) + 3) / 4) O1.2.1 O0.2.1 hC (by omega) (by omega) (fun j hj => hw1 j (by omega)) (fun j hj => hw0 j (by omega)) N 0 (by omega) (by omega) (fun j hj => absurd hj (by omega)) with ⟨d1, d2⟩ | ⟨x, d1, d2, d3, d4⟩
  · have hsame := w4_same O1.2.1 O0.2.1 d1
    refine ⟨if gC G o1 < gC G o0 then -1 else if gC G o0 < gC G o1 then 1 else 0, ?_, Or.inr ⟨fun j h1 h2 => hsame j (by omega), rfl⟩⟩
    intros
    refine order_ev pk1 nu1 pk0 nu0 (td1 ..) (td0 ..) hmin hcl ((d2 ..).trans ?_)
    by_cases c1 : gC G o1 < gC G o0
    · rw [if_pos c1, if_neg (by rw [q_le_f (by omega) (by omega)]; exact id)]
    · rw [if_neg c1, if_pos (by rw [q_le_t (by omega) (by omega)]; exact True.intro)]
      by_cases c2 : gC G o0 < gC G o1
      · rw [if_pos c2, if_neg (by rw [q_le_f (by omega) (by omega)]; exact id)]
      · rw [if_neg c2, if_pos (by rw [q_le_t (by omega) (by omega)]; exact True.intro)]
  · have hsame := w4_same O1.2.1 O0.2.1 d2
    obtain ⟨s, s1, s2, s3, s4⟩ := w4_first O1.2.1 O0.2.1 d3
    refine ⟨if w4 (gB G o1) x < w4 (gB G o0) x then -1 else 1, ?_, ?_⟩
    · intros
      refine order_ev pk1 nu1 pk0 nu0 (td1 ..) (td0 ..) hmin hcl ((d4 ..).trans ?_)
      have x1 : nI (adr (gZ G) lE o1) + nI (1 + x) = nI (adr (gZ G) lE o1 + 1 + x) := by rw [q_add, Nat.add_assoc]
      have x0 : nI (adr (gZ G) lE o0) + nI (1 + x) = nI (adr (gZ G) lE o0 + 1 + x) := by rw [q_add, Nat.add_assoc]
      have l1 := (w4_lt O1.2.1 x).1
      have l0 := (w4_lt O0.2.1 x).1
      rw [x1, x0, if_neg (bd_n (by omega) (by omega)), if_neg (bd_n (by omega) (by omega)), q_cl (by omega), q_cl (by omega), hw1 x (by omega), hw0 x (by omega)]
      by_cases c1 : w4 (gB G o1) x < w4 (gB G o0) x
      · rw [if_pos c1, if_neg (fun h => by have := (lc_ge l1 l0).mp h; omega)]
      · rw [if_neg c1, if_pos ((lc_ge l1 l0).mpr (by omega))]
    · have hpre : ∀ j, j < 4 * x + s → gB G o1 j = gB G o0 j := by
        intro j hj
        by_cases hj4 : j < 4 * x
        · exact hsame j hj4
        · have := s2 (j - 4 * x) (by omega)
          rw [show 4 * x + (j - 4 * x) = j by omega] at this
          exact this
      by_cases hin : 4 * x + s < gC G o1 ∧ 4 * x + s < gC G o0
      · refine Or.inl ⟨4 * x + s, hin.1, hin.2, hpre, s3, ?_⟩
        by_cases c1 : w4 (gB G o1) x < w4 (gB G o0) x
        · rw [if_pos c1, if_pos (s4.mp c1)]
        · rw [if_neg c1, if_neg (fun h => c1 (s4.mpr h))]
      · refine Or.inr ⟨fun j h1 h2 => hpre j (by omega), ?_⟩
        by_cases c1 : gC G o1 ≤ 4 * x + s
        · have e1 := O1.2.2 _ c1
          have e0 : ¬ gC G o0 ≤ 4 * x + s := fun h => s3 (by rw [e1, O0.2.2 _ h])
          rw [if_pos (s4.mpr (by omega)), if_pos (by omega)]
        · have e0 := O0.2.2 (4 * x + s) (by omega)
          rw [if_neg (fun h => by have := s4.mp h; omega), if_neg (by omega), if_pos (by omega)]
theorem dif_lt {a b : Nat} (h : a < b) (hb : b < 2147483648) : nI a - nI b < 0 := by
  rw [Int32.lt_iff_toInt_lt, Int32.toInt_sub, nI_toInt (by omega), nI_toInt (by omega), Int.bmod_eq_of_le (by omega) (by omega)]
  show (a : Int) - b < 0
  omega
theorem dif_gt {a b : Nat} (h : b < a) (ha : a < 2147483648) : 0 < nI a - nI b := by
  rw [Int32.lt_iff_toInt_lt, Int32.toInt_sub, nI_toInt (by omega), nI_toInt (by omega), Int.bmod_eq_of_le (by omega) (by omega)]
  show 0 < (a : Int) - b
  omega
/-- the sign -/
def sgnS (c r : Int32) : Prop := (c < 0 ∧ r = -1) ∨ (c = 0 ∧ r = 0) ∨ (0 < c ∧ r = 1)
theorem dif_s {a b : Nat} (ha : a < 2147483648) (hb : b < 2147483648) : sgnS (nI a - nI b) (if a < b then -1 else if b < a then 1 else 0) := by
  by_cases h1 : a < b
  · rw [if_pos h1]; exact Or.inl ⟨dif_lt h1 hb, rfl⟩
  · rw [if_neg h1]
    by_cases h2 : b < a
    · rw [if_pos h2]; exact Or.inr (Or.inr ⟨dif_gt h2 ha, rfl⟩)
    · rw [if_neg h2, show b = a by omega, Int32.sub_self]
      exact Or.inr (Or.inl ⟨rfl, rfl⟩)
theorem comp2 {a1 a0 n1 n0 : Nat} {b1 b0 : Nat → Nat} (h1 : ∀ i, i < n1 → m_Model_byteAt N I F (nI a1) (nI i) = some (nI (b1 i)) ∧ b1 i < 256) (h0 : ∀ i, i < n0 → m_Model_byteAt N I F (nI a0) (nI i) = some (nI (b0 i)) ∧ b0 i < 256) (hn1 : n1 ≤ 65535) (hn0 : n0 ≤ 65535) :
    ∀ (m i : Nat), i ≤ min n1 n0 → min n1 n0 - i < m → (∀ j, j < i → b1 j = b0 j) →
      ((∀ j, j < min n1 n0 → b1 j = b0 j) ∧ ∀ (ζ : Type) (k1 k2 : Int32 → Option ζ), lm_Model_compare_2 N I F (nI a1) (nI a0) (nI (min n1 n0)) k1 k2 m (nI i) = k1 (nI (min n1 n0))) ∨ (∃ x, x < min n1 n0 ∧ (∀ j, j < x → b1 j = b0 j) ∧ b1 x ≠ b0 x ∧ ∀ (ζ : Type) (k1 k2 : Int32 → Option ζ), lm_Model_compare_2 N I F (nI a1) (nI a0) (nI (min n1 n0)) k1 k2 m (nI i) = k2 (nI x))
  | 0, i, _, h, _ => absurd h (Nat.not_lt_zero _)
  | m + 1, i, hi, h, hs => by
    by_cases q : i = min n1 n0
    · rw [← q]
      rw [← q] at h
      refine Or.inl ⟨hs, fun ζ k1 k2 => ?_⟩
      rw [lm_Model_compare_2, if_pos Int32.le_rfl]
    · have e1 : ¬ nI (min n1 n0) ≤ nI i := by rw [q_le_f (by omega) (by omega)]; exact id
      obtain ⟨g1, l1⟩ := h1 i (by omega)
      obtain ⟨g0, l0⟩ := h0 i (by omega)
      have hstep : ∀ (ζ : Type) (k1 k2 : Int32 → Option ζ), lm_Model_compare_2 N I F (nI a1) (nI a0) (nI (min n1 n0)) k1 k2 (m + 1) (nI i) = if nI (b1 i) = nI (b0 i) then lm_Model_compare_2 N I F (nI a1) (nI a0) (nI (min n1 n0)) k1 k2 m (nI (i + 1)) else k2 (nI i) := by
        intro ζ k1 k2
        rw [lm_Model_compare_2, if_neg e1, g1, bind_s, g0, bind_s, nI_1]
      by_cases he : b1 i = b0 i
      · have hs' : ∀ j, j < i + 1 → b1 j = b0 j := by
          intro j hj
          by_cases e : j = i
          · rw [e]; exact he
          · exact hs j (by omega)
        rcases comp2 h1 h0 hn1 hn0 m (i + 1) (by omega) (by omega) hs' with ⟨d1, d2⟩ | ⟨x, d1, d2, d3, d4⟩
        · refine Or.inl ⟨d1, fun ζ k1 k2 => ?_⟩
          rw [hstep, if_pos (by rw [he])]
          exact d2 ζ k1 k2
        · refine Or.inr ⟨x, d1, d2, d3, fun ζ k1 k2 => ?_⟩
          rw [hstep, if_pos (by rw [he])]
          exact d4 ζ k1 k2
      · refine Or.inr ⟨i, by omega, hs, he, fun ζ k1 k2 => ?_⟩
        rw [hstep, if_neg (by rw [q_eq_f he (by omega) (by omega)]; exact id)]
theorem comp_R {o1 o0 : Nat} (hN : 400000 ≤ N) (hr : rR nk nm nid G lR gg t gs fr gc hn gb gf gr hF hH hP hD I F) (ho1 : o1 ∈ lR) (ho0 : o0 ∈ lR) (hK1 : gK G o1 = 6) (hK0 : gK G o0 = 6) : ∃ c r, m_Model_compare N I F (nI (adr (gZ G) lR o1)) (nI (adr (gZ G) lR o0)) = some c ∧ ordS (gB G o1) (gC G o1) (gB G o0) (gC G o0) r ∧ sgnS c r := by
  obtain ⟨x1, x2, x3, x4, x5, x6⟩ := hr.2.2
  have O1 := str_ok (x1.2 o1 ho1).2.1 hK1
  have O0 := str_ok (x1.2 o0 ho0).2.1 hK0
  obtain ⟨b1, f1⟩ := str_R hr ho1 hK1
  obtain ⟨b0, f0⟩ := str_R hr ho0 hK0
  have z1 := bd_n b1 (by omega)
  have z0 := bd_n b0 (by omega)
  have hz1 : gZ G o1 = 1 + (gC G o1 + 3) / 4 := by unfold gZ; rw [if_pos hK1]
  have hz0 : gZ G o0 = 1 + (gC G o0 + 3) / 4 := by unfold gZ; rw [if_pos hK0]
  have end1 := adr_end (Z := gZ G) ho1
  have end0 := adr_end (Z := gZ G) ho0
  have g1 : ∀ i, i < gC G o1 → m_Model_byteAt N I F (nI (adr (gZ G) lR o1)) (nI i) = some (nI (gB G o1 i)) ∧ gB G o1 i < 256 := fun i hi => ⟨byteAt_r O1.2.1 (by omega) (by omega) ((x5 o1 ho1).2.2.2 hK1 _ (by omega)), O1.2.1 i⟩
  have g0 : ∀ i, i < gC G o0 → m_Model_byteAt N I F (nI (adr (gZ G) lR o0)) (nI i) = some (nI (gB G o0 i)) ∧ gB G o0 i < 256 := fun i hi => ⟨byteAt_r O0.2.1 (by omega) (by omega) ((x5 o0 ho0).2.2.2 hK0 _ (by omega)), O0.2.1 i⟩
  have hm : ∀ (ζ : Type) (k : Int32 → Option ζ), lm_Model_compare_1 N F (nI (adr (gZ G) lR o1)) (nI (adr (gZ G) lR o0)) k = k (nI (min (gC G o1) (gC G o0))) := by
    intro ζ k
    unfold lm_Model_compare_1
    rw [if_neg z1, if_neg z0, q_cl (by omega), q_cl (by omega), f1, f0]
    by_cases h : gC G o0 ≤ gC G o1
    · rw [if_pos (by rw [q_le_t (by omega) (by omega)]; exact True.intro), if_neg (fun h => h.elim (nI_pos (by omega)) (by omega)), Nat.min_eq_right h]
    · rw [if_neg (by rw [q_le_f (by omega) (by omega)]; exact id), if_neg (fun h => h.elim (nI_pos (by omega)) (by omega)), Nat.min_eq_left (by omega)]
  rcases comp2 (N := N) g1 g0 O1.1 O0.1 N 0 (by omega) (by omega) (fun j hj => absurd hj (by omega)) with ⟨d1, d2⟩ | ⟨x, d1, d2, d3, d4⟩
  · refine ⟨_, _, ?_, Or.inr ⟨fun j h1 h2 => d1 j (by omega), rfl⟩, dif_s (a := gC G o1) (b := gC G o0) (by omega) (by omega)⟩
    unfold m_Model_compare
    rw [hm]
    refine (d2 ..).trans ?_
    rw [if_neg z1, if_neg z0, q_cl (by omega), q_cl (by omega), f1, f0]
  · have hd := dif_s (a := gB G o1 x) (b := gB G o0 x) (by have := O1.2.1 x; omega) (by have := O0.2.1 x; omega)
    refine ⟨_, _, ?_, Or.inl ⟨x, by omega, by omega, d2, d3, ?_⟩, hd⟩
    · unfold m_Model_compare
      rw [hm]
      refine (d4 ..).trans ?_
      rw [(g1 x (by omega)).1, bind_s, (g0 x (by omega)).1, bind_s]
    · by_cases h1 : gB G o1 x < gB G o0 x
      · rw [if_pos h1, if_pos h1]
      · rw [if_neg h1, if_neg h1, if_pos (by omega)]
/-- what primitive q makes of the order -/
def orQ (q : Nat) (r : Int32) : Int32 := if q = 32 then r else if q = 33 then (if r = -1 then 1 else 0) else if q = 34 then (if r = 1 then 1 else 0) else if q = 35 then (if r = 1 then 0 else 1) else (if r = -1 then 0 else 1)
theorem ord_R {q : Nat} {c r : Int32} (hq : 32 ≤ q) (hq2 : q ≤ 36) (h : sgnS c r) : m_Model_ordered N (nI q) c = some (orQ q r) := by
  have key : (0 ≤ c ↔ r ≠ -1) ∧ (c ≤ 0 ↔ r ≠ 1) ∧ (0 < c ↔ r = 1) ∧ (c < 0 ↔ r = -1) ∧ (r = -1 ∨ r = 0 ∨ r = 1) := by
    rcases h with ⟨h, rfl⟩ | ⟨rfl, rfl⟩ | ⟨h, rfl⟩
    · exact ⟨⟨fun h' => absurd h (Int32.not_lt.mpr h'), fun h' => absurd rfl h'⟩, ⟨fun _ => by decide, fun _ => Int32.le_of_lt h⟩, ⟨fun h' => absurd (Int32.le_of_lt h') (Int32.not_le.mpr h), fun h' => absurd h' (by decide)⟩, ⟨fun _ => rfl, fun _ => h⟩, Or.inl rfl⟩
    · exact ⟨by decide, by decide, by decide, by decide, Or.inr (Or.inl rfl)⟩
    · exact ⟨⟨fun _ => by decide, fun _ => Int32.le_of_lt h⟩, ⟨fun h' => absurd h (Int32.not_lt.mpr h'), fun h' => absurd rfl h'⟩, ⟨fun _ => rfl, fun _ => h⟩, ⟨fun h' => absurd (Int32.le_of_lt h') (Int32.not_le.mpr h), fun h' => absurd h' (by decide)⟩, Or.inr (Or.inr rfl)⟩
  obtain ⟨k1, k2, k3, k4, k5⟩ := key
  have hqs : q = 32 ∨ q = 33 ∨ q = 34 ∨ q = 35 ∨ q = 36 := by omega
  unfold m_Model_ordered lm_Model_ordered_1 orQ
  simp only [k1, k2, k3, k4]
  rcases hqs with rfl | rfl | rfl | rfl | rfl <;> rcases k5 with rfl | rfl | rfl <;> rfl
theorem ap_32 {r st2 top2 : Int32} {va2 : Nat → Int64} (hr6 : r = -1 ∨ r = 0 ∨ r = 1) (h1 : m_Strings_order N S_top S_frames S_handlers H_globalsUsed H_used H_spareUsed H_old H_oldLeadsToNew H_limit H_every H_fresh H_made H_madeLimit H_reachedFromGlobals H_reachedInAll H_keptGlobalsUsed H_kept n_S_values f_S_values n_H_cells f_H_cells = some r) (h3 : m_Stacks_replace N S_top S_frames S_handlers n_S_values f_S_values 2 (scW (orQ 32 r)) = some (st2, va2, top2)) : m_Strings_apply N O_size S_top S_frames S_handlers H_globalsUsed H_used H_spareUsed H_old H_oldLeadsToNew H_limit H_every H_fresh H_made H_madeLimit H_reachedFromGlobals H_reachedInAll H_keptGlobalsUsed H_kept n_O_bytes f_O_bytes n_S_values f_S_values n_S_closures f_S_closures n_H_globals f_H_globals n_H_cells f_H_cells n_H_spare f_H_spare (nI 32) = some ((st2, f_H_globals, f_S_closures, va2, H_fresh, H_made, H_old, H_oldLeadsToNew, H_reachedFromGlobals, H_reachedInAll, H_spareUsed, H_used, O_size, top2, n_H_cells, f_H_cells, n_H_spare, f_H_spare, n_O_bytes, f_O_bytes), 0, 0) := by
  unfold m_Strings_apply
  rw [if_neg (show ¬ nI 32 = 27 by decide), if_neg (show ¬ nI 32 = 28 by decide), if_neg (show ¬ nI 32 = 29 by decide), if_neg (show ¬ nI 32 = 30 by decide), if_neg (show ¬ nI 32 = 31 by decide), if_pos (show nI 32 = 32 from rfl), h1, bind_s]
  rw [sc_s, bind_s, show m_Stacks_replace N S_top S_frames S_handlers n_S_values f_S_values 2 (scW r) = _ from h3, bind_s]
theorem st_32 {a1 a0 c x : Int32} {F' : Nat → Nat → Int32} {I' : Nat → Int32} (h0 : m_Model_is N I F 1 6 = some (nI 1)) (h0' : m_Model_is N I F 2 6 = some (nI 1)) (h1 : m_Model_scalar N I F 2 = some a1) (h2 : m_Model_scalar N I F 1 = some a0) (h3 : m_Model_compare N I F a1 a0 = some c) (h4 : m_Model_ordered N (nI 32) c = some x) (h5 : m_Model_give N I F 2 0 x = some (nI 5, F', I')) : m_Model_strings N I F (nI 32) = some (nI 5, F', upd I' 35 (I' 35 + nI 2)) := by
  unfold m_Model_strings
  rw [if_neg (show ¬ nI 32 = 27 by decide), if_neg (show ¬ nI 32 = 28 by decide), if_neg (show ¬ nI 32 = 29 by decide), if_neg (show ¬ nI 32 = 30 by decide), if_neg (show ¬ nI 32 = 31 by decide), if_pos (show nI 32 = 32 from rfl), h0, bind_s, if_neg (show ¬ nI 1 = 0 by decide), h0', bind_s, if_neg (show ¬ nI 1 = 0 by decide), h1, bind_s, h2, bind_s, h3, bind_s, h4, bind_s, h5, bind_s]
  dsimp only
  rw [next_5, bind_s]
  rfl
set_option maxRecDepth 4000 in
set_option maxHeartbeats 4000000 in
theorem pq_32 {rs} {p L o1 o0 : Nat} (hN : 400000 ≤ N) (he : eR nk nm nid G lE gg t gs fr gc hn gb gf gr hF hH hP hD S_top S_frames S_handlers n_S_values f_S_values n_S_bases f_S_bases n_S_floors f_S_floors n_S_returns f_S_returns n_S_closures f_S_closures n_S_handlerFrames f_S_handlerFrames n_S_handlerPlaces f_S_handlerPlaces n_S_handlerHeights f_S_handlerHeights n_S_handlerDepths f_S_handlerDepths H_globalsUsed H_used H_old H_oldLeadsToNew f_H_globals n_H_cells f_H_cells n_H_spare) (hr : rR nk nm nid G lR gg t gs fr gc hn gb gf gr hF hH hP hD I F) (hx : xR nm M_fuel M_ticks H_made M_depth B_names O_size n_O_bytes f_O_bytes n_Q_links f_Q_links n_Q_pairs n_H_cells I F) (h35 : I 35 = nI p) (hkt : gf (fr - 1) + 2 ≤ t) (hv1 : gs (t - 2) = vO o1) (hv0 : gs (t - 1) = vO o0) (hK1 : gK G o1 = 6) (hK0 : gK G o0 = 6)
    (hfit : m_Machine_primitiveFits N S_top S_frames S_handlers M_status (nI p) (nI (p + 2)) M_fuel M_ticks M_depth (I 45) M_done n_S_values f_S_values n_S_floors f_S_floors (nI 32) = some (nI 1)) (hR : rs = m_Model_strings N I F (nI 32)) :
    opR nm n_H_cells I F (potE n_S_values n_S_bases n_S_handlerFrames n_H_cells n_H_spare n_Q_links n_Q_pairs n_O_bytes) (m_Machine_perform N P_size P_constants P_closed P_open O_size S_top S_frames S_handlers H_globalsUsed H_used H_spareUsed H_old H_oldLeadsToNew (nI L) H_every H_fresh H_made (I 44) H_reachedFromGlobals H_reachedInAll H_keptGlobalsUsed H_kept B_names Q_size M_status (nI p) (nI (p + 2)) M_fuel M_ticks M_depth (I 45) M_done n_P_words f_P_words n_P_bytes f_P_bytes n_P_ends f_P_ends n_O_bytes f_O_bytes n_S_values f_S_values n_S_bases f_S_bases n_S_floors f_S_floors n_S_returns f_S_returns n_S_closures f_S_closures n_S_handlerFrames f_S_handlerFrames n_S_handlerPlaces f_S_handlerPlaces n_S_handlerHeights f_S_handlerHeights n_S_handlerDepths f_S_handlerDepths 2049 f_H_globals n_H_cells f_H_cells n_H_spare f_H_spare n_Q_links f_Q_links n_Q_pairs f_Q_pairs (nI 34) (nI 32)) rs := by
  obtain ⟨q1, q2, q3, qt, qs, qh, qb, qf, q4, q5, q6, q7, q8, q9, qx, qy, qz⟩ := frE he
  obtain ⟨y1, y2, y3, y4, y5⟩ := frR hr q1
  subst qt qs qh
  have mR1 : o1 ∈ lR := by have := (vRr hr (k := t - 2) (by omega)).2.2; rw [hv1] at this; exact this
  have mR0 : o0 ∈ lR := by have := (vRr hr (k := t - 1) (by omega)).2.2; rw [hv0] at this; exact this
  have s2 := scalar_R (N := N) (d := 2) hr (by omega) (by omega) q3
  rw [hv1] at s2
  have s2 : m_Model_scalar N I F 2 = some (nI (adr (gZ G) lR o1)) := s2
  have s1 := scalar_R (N := N) (d := 1) hr (by omega) (by omega) q3
  rw [hv0] at s1
  have s1 : m_Model_scalar N I F 1 = some (nI (adr (gZ G) lR o0)) := s1
  have hi1 := is_O (N := N) (d := 1) (K := 6) hr (by omega) (by omega) q3 (by omega) hv0
  rw [if_pos hK0] at hi1
  have hi2 := is_O (N := N) (d := 2) (K := 6) hr (by omega) (by omega) q3 (by omega) hv1
  rw [if_pos hK1] at hi2
  obtain ⟨r, e1, e2⟩ := order_E (N := N) hN he (by omega) hv1 hv0 hK1 hK0
  obtain ⟨c, r', c1, c2, c3⟩ := comp_R (N := N) hN hr mR1 mR0 hK1 hK0
  have := ordS_u e2 c2
  subst this
  have hr6 : r = -1 ∨ r = 0 ∨ r = 1 := by
    rcases c3 with h | h | h
    · exact Or.inl h.2
    · exact Or.inr (Or.inl h.2)
    · exact Or.inr (Or.inr h.2)
  refine repl_op (N := N) (f_Q_pairs := f_Q_pairs) (f_H_spare := f_H_spare) (Q_size := Q_size) (H_fresh := H_fresh) (H_reachedFromGlobals := H_reachedFromGlobals) (H_reachedInAll := H_reachedInAll) (H_spareUsed := H_spareUsed) (v := vS (orQ 32 r)) (k := 2) (W := 2) (x := nI (p + 2)) he hr hx (by omega) hkt trivial trivial ?_ ?_ (by rw [h35, q_add])
  · intro h
    have h : m_Stacks_replace N (nI t) (nI fr) (nI hn) n_S_values f_S_values 2 (scW (orQ 32 r)) = _ := h
    exact pf34_S (by omega) (by decide) hfit (ap_32 hr6 (e1 ..) h)
  · intro F' I' h
    have h : m_Model_give N I F 2 0 (orQ 32 r) = _ := h
    rw [hR]
    exact st_32 hi1 hi2 s2 s1 c1 (ord_R (by omega) (by omega) c3) h
theorem ap_33 {r st2 top2 : Int32} {va2 : Nat → Int64} (hr6 : r = -1 ∨ r = 0 ∨ r = 1) (h1 : m_Strings_order N S_top S_frames S_handlers H_globalsUsed H_used H_spareUsed H_old H_oldLeadsToNew H_limit H_every H_fresh H_made H_madeLimit H_reachedFromGlobals H_reachedInAll H_keptGlobalsUsed H_kept n_S_values f_S_values n_H_cells f_H_cells = some r) (h3 : m_Stacks_replace N S_top S_frames S_handlers n_S_values f_S_values 2 (scW (orQ 33 r)) = some (st2, va2, top2)) : m_Strings_apply N O_size S_top S_frames S_handlers H_globalsUsed H_used H_spareUsed H_old H_oldLeadsToNew H_limit H_every H_fresh H_made H_madeLimit H_reachedFromGlobals H_reachedInAll H_keptGlobalsUsed H_kept n_O_bytes f_O_bytes n_S_values f_S_values n_S_closures f_S_closures n_H_globals f_H_globals n_H_cells f_H_cells n_H_spare f_H_spare (nI 33) = some ((st2, f_H_globals, f_S_closures, va2, H_fresh, H_made, H_old, H_oldLeadsToNew, H_reachedFromGlobals, H_reachedInAll, H_spareUsed, H_used, O_size, top2, n_H_cells, f_H_cells, n_H_spare, f_H_spare, n_O_bytes, f_O_bytes), 0, 0) := by
  unfold m_Strings_apply
  rw [if_neg (show ¬ nI 33 = 27 by decide), if_neg (show ¬ nI 33 = 28 by decide), if_neg (show ¬ nI 33 = 29 by decide), if_neg (show ¬ nI 33 = 30 by decide), if_neg (show ¬ nI 33 = 31 by decide), if_neg (show ¬ nI 33 = 32 by decide), if_pos (show nI 33 = 33 from rfl), h1, bind_s]
  rcases hr6 with rfl | rfl | rfl
  · rw [if_neg (by decide), show m_Value_truth N 1 = some (scW (nI 1)) from (by rw [scW_1]; rfl), bind_s, show m_Stacks_replace N S_top S_frames S_handlers n_S_values f_S_values 2 (scW (nI 1)) = _ from h3, bind_s]
  · rw [if_pos (by decide), show m_Value_truth N 0 = some (scW (nI 0)) from (by rw [scW_0]; rfl), bind_s, show m_Stacks_replace N S_top S_frames S_handlers n_S_values f_S_values 2 (scW (nI 0)) = _ from h3, bind_s]
  · rw [if_pos (by decide), show m_Value_truth N 0 = some (scW (nI 0)) from (by rw [scW_0]; rfl), bind_s, show m_Stacks_replace N S_top S_frames S_handlers n_S_values f_S_values 2 (scW (nI 0)) = _ from h3, bind_s]
theorem st_33 {a1 a0 c x : Int32} {F' : Nat → Nat → Int32} {I' : Nat → Int32} (h0 : m_Model_is N I F 1 6 = some (nI 1)) (h0' : m_Model_is N I F 2 6 = some (nI 1)) (h1 : m_Model_scalar N I F 2 = some a1) (h2 : m_Model_scalar N I F 1 = some a0) (h3 : m_Model_compare N I F a1 a0 = some c) (h4 : m_Model_ordered N (nI 33) c = some x) (h5 : m_Model_give N I F 2 0 x = some (nI 5, F', I')) : m_Model_strings N I F (nI 33) = some (nI 5, F', upd I' 35 (I' 35 + nI 2)) := by
  unfold m_Model_strings
  rw [if_neg (show ¬ nI 33 = 27 by decide), if_neg (show ¬ nI 33 = 28 by decide), if_neg (show ¬ nI 33 = 29 by decide), if_neg (show ¬ nI 33 = 30 by decide), if_neg (show ¬ nI 33 = 31 by decide), if_neg (show ¬ nI 33 = 32 by decide), if_pos (show nI 33 = 33 from rfl), h0, bind_s, if_neg (show ¬ nI 1 = 0 by decide), h0', bind_s, if_neg (show ¬ nI 1 = 0 by decide), h1, bind_s, h2, bind_s, h3, bind_s, h4, bind_s, h5, bind_s]
  dsimp only
  rw [next_5, bind_s]
  rfl
set_option maxRecDepth 4000 in
set_option maxHeartbeats 4000000 in
theorem pq_33 {rs} {p L o1 o0 : Nat} (hN : 400000 ≤ N) (he : eR nk nm nid G lE gg t gs fr gc hn gb gf gr hF hH hP hD S_top S_frames S_handlers n_S_values f_S_values n_S_bases f_S_bases n_S_floors f_S_floors n_S_returns f_S_returns n_S_closures f_S_closures n_S_handlerFrames f_S_handlerFrames n_S_handlerPlaces f_S_handlerPlaces n_S_handlerHeights f_S_handlerHeights n_S_handlerDepths f_S_handlerDepths H_globalsUsed H_used H_old H_oldLeadsToNew f_H_globals n_H_cells f_H_cells n_H_spare) (hr : rR nk nm nid G lR gg t gs fr gc hn gb gf gr hF hH hP hD I F) (hx : xR nm M_fuel M_ticks H_made M_depth B_names O_size n_O_bytes f_O_bytes n_Q_links f_Q_links n_Q_pairs n_H_cells I F) (h35 : I 35 = nI p) (hkt : gf (fr - 1) + 2 ≤ t) (hv1 : gs (t - 2) = vO o1) (hv0 : gs (t - 1) = vO o0) (hK1 : gK G o1 = 6) (hK0 : gK G o0 = 6)
    (hfit : m_Machine_primitiveFits N S_top S_frames S_handlers M_status (nI p) (nI (p + 2)) M_fuel M_ticks M_depth (I 45) M_done n_S_values f_S_values n_S_floors f_S_floors (nI 33) = some (nI 1)) (hR : rs = m_Model_strings N I F (nI 33)) :
    opR nm n_H_cells I F (potE n_S_values n_S_bases n_S_handlerFrames n_H_cells n_H_spare n_Q_links n_Q_pairs n_O_bytes) (m_Machine_perform N P_size P_constants P_closed P_open O_size S_top S_frames S_handlers H_globalsUsed H_used H_spareUsed H_old H_oldLeadsToNew (nI L) H_every H_fresh H_made (I 44) H_reachedFromGlobals H_reachedInAll H_keptGlobalsUsed H_kept B_names Q_size M_status (nI p) (nI (p + 2)) M_fuel M_ticks M_depth (I 45) M_done n_P_words f_P_words n_P_bytes f_P_bytes n_P_ends f_P_ends n_O_bytes f_O_bytes n_S_values f_S_values n_S_bases f_S_bases n_S_floors f_S_floors n_S_returns f_S_returns n_S_closures f_S_closures n_S_handlerFrames f_S_handlerFrames n_S_handlerPlaces f_S_handlerPlaces n_S_handlerHeights f_S_handlerHeights n_S_handlerDepths f_S_handlerDepths 2049 f_H_globals n_H_cells f_H_cells n_H_spare f_H_spare n_Q_links f_Q_links n_Q_pairs f_Q_pairs (nI 34) (nI 33)) rs := by
  obtain ⟨q1, q2, q3, qt, qs, qh, qb, qf, q4, q5, q6, q7, q8, q9, qx, qy, qz⟩ := frE he
  obtain ⟨y1, y2, y3, y4, y5⟩ := frR hr q1
  subst qt qs qh
  have mR1 : o1 ∈ lR := by have := (vRr hr (k := t - 2) (by omega)).2.2; rw [hv1] at this; exact this
  have mR0 : o0 ∈ lR := by have := (vRr hr (k := t - 1) (by omega)).2.2; rw [hv0] at this; exact this
  have s2 := scalar_R (N := N) (d := 2) hr (by omega) (by omega) q3
  rw [hv1] at s2
  have s2 : m_Model_scalar N I F 2 = some (nI (adr (gZ G) lR o1)) := s2
  have s1 := scalar_R (N := N) (d := 1) hr (by omega) (by omega) q3
  rw [hv0] at s1
  have s1 : m_Model_scalar N I F 1 = some (nI (adr (gZ G) lR o0)) := s1
  have hi1 := is_O (N := N) (d := 1) (K := 6) hr (by omega) (by omega) q3 (by omega) hv0
  rw [if_pos hK0] at hi1
  have hi2 := is_O (N := N) (d := 2) (K := 6) hr (by omega) (by omega) q3 (by omega) hv1
  rw [if_pos hK1] at hi2
  obtain ⟨r, e1, e2⟩ := order_E (N := N) hN he (by omega) hv1 hv0 hK1 hK0
  obtain ⟨c, r', c1, c2, c3⟩ := comp_R (N := N) hN hr mR1 mR0 hK1 hK0
  have := ordS_u e2 c2
  subst this
  have hr6 : r = -1 ∨ r = 0 ∨ r = 1 := by
    rcases c3 with h | h | h
    · exact Or.inl h.2
    · exact Or.inr (Or.inl h.2)
    · exact Or.inr (Or.inr h.2)
  refine repl_op (N := N) (f_Q_pairs := f_Q_pairs) (f_H_spare := f_H_spare) (Q_size := Q_size) (H_fresh := H_fresh) (H_reachedFromGlobals := H_reachedFromGlobals) (H_reachedInAll := H_reachedInAll) (H_spareUsed := H_spareUsed) (v := vS (orQ 33 r)) (k := 2) (W := 2) (x := nI (p + 2)) he hr hx (by omega) hkt trivial trivial ?_ ?_ (by rw [h35, q_add])
  · intro h
    have h : m_Stacks_replace N (nI t) (nI fr) (nI hn) n_S_values f_S_values 2 (scW (orQ 33 r)) = _ := h
    exact pf34_S (by omega) (by decide) hfit (ap_33 hr6 (e1 ..) h)
  · intro F' I' h
    have h : m_Model_give N I F 2 0 (orQ 33 r) = _ := h
    rw [hR]
    exact st_33 hi1 hi2 s2 s1 c1 (ord_R (by omega) (by omega) c3) h
theorem ap_34 {r st2 top2 : Int32} {va2 : Nat → Int64} (hr6 : r = -1 ∨ r = 0 ∨ r = 1) (h1 : m_Strings_order N S_top S_frames S_handlers H_globalsUsed H_used H_spareUsed H_old H_oldLeadsToNew H_limit H_every H_fresh H_made H_madeLimit H_reachedFromGlobals H_reachedInAll H_keptGlobalsUsed H_kept n_S_values f_S_values n_H_cells f_H_cells = some r) (h3 : m_Stacks_replace N S_top S_frames S_handlers n_S_values f_S_values 2 (scW (orQ 34 r)) = some (st2, va2, top2)) : m_Strings_apply N O_size S_top S_frames S_handlers H_globalsUsed H_used H_spareUsed H_old H_oldLeadsToNew H_limit H_every H_fresh H_made H_madeLimit H_reachedFromGlobals H_reachedInAll H_keptGlobalsUsed H_kept n_O_bytes f_O_bytes n_S_values f_S_values n_S_closures f_S_closures n_H_globals f_H_globals n_H_cells f_H_cells n_H_spare f_H_spare (nI 34) = some ((st2, f_H_globals, f_S_closures, va2, H_fresh, H_made, H_old, H_oldLeadsToNew, H_reachedFromGlobals, H_reachedInAll, H_spareUsed, H_used, O_size, top2, n_H_cells, f_H_cells, n_H_spare, f_H_spare, n_O_bytes, f_O_bytes), 0, 0) := by
  unfold m_Strings_apply
  rw [if_neg (show ¬ nI 34 = 27 by decide), if_neg (show ¬ nI 34 = 28 by decide), if_neg (show ¬ nI 34 = 29 by decide), if_neg (show ¬ nI 34 = 30 by decide), if_neg (show ¬ nI 34 = 31 by decide), if_neg (show ¬ nI 34 = 32 by decide), if_neg (show ¬ nI 34 = 33 by decide), if_pos (show nI 34 = 34 from rfl), h1, bind_s]
  rcases hr6 with rfl | rfl | rfl
  · rw [if_pos (by decide), show m_Value_truth N 0 = some (scW (nI 0)) from (by rw [scW_0]; rfl), bind_s, show m_Stacks_replace N S_top S_frames S_handlers n_S_values f_S_values 2 (scW (nI 0)) = _ from h3, bind_s]
  · rw [if_pos (by decide), show m_Value_truth N 0 = some (scW (nI 0)) from (by rw [scW_0]; rfl), bind_s, show m_Stacks_replace N S_top S_frames S_handlers n_S_values f_S_values 2 (scW (nI 0)) = _ from h3, bind_s]
  · rw [if_neg (by decide), show m_Value_truth N 1 = some (scW (nI 1)) from (by rw [scW_1]; rfl), bind_s, show m_Stacks_replace N S_top S_frames S_handlers n_S_values f_S_values 2 (scW (nI 1)) = _ from h3, bind_s]
theorem st_34 {a1 a0 c x : Int32} {F' : Nat → Nat → Int32} {I' : Nat → Int32} (h0 : m_Model_is N I F 1 6 = some (nI 1)) (h0' : m_Model_is N I F 2 6 = some (nI 1)) (h1 : m_Model_scalar N I F 2 = some a1) (h2 : m_Model_scalar N I F 1 = some a0) (h3 : m_Model_compare N I F a1 a0 = some c) (h4 : m_Model_ordered N (nI 34) c = some x) (h5 : m_Model_give N I F 2 0 x = some (nI 5, F', I')) : m_Model_strings N I F (nI 34) = some (nI 5, F', upd I' 35 (I' 35 + nI 2)) := by
  unfold m_Model_strings
  rw [if_neg (show ¬ nI 34 = 27 by decide), if_neg (show ¬ nI 34 = 28 by decide), if_neg (show ¬ nI 34 = 29 by decide), if_neg (show ¬ nI 34 = 30 by decide), if_neg (show ¬ nI 34 = 31 by decide), if_neg (show ¬ nI 34 = 32 by decide), if_neg (show ¬ nI 34 = 33 by decide), if_pos (show nI 34 = 34 from rfl), h0, bind_s, if_neg (show ¬ nI 1 = 0 by decide), h0', bind_s, if_neg (show ¬ nI 1 = 0 by decide), h1, bind_s, h2, bind_s, h3, bind_s, h4, bind_s, h5, bind_s]
  dsimp only
  rw [next_5, bind_s]
  rfl
set_option maxRecDepth 4000 in
set_option maxHeartbeats 4000000 in
theorem pq_34 {rs} {p L o1 o0 : Nat} (hN : 400000 ≤ N) (he : eR nk nm nid G lE gg t gs fr gc hn gb gf gr hF hH hP hD S_top S_frames S_handlers n_S_values f_S_values n_S_bases f_S_bases n_S_floors f_S_floors n_S_returns f_S_returns n_S_closures f_S_closures n_S_handlerFrames f_S_handlerFrames n_S_handlerPlaces f_S_handlerPlaces n_S_handlerHeights f_S_handlerHeights n_S_handlerDepths f_S_handlerDepths H_globalsUsed H_used H_old H_oldLeadsToNew f_H_globals n_H_cells f_H_cells n_H_spare) (hr : rR nk nm nid G lR gg t gs fr gc hn gb gf gr hF hH hP hD I F) (hx : xR nm M_fuel M_ticks H_made M_depth B_names O_size n_O_bytes f_O_bytes n_Q_links f_Q_links n_Q_pairs n_H_cells I F) (h35 : I 35 = nI p) (hkt : gf (fr - 1) + 2 ≤ t) (hv1 : gs (t - 2) = vO o1) (hv0 : gs (t - 1) = vO o0) (hK1 : gK G o1 = 6) (hK0 : gK G o0 = 6)
    (hfit : m_Machine_primitiveFits N S_top S_frames S_handlers M_status (nI p) (nI (p + 2)) M_fuel M_ticks M_depth (I 45) M_done n_S_values f_S_values n_S_floors f_S_floors (nI 34) = some (nI 1)) (hR : rs = m_Model_strings N I F (nI 34)) :
    opR nm n_H_cells I F (potE n_S_values n_S_bases n_S_handlerFrames n_H_cells n_H_spare n_Q_links n_Q_pairs n_O_bytes) (m_Machine_perform N P_size P_constants P_closed P_open O_size S_top S_frames S_handlers H_globalsUsed H_used H_spareUsed H_old H_oldLeadsToNew (nI L) H_every H_fresh H_made (I 44) H_reachedFromGlobals H_reachedInAll H_keptGlobalsUsed H_kept B_names Q_size M_status (nI p) (nI (p + 2)) M_fuel M_ticks M_depth (I 45) M_done n_P_words f_P_words n_P_bytes f_P_bytes n_P_ends f_P_ends n_O_bytes f_O_bytes n_S_values f_S_values n_S_bases f_S_bases n_S_floors f_S_floors n_S_returns f_S_returns n_S_closures f_S_closures n_S_handlerFrames f_S_handlerFrames n_S_handlerPlaces f_S_handlerPlaces n_S_handlerHeights f_S_handlerHeights n_S_handlerDepths f_S_handlerDepths 2049 f_H_globals n_H_cells f_H_cells n_H_spare f_H_spare n_Q_links f_Q_links n_Q_pairs f_Q_pairs (nI 34) (nI 34)) rs := by
  obtain ⟨q1, q2, q3, qt, qs, qh, qb, qf, q4, q5, q6, q7, q8, q9, qx, qy, qz⟩ := frE he
  obtain ⟨y1, y2, y3, y4, y5⟩ := frR hr q1
  subst qt qs qh
  have mR1 : o1 ∈ lR := by have := (vRr hr (k := t - 2) (by omega)).2.2; rw [hv1] at this; exact this
  have mR0 : o0 ∈ lR := by have := (vRr hr (k := t - 1) (by omega)).2.2; rw [hv0] at this; exact this
  have s2 := scalar_R (N := N) (d := 2) hr (by omega) (by omega) q3
  rw [hv1] at s2
  have s2 : m_Model_scalar N I F 2 = some (nI (adr (gZ G) lR o1)) := s2
  have s1 := scalar_R (N := N) (d := 1) hr (by omega) (by omega) q3
  rw [hv0] at s1
  have s1 : m_Model_scalar N I F 1 = some (nI (adr (gZ G) lR o0)) := s1
  have hi1 := is_O (N := N) (d := 1) (K := 6) hr (by omega) (by omega) q3 (by omega) hv0
  rw [if_pos hK0] at hi1
  have hi2 := is_O (N := N) (d := 2) (K := 6) hr (by omega) (by omega) q3 (by omega) hv1
  rw [if_pos hK1] at hi2
  obtain ⟨r, e1, e2⟩ := order_E (N := N) hN he (by omega) hv1 hv0 hK1 hK0
  obtain ⟨c, r', c1, c2, c3⟩ := comp_R (N := N) hN hr mR1 mR0 hK1 hK0
  have := ordS_u e2 c2
  subst this
  have hr6 : r = -1 ∨ r = 0 ∨ r = 1 := by
    rcases c3 with h | h | h
    · exact Or.inl h.2
    · exact Or.inr (Or.inl h.2)
    · exact Or.inr (Or.inr h.2)
  refine repl_op (N := N) (f_Q_pairs := f_Q_pairs) (f_H_spare := f_H_spare) (Q_size := Q_size) (H_fresh := H_fresh) (H_reachedFromGlobals := H_reachedFromGlobals) (H_reachedInAll := H_reachedInAll) (H_spareUsed := H_spareUsed) (v := vS (orQ 34 r)) (k := 2) (W := 2) (x := nI (p + 2)) he hr hx (by omega) hkt trivial trivial ?_ ?_ (by rw [h35, q_add])
  · intro h
    have h : m_Stacks_replace N (nI t) (nI fr) (nI hn) n_S_values f_S_values 2 (scW (orQ 34 r)) = _ := h
    exact pf34_S (by omega) (by decide) hfit (ap_34 hr6 (e1 ..) h)
  · intro F' I' h
    have h : m_Model_give N I F 2 0 (orQ 34 r) = _ := h
    rw [hR]
    exact st_34 hi1 hi2 s2 s1 c1 (ord_R (by omega) (by omega) c3) h
theorem ap_35 {r st2 top2 : Int32} {va2 : Nat → Int64} (hr6 : r = -1 ∨ r = 0 ∨ r = 1) (h1 : m_Strings_order N S_top S_frames S_handlers H_globalsUsed H_used H_spareUsed H_old H_oldLeadsToNew H_limit H_every H_fresh H_made H_madeLimit H_reachedFromGlobals H_reachedInAll H_keptGlobalsUsed H_kept n_S_values f_S_values n_H_cells f_H_cells = some r) (h3 : m_Stacks_replace N S_top S_frames S_handlers n_S_values f_S_values 2 (scW (orQ 35 r)) = some (st2, va2, top2)) : m_Strings_apply N O_size S_top S_frames S_handlers H_globalsUsed H_used H_spareUsed H_old H_oldLeadsToNew H_limit H_every H_fresh H_made H_madeLimit H_reachedFromGlobals H_reachedInAll H_keptGlobalsUsed H_kept n_O_bytes f_O_bytes n_S_values f_S_values n_S_closures f_S_closures n_H_globals f_H_globals n_H_cells f_H_cells n_H_spare f_H_spare (nI 35) = some ((st2, f_H_globals, f_S_closures, va2, H_fresh, H_made, H_old, H_oldLeadsToNew, H_reachedFromGlobals, H_reachedInAll, H_spareUsed, H_used, O_size, top2, n_H_cells, f_H_cells, n_H_spare, f_H_spare, n_O_bytes, f_O_bytes), 0, 0) := by
  unfold m_Strings_apply
  rw [if_neg (show ¬ nI 35 = 27 by decide), if_neg (show ¬ nI 35 = 28 by decide), if_neg (show ¬ nI 35 = 29 by decide), if_neg (show ¬ nI 35 = 30 by decide), if_neg (show ¬ nI 35 = 31 by decide), if_neg (show ¬ nI 35 = 32 by decide), if_neg (show ¬ nI 35 = 33 by decide), if_neg (show ¬ nI 35 = 34 by decide), if_pos (show nI 35 = 35 from rfl), h1, bind_s]
  rcases hr6 with rfl | rfl | rfl
  · rw [if_neg (by decide), show m_Value_truth N 1 = some (scW (nI 1)) from (by rw [scW_1]; rfl), bind_s, show m_Stacks_replace N S_top S_frames S_handlers n_S_values f_S_values 2 (scW (nI 1)) = _ from h3, bind_s]
  · rw [if_neg (by decide), show m_Value_truth N 1 = some (scW (nI 1)) from (by rw [scW_1]; rfl), bind_s, show m_Stacks_replace N S_top S_frames S_handlers n_S_values f_S_values 2 (scW (nI 1)) = _ from h3, bind_s]
  · rw [if_pos (by decide), show m_Value_truth N 0 = some (scW (nI 0)) from (by rw [scW_0]; rfl), bind_s, show m_Stacks_replace N S_top S_frames S_handlers n_S_values f_S_values 2 (scW (nI 0)) = _ from h3, bind_s]
theorem st_35 {a1 a0 c x : Int32} {F' : Nat → Nat → Int32} {I' : Nat → Int32} (h0 : m_Model_is N I F 1 6 = some (nI 1)) (h0' : m_Model_is N I F 2 6 = some (nI 1)) (h1 : m_Model_scalar N I F 2 = some a1) (h2 : m_Model_scalar N I F 1 = some a0) (h3 : m_Model_compare N I F a1 a0 = some c) (h4 : m_Model_ordered N (nI 35) c = some x) (h5 : m_Model_give N I F 2 0 x = some (nI 5, F', I')) : m_Model_strings N I F (nI 35) = some (nI 5, F', upd I' 35 (I' 35 + nI 2)) := by
  unfold m_Model_strings
  rw [if_neg (show ¬ nI 35 = 27 by decide), if_neg (show ¬ nI 35 = 28 by decide), if_neg (show ¬ nI 35 = 29 by decide), if_neg (show ¬ nI 35 = 30 by decide), if_neg (show ¬ nI 35 = 31 by decide), if_neg (show ¬ nI 35 = 32 by decide), if_neg (show ¬ nI 35 = 33 by decide), if_neg (show ¬ nI 35 = 34 by decide), if_pos (show nI 35 = 35 from rfl), h0, bind_s, if_neg (show ¬ nI 1 = 0 by decide), h0', bind_s, if_neg (show ¬ nI 1 = 0 by decide), h1, bind_s, h2, bind_s, h3, bind_s, h4, bind_s, h5, bind_s]
  dsimp only
  rw [next_5, bind_s]
  rfl
set_option maxRecDepth 4000 in
set_option maxHeartbeats 4000000 in
theorem pq_35 {rs} {p L o1 o0 : Nat} (hN : 400000 ≤ N) (he : eR nk nm nid G lE gg t gs fr gc hn gb gf gr hF hH hP hD S_top S_frames S_handlers n_S_values f_S_values n_S_bases f_S_bases n_S_floors f_S_floors n_S_returns f_S_returns n_S_closures f_S_closures n_S_handlerFrames f_S_handlerFrames n_S_handlerPlaces f_S_handlerPlaces n_S_handlerHeights f_S_handlerHeights n_S_handlerDepths f_S_handlerDepths H_globalsUsed H_used H_old H_oldLeadsToNew f_H_globals n_H_cells f_H_cells n_H_spare) (hr : rR nk nm nid G lR gg t gs fr gc hn gb gf gr hF hH hP hD I F) (hx : xR nm M_fuel M_ticks H_made M_depth B_names O_size n_O_bytes f_O_bytes n_Q_links f_Q_links n_Q_pairs n_H_cells I F) (h35 : I 35 = nI p) (hkt : gf (fr - 1) + 2 ≤ t) (hv1 : gs (t - 2) = vO o1) (hv0 : gs (t - 1) = vO o0) (hK1 : gK G o1 = 6) (hK0 : gK G o0 = 6)
    (hfit : m_Machine_primitiveFits N S_top S_frames S_handlers M_status (nI p) (nI (p + 2)) M_fuel M_ticks M_depth (I 45) M_done n_S_values f_S_values n_S_floors f_S_floors (nI 35) = some (nI 1)) (hR : rs = m_Model_strings N I F (nI 35)) :
    opR nm n_H_cells I F (potE n_S_values n_S_bases n_S_handlerFrames n_H_cells n_H_spare n_Q_links n_Q_pairs n_O_bytes) (m_Machine_perform N P_size P_constants P_closed P_open O_size S_top S_frames S_handlers H_globalsUsed H_used H_spareUsed H_old H_oldLeadsToNew (nI L) H_every H_fresh H_made (I 44) H_reachedFromGlobals H_reachedInAll H_keptGlobalsUsed H_kept B_names Q_size M_status (nI p) (nI (p + 2)) M_fuel M_ticks M_depth (I 45) M_done n_P_words f_P_words n_P_bytes f_P_bytes n_P_ends f_P_ends n_O_bytes f_O_bytes n_S_values f_S_values n_S_bases f_S_bases n_S_floors f_S_floors n_S_returns f_S_returns n_S_closures f_S_closures n_S_handlerFrames f_S_handlerFrames n_S_handlerPlaces f_S_handlerPlaces n_S_handlerHeights f_S_handlerHeights n_S_handlerDepths f_S_handlerDepths 2049 f_H_globals n_H_cells f_H_cells n_H_spare f_H_spare n_Q_links f_Q_links n_Q_pairs f_Q_pairs (nI 34) (nI 35)) rs := by
  obtain ⟨q1, q2, q3, qt, qs, qh, qb, qf, q4, q5, q6, q7, q8, q9, qx, qy, qz⟩ := frE he
  obtain ⟨y1, y2, y3, y4, y5⟩ := frR hr q1
  subst qt qs qh
  have mR1 : o1 ∈ lR := by have := (vRr hr (k := t - 2) (by omega)).2.2; rw [hv1] at this; exact this
  have mR0 : o0 ∈ lR := by have := (vRr hr (k := t - 1) (by omega)).2.2; rw [hv0] at this; exact this
  have s2 := scalar_R (N := N) (d := 2) hr (by omega) (by omega) q3
  rw [hv1] at s2
  have s2 : m_Model_scalar N I F 2 = some (nI (adr (gZ G) lR o1)) := s2
  have s1 := scalar_R (N := N) (d := 1) hr (by omega) (by omega) q3
  rw [hv0] at s1
  have s1 : m_Model_scalar N I F 1 = some (nI (adr (gZ G) lR o0)) := s1
  have hi1 := is_O (N := N) (d := 1) (K := 6) hr (by omega) (by omega) q3 (by omega) hv0
  rw [if_pos hK0] at hi1
  have hi2 := is_O (N := N) (d := 2) (K := 6) hr (by omega) (by omega) q3 (by omega) hv1
  rw [if_pos hK1] at hi2
  obtain ⟨r, e1, e2⟩ := order_E (N := N) hN he (by omega) hv1 hv0 hK1 hK0
  obtain ⟨c, r', c1, c2, c3⟩ := comp_R (N := N) hN hr mR1 mR0 hK1 hK0
  have := ordS_u e2 c2
  subst this
  have hr6 : r = -1 ∨ r = 0 ∨ r = 1 := by
    rcases c3 with h | h | h
    · exact Or.inl h.2
    · exact Or.inr (Or.inl h.2)
    · exact Or.inr (Or.inr h.2)
  refine repl_op (N := N) (f_Q_pairs := f_Q_pairs) (f_H_spare := f_H_spare) (Q_size := Q_size) (H_fresh := H_fresh) (H_reachedFromGlobals := H_reachedFromGlobals) (H_reachedInAll := H_reachedInAll) (H_spareUsed := H_spareUsed) (v := vS (orQ 35 r)) (k := 2) (W := 2) (x := nI (p + 2)) he hr hx (by omega) hkt trivial trivial ?_ ?_ (by rw [h35, q_add])
  · intro h
    have h : m_Stacks_replace N (nI t) (nI fr) (nI hn) n_S_values f_S_values 2 (scW (orQ 35 r)) = _ := h
    exact pf34_S (by omega) (by decide) hfit (ap_35 hr6 (e1 ..) h)
  · intro F' I' h
    have h : m_Model_give N I F 2 0 (orQ 35 r) = _ := h
    rw [hR]
    exact st_35 hi1 hi2 s2 s1 c1 (ord_R (by omega) (by omega) c3) h
theorem ap_36 {r st2 top2 : Int32} {va2 : Nat → Int64} (hr6 : r = -1 ∨ r = 0 ∨ r = 1) (h1 : m_Strings_order N S_top S_frames S_handlers H_globalsUsed H_used H_spareUsed H_old H_oldLeadsToNew H_limit H_every H_fresh H_made H_madeLimit H_reachedFromGlobals H_reachedInAll H_keptGlobalsUsed H_kept n_S_values f_S_values n_H_cells f_H_cells = some r) (h3 : m_Stacks_replace N S_top S_frames S_handlers n_S_values f_S_values 2 (scW (orQ 36 r)) = some (st2, va2, top2)) : m_Strings_apply N O_size S_top S_frames S_handlers H_globalsUsed H_used H_spareUsed H_old H_oldLeadsToNew H_limit H_every H_fresh H_made H_madeLimit H_reachedFromGlobals H_reachedInAll H_keptGlobalsUsed H_kept n_O_bytes f_O_bytes n_S_values f_S_values n_S_closures f_S_closures n_H_globals f_H_globals n_H_cells f_H_cells n_H_spare f_H_spare (nI 36) = some ((st2, f_H_globals, f_S_closures, va2, H_fresh, H_made, H_old, H_oldLeadsToNew, H_reachedFromGlobals, H_reachedInAll, H_spareUsed, H_used, O_size, top2, n_H_cells, f_H_cells, n_H_spare, f_H_spare, n_O_bytes, f_O_bytes), 0, 0) := by
  unfold m_Strings_apply
  rw [if_neg (show ¬ nI 36 = 27 by decide), if_neg (show ¬ nI 36 = 28 by decide), if_neg (show ¬ nI 36 = 29 by decide), if_neg (show ¬ nI 36 = 30 by decide), if_neg (show ¬ nI 36 = 31 by decide), if_neg (show ¬ nI 36 = 32 by decide), if_neg (show ¬ nI 36 = 33 by decide), if_neg (show ¬ nI 36 = 34 by decide), if_neg (show ¬ nI 36 = 35 by decide), if_pos (show nI 36 = 36 from rfl), h1, bind_s]
  rcases hr6 with rfl | rfl | rfl
  · rw [if_pos (by decide), show m_Value_truth N 0 = some (scW (nI 0)) from (by rw [scW_0]; rfl), bind_s, show m_Stacks_replace N S_top S_frames S_handlers n_S_values f_S_values 2 (scW (nI 0)) = _ from h3, bind_s]
  · rw [if_neg (by decide), show m_Value_truth N 1 = some (scW (nI 1)) from (by rw [scW_1]; rfl), bind_s, show m_Stacks_replace N S_top S_frames S_handlers n_S_values f_S_values 2 (scW (nI 1)) = _ from h3, bind_s]
  · rw [if_neg (by decide), show m_Value_truth N 1 = some (scW (nI 1)) from (by rw [scW_1]; rfl), bind_s, show m_Stacks_replace N S_top S_frames S_handlers n_S_values f_S_values 2 (scW (nI 1)) = _ from h3, bind_s]
theorem st_36 {a1 a0 c x : Int32} {F' : Nat → Nat → Int32} {I' : Nat → Int32} (h0 : m_Model_is N I F 1 6 = some (nI 1)) (h0' : m_Model_is N I F 2 6 = some (nI 1)) (h1 : m_Model_scalar N I F 2 = some a1) (h2 : m_Model_scalar N I F 1 = some a0) (h3 : m_Model_compare N I F a1 a0 = some c) (h4 : m_Model_ordered N (nI 36) c = some x) (h5 : m_Model_give N I F 2 0 x = some (nI 5, F', I')) : m_Model_strings N I F (nI 36) = some (nI 5, F', upd I' 35 (I' 35 + nI 2)) := by
  unfold m_Model_strings
  rw [if_neg (show ¬ nI 36 = 27 by decide), if_neg (show ¬ nI 36 = 28 by decide), if_neg (show ¬ nI 36 = 29 by decide), if_neg (show ¬ nI 36 = 30 by decide), if_neg (show ¬ nI 36 = 31 by decide), if_neg (show ¬ nI 36 = 32 by decide), if_neg (show ¬ nI 36 = 33 by decide), if_neg (show ¬ nI 36 = 34 by decide), if_neg (show ¬ nI 36 = 35 by decide), if_pos (show nI 36 = 36 from rfl), h0, bind_s, if_neg (show ¬ nI 1 = 0 by decide), h0', bind_s, if_neg (show ¬ nI 1 = 0 by decide), h1, bind_s, h2, bind_s, h3, bind_s, h4, bind_s, h5, bind_s]
  dsimp only
  rw [next_5, bind_s]
  rfl
set_option maxRecDepth 4000 in
set_option maxHeartbeats 4000000 in
theorem pq_36 {rs} {p L o1 o0 : Nat} (hN : 400000 ≤ N) (he : eR nk nm nid G lE gg t gs fr gc hn gb gf gr hF hH hP hD S_top S_frames S_handlers n_S_values f_S_values n_S_bases f_S_bases n_S_floors f_S_floors n_S_returns f_S_returns n_S_closures f_S_closures n_S_handlerFrames f_S_handlerFrames n_S_handlerPlaces f_S_handlerPlaces n_S_handlerHeights f_S_handlerHeights n_S_handlerDepths f_S_handlerDepths H_globalsUsed H_used H_old H_oldLeadsToNew f_H_globals n_H_cells f_H_cells n_H_spare) (hr : rR nk nm nid G lR gg t gs fr gc hn gb gf gr hF hH hP hD I F) (hx : xR nm M_fuel M_ticks H_made M_depth B_names O_size n_O_bytes f_O_bytes n_Q_links f_Q_links n_Q_pairs n_H_cells I F) (h35 : I 35 = nI p) (hkt : gf (fr - 1) + 2 ≤ t) (hv1 : gs (t - 2) = vO o1) (hv0 : gs (t - 1) = vO o0) (hK1 : gK G o1 = 6) (hK0 : gK G o0 = 6)
    (hfit : m_Machine_primitiveFits N S_top S_frames S_handlers M_status (nI p) (nI (p + 2)) M_fuel M_ticks M_depth (I 45) M_done n_S_values f_S_values n_S_floors f_S_floors (nI 36) = some (nI 1)) (hR : rs = m_Model_strings N I F (nI 36)) :
    opR nm n_H_cells I F (potE n_S_values n_S_bases n_S_handlerFrames n_H_cells n_H_spare n_Q_links n_Q_pairs n_O_bytes) (m_Machine_perform N P_size P_constants P_closed P_open O_size S_top S_frames S_handlers H_globalsUsed H_used H_spareUsed H_old H_oldLeadsToNew (nI L) H_every H_fresh H_made (I 44) H_reachedFromGlobals H_reachedInAll H_keptGlobalsUsed H_kept B_names Q_size M_status (nI p) (nI (p + 2)) M_fuel M_ticks M_depth (I 45) M_done n_P_words f_P_words n_P_bytes f_P_bytes n_P_ends f_P_ends n_O_bytes f_O_bytes n_S_values f_S_values n_S_bases f_S_bases n_S_floors f_S_floors n_S_returns f_S_returns n_S_closures f_S_closures n_S_handlerFrames f_S_handlerFrames n_S_handlerPlaces f_S_handlerPlaces n_S_handlerHeights f_S_handlerHeights n_S_handlerDepths f_S_handlerDepths 2049 f_H_globals n_H_cells f_H_cells n_H_spare f_H_spare n_Q_links f_Q_links n_Q_pairs f_Q_pairs (nI 34) (nI 36)) rs := by
  obtain ⟨q1, q2, q3, qt, qs, qh, qb, qf, q4, q5, q6, q7, q8, q9, qx, qy, qz⟩ := frE he
  obtain ⟨y1, y2, y3, y4, y5⟩ := frR hr q1
  subst qt qs qh
  have mR1 : o1 ∈ lR := by have := (vRr hr (k := t - 2) (by omega)).2.2; rw [hv1] at this; exact this
  have mR0 : o0 ∈ lR := by have := (vRr hr (k := t - 1) (by omega)).2.2; rw [hv0] at this; exact this
  have s2 := scalar_R (N := N) (d := 2) hr (by omega) (by omega) q3
  rw [hv1] at s2
  have s2 : m_Model_scalar N I F 2 = some (nI (adr (gZ G) lR o1)) := s2
  have s1 := scalar_R (N := N) (d := 1) hr (by omega) (by omega) q3
  rw [hv0] at s1
  have s1 : m_Model_scalar N I F 1 = some (nI (adr (gZ G) lR o0)) := s1
  have hi1 := is_O (N := N) (d := 1) (K := 6) hr (by omega) (by omega) q3 (by omega) hv0
  rw [if_pos hK0] at hi1
  have hi2 := is_O (N := N) (d := 2) (K := 6) hr (by omega) (by omega) q3 (by omega) hv1
  rw [if_pos hK1] at hi2
  obtain ⟨r, e1, e2⟩ := order_E (N := N) hN he (by omega) hv1 hv0 hK1 hK0
  obtain ⟨c, r', c1, c2, c3⟩ := comp_R (N := N) hN hr mR1 mR0 hK1 hK0
  have := ordS_u e2 c2
  subst this
  have hr6 : r = -1 ∨ r = 0 ∨ r = 1 := by
    rcases c3 with h | h | h
    · exact Or.inl h.2
    · exact Or.inr (Or.inl h.2)
    · exact Or.inr (Or.inr h.2)
  refine repl_op (N := N) (f_Q_pairs := f_Q_pairs) (f_H_spare := f_H_spare) (Q_size := Q_size) (H_fresh := H_fresh) (H_reachedFromGlobals := H_reachedFromGlobals) (H_reachedInAll := H_reachedInAll) (H_spareUsed := H_spareUsed) (v := vS (orQ 36 r)) (k := 2) (W := 2) (x := nI (p + 2)) he hr hx (by omega) hkt trivial trivial ?_ ?_ (by rw [h35, q_add])
  · intro h
    have h : m_Stacks_replace N (nI t) (nI fr) (nI hn) n_S_values f_S_values 2 (scW (orQ 36 r)) = _ := h
    exact pf34_S (by omega) (by decide) hfit (ap_36 hr6 (e1 ..) h)
  · intro F' I' h
    have h : m_Model_give N I F 2 0 (orQ 36 r) = _ := h
    rw [hR]
    exact st_36 hi1 hi2 s2 s1 c1 (ord_R (by omega) (by omega) c3) h
end OD
