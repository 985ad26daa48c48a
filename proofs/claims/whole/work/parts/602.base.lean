/-! Any state, begun or not; methods that only look -/
section BS
variable {N : Nat}
variable {nk : Nat → Nat} {nm : Nat} {nid : Nat} {G : Nat → GO} {lE : List Nat} {gg : Nat → AV} {t : Nat} {gs : Nat → AV} {fr : Nat} {gc : Nat → AV} {hn : Nat} {gb : Nat → Nat} {gf : Nat → Nat} {gr : Nat → Int32} {hF : Nat → Nat} {hH : Nat → Nat} {hP : Nat → Int32} {hD : Nat → Int32} {lR : List Nat} {P_size : Int32} {P_constants : Int32} {P_closed : Int32} {P_open : Int32} {O_size : Int32} {S_top : Int32} {S_frames : Int32} {S_handlers : Int32} {H_globalsUsed : Int32} {H_used : Int32} {H_spareUsed : Int32} {H_old : Int32} {H_oldLeadsToNew : Int32} {H_limit : Int32} {H_every : Int32} {H_fresh : Int32} {H_made : Int32} {H_madeLimit : Int32} {H_reachedFromGlobals : Int32} {H_reachedInAll : Int32} {H_keptGlobalsUsed : Int32} {H_kept : Int32} {B_names : Int32} {Q_size : Int32} {M_status : Int32} {M_place : Int32} {M_next : Int32} {M_fuel : Int32} {M_ticks : Int32} {M_depth : Int32} {M_depthLimit : Int32} {M_done : Int32} {n_P_words : Nat} {f_P_words : Nat → Int32} {n_P_bytes : Nat} {f_P_bytes : Nat → Int32} {n_P_ends : Nat} {f_P_ends : Nat → Int32} {n_O_bytes : Nat} {f_O_bytes : Nat → Int32} {n_S_values : Nat} {f_S_values : Nat → Int64} {n_S_bases : Nat} {f_S_bases : Nat → Int32} {n_S_floors : Nat} {f_S_floors : Nat → Int32} {n_S_returns : Nat} {f_S_returns : Nat → Int32} {n_S_closures : Nat} {f_S_closures : Nat → Int64} {n_S_handlerFrames : Nat} {f_S_handlerFrames : Nat → Int32} {n_S_handlerPlaces : Nat} {f_S_handlerPlaces : Nat → Int32} {n_S_handlerHeights : Nat} {f_S_handlerHeights : Nat → Int32} {n_S_handlerDepths : Nat} {f_S_handlerDepths : Nat → Int32} {n_H_globals : Nat} {f_H_globals : Nat → Int64} {n_H_cells : Nat} {f_H_cells : Nat → Int64} {n_H_spare : Nat} {f_H_spare : Nat → Int64} {n_Q_links : Nat} {f_Q_links : Nat → Int32} {n_Q_pairs : Nat} {f_Q_pairs : Nat → Int64} {I : Nat → Int32} {F : Nat → Nat → Int32}
def baseR (nm : Nat) (f_H_globals : Nat → Int64) (Q_size : Int32) (H_fresh : Int32) (H_globalsUsed : Int32) (H_made : Int32) (H_old : Int32) (H_oldLeadsToNew : Int32) (H_reachedFromGlobals : Int32) (H_reachedInAll : Int32) (H_spareUsed : Int32) (H_used : Int32) (M_depth : Int32) (M_done : Int32) (M_fuel : Int32) (M_next : Int32) (M_place : Int32) (M_status : Int32) (M_ticks : Int32) (B_names : Int32) (O_size : Int32) (S_frames : Int32) (S_handlers : Int32) (S_top : Int32) (n_Q_links : Nat) (f_Q_links : Nat → Int32) (n_Q_pairs : Nat) (f_Q_pairs : Nat → Int64) (n_H_cells : Nat) (f_H_cells : Nat → Int64) (n_H_spare : Nat) (f_H_spare : Nat → Int64) (n_O_bytes : Nat) (f_O_bytes : Nat → Int32) (n_S_bases : Nat) (f_S_bases : Nat → Int32) (n_S_closures : Nat) (f_S_closures : Nat → Int64) (n_S_floors : Nat) (f_S_floors : Nat → Int32) (n_S_handlerDepths : Nat) (f_S_handlerDepths : Nat → Int32) (n_S_handlerFrames : Nat) (f_S_handlerFrames : Nat → Int32) (n_S_handlerHeights : Nat) (f_S_handlerHeights : Nat → Int32) (n_S_handlerPlaces : Nat) (f_S_handlerPlaces : Nat → Int32) (n_S_returns : Nat) (f_S_returns : Nat → Int32) (n_S_values : Nat) (f_S_values : Nat → Int64) (I : Nat → Int32) (F : Nat → Nat → Int32) : Prop :=
  ∃ (nk : Nat → Nat) (nid : Nat) (G : Nat → GO) (lE lR : List Nat) (gg : Nat → AV), hpE nk nm nid G lE gg H_globalsUsed H_used H_old H_oldLeadsToNew f_H_globals f_H_cells n_H_cells ∧ hpR nk nm nid G lR gg I F ∧
    lnE n_S_values n_S_bases n_S_floors n_S_returns n_S_closures n_S_handlerFrames n_S_handlerPlaces n_S_handlerHeights n_S_handlerDepths n_H_cells n_H_spare ∧ xR nm M_fuel M_ticks H_made M_depth B_names O_size n_O_bytes f_O_bytes n_Q_links f_Q_links n_Q_pairs n_H_cells I F ∧ (S_top = I 29 ∧ S_frames = I 22 ∧ S_handlers = I 30 ∧ M_place = I 35 ∧ M_done = I 40) ∧
    ((M_status = -1 ∧ I 20 = nI 0) ∨ (M_status = I 21 ∧ ¬ I 20 = nI 0 ∧ ((M_status = nI 5 ∧ ∃ (t : Nat) (gs : Nat → AV) (fr : Nat) (gc : Nat → AV) (hn : Nat) (gb : Nat → Nat) (gf : Nat → Nat) (gr : Nat → Int32) (hF : Nat → Nat) (hH : Nat → Nat) (hP : Nat → Int32) (hD : Nat → Int32), eR nk nm nid G lE gg t gs fr gc hn gb gf gr hF hH hP hD S_top S_frames S_handlers n_S_values f_S_values n_S_bases f_S_bases n_S_floors f_S_floors n_S_returns f_S_returns n_S_closures f_S_closures n_S_handlerFrames f_S_handlerFrames n_S_handlerPlaces f_S_handlerPlaces n_S_handlerHeights f_S_handlerHeights n_S_handlerDepths f_S_handlerDepths H_globalsUsed H_used H_old H_oldLeadsToNew f_H_globals n_H_cells f_H_cells n_H_spare ∧ rR nk nm nid G lR gg t gs fr gc hn gb gf gr hF hH hP hD I F) ∨ M_status = nI 0 ∨ M_status = nI 1 ∨ M_status = nI 2 ∨ M_status = nI 3 ∨ M_status = nI 4)))
theorem run_b (h : runS nm f_H_globals Q_size H_fresh H_globalsUsed H_made H_old H_oldLeadsToNew H_reachedFromGlobals H_reachedInAll H_spareUsed H_used M_depth M_done M_fuel M_next M_place M_status M_ticks B_names O_size S_frames S_handlers S_top n_Q_links f_Q_links n_Q_pairs f_Q_pairs n_H_cells f_H_cells n_H_spare f_H_spare n_O_bytes f_O_bytes n_S_bases f_S_bases n_S_closures f_S_closures n_S_floors f_S_floors n_S_handlerDepths f_S_handlerDepths n_S_handlerFrames f_S_handlerFrames n_S_handlerHeights f_S_handlerHeights n_S_handlerPlaces f_S_handlerPlaces n_S_returns f_S_returns n_S_values f_S_values I F) : baseR nm f_H_globals Q_size H_fresh H_globalsUsed H_made H_old H_oldLeadsToNew H_reachedFromGlobals H_reachedInAll H_spareUsed H_used M_depth M_done M_fuel M_next M_place M_status M_ticks B_names O_size S_frames S_handlers S_top n_Q_links f_Q_links n_Q_pairs f_Q_pairs n_H_cells f_H_cells n_H_spare f_H_spare n_O_bytes f_O_bytes n_S_bases f_S_bases n_S_closures f_S_closures n_S_floors f_S_floors n_S_handlerDepths f_S_handlerDepths n_S_handlerFrames f_S_handlerFrames n_S_handlerHeights f_S_handlerHeights n_S_handlerPlaces f_S_handlerPlaces n_S_returns f_S_returns n_S_values f_S_values I F := by
  obtain ⟨nk, nid, G, lE, lR, gg, a1, a2, a3, a4, ⟨a5, a6, a7, a8, a9, a10, a11⟩, a12⟩ := h
  exact ⟨nk, nid, G, lE, lR, gg, a1, a2, a3, a4, ⟨a5, a6, a7, a8, a9⟩, Or.inr ⟨a10, a11, a12⟩⟩
theorem b_run (h : baseR nm f_H_globals Q_size H_fresh H_globalsUsed H_made H_old H_oldLeadsToNew H_reachedFromGlobals H_reachedInAll H_spareUsed H_used M_depth M_done M_fuel M_next M_place M_status M_ticks B_names O_size S_frames S_handlers S_top n_Q_links f_Q_links n_Q_pairs f_Q_pairs n_H_cells f_H_cells n_H_spare f_H_spare n_O_bytes f_O_bytes n_S_bases f_S_bases n_S_closures f_S_closures n_S_floors f_S_floors n_S_handlerDepths f_S_handlerDepths n_S_handlerFrames f_S_handlerFrames n_S_handlerHeights f_S_handlerHeights n_S_handlerPlaces f_S_handlerPlaces n_S_returns f_S_returns n_S_values f_S_values I F) (hb : ¬ M_status = -1) : runS nm f_H_globals Q_size H_fresh H_globalsUsed H_made H_old H_oldLeadsToNew H_reachedFromGlobals H_reachedInAll H_spareUsed H_used M_depth M_done M_fuel M_next M_place M_status M_ticks B_names O_size S_frames S_handlers S_top n_Q_links f_Q_links n_Q_pairs f_Q_pairs n_H_cells f_H_cells n_H_spare f_H_spare n_O_bytes f_O_bytes n_S_bases f_S_bases n_S_closures f_S_closures n_S_floors f_S_floors n_S_handlerDepths f_S_handlerDepths n_S_handlerFrames f_S_handlerFrames n_S_handlerHeights f_S_handlerHeights n_S_handlerPlaces f_S_handlerPlaces n_S_returns f_S_returns n_S_values f_S_values I F := by
  obtain ⟨nk, nid, G, lE, lR, gg, a1, a2, a3, a4, ⟨a5, a6, a7, a8, a9⟩, a10⟩ := h
  rcases a10 with ⟨h, _⟩ | ⟨h1, h2, h3⟩
  · exact absurd h hb
  · exact ⟨nk, nid, G, lE, lR, gg, a1, a2, a3, a4, ⟨a5, a6, a7, a8, a9, h1, h2⟩, h3⟩
theorem b_on (h : baseR nm f_H_globals Q_size H_fresh H_globalsUsed H_made H_old H_oldLeadsToNew H_reachedFromGlobals H_reachedInAll H_spareUsed H_used M_depth M_done M_fuel M_next M_place M_status M_ticks B_names O_size S_frames S_handlers S_top n_Q_links f_Q_links n_Q_pairs f_Q_pairs n_H_cells f_H_cells n_H_spare f_H_spare n_O_bytes f_O_bytes n_S_bases f_S_bases n_S_closures f_S_closures n_S_floors f_S_floors n_S_handlerDepths f_S_handlerDepths n_S_handlerFrames f_S_handlerFrames n_S_handlerHeights f_S_handlerHeights n_S_handlerPlaces f_S_handlerPlaces n_S_returns f_S_returns n_S_values f_S_values I F) : m_Model_isOn N I F = some (if M_status = 5 then 1 else 0) := by
  obtain ⟨nk, nid, G, lE, lR, gg, a1, a2, a3, a4, a5, a10⟩ := h
  unfold m_Model_isOn
  rcases a10 with ⟨h1, h2⟩ | ⟨h1, h2, _⟩
  · rw [if_pos (show I 20 = 0 from h2), h1, if_neg (by decide)]
  · rw [if_neg (show ¬ I 20 = 0 from h2), ← h1]
    by_cases h : M_status = 5
    · rw [if_pos h, if_pos h]
    · rw [if_neg h, if_neg h]
theorem b_20 (h : baseR nm f_H_globals Q_size H_fresh H_globalsUsed H_made H_old H_oldLeadsToNew H_reachedFromGlobals H_reachedInAll H_spareUsed H_used M_depth M_done M_fuel M_next M_place M_status M_ticks B_names O_size S_frames S_handlers S_top n_Q_links f_Q_links n_Q_pairs f_Q_pairs n_H_cells f_H_cells n_H_spare f_H_spare n_O_bytes f_O_bytes n_S_bases f_S_bases n_S_closures f_S_closures n_S_floors f_S_floors n_S_handlerDepths f_S_handlerDepths n_S_handlerFrames f_S_handlerFrames n_S_handlerHeights f_S_handlerHeights n_S_handlerPlaces f_S_handlerPlaces n_S_returns f_S_returns n_S_values f_S_values I F) : I 20 = 0 ↔ M_status = -1 := by
  obtain ⟨nk, nid, G, lE, lR, gg, a1, a2, a3, a4, a5, a10⟩ := h
  rcases a10 with ⟨h1, h2⟩ | ⟨h1, h2, h3⟩
  · exact ⟨fun _ => h1, fun _ => h2⟩
  · refine ⟨fun h => absurd h h2, fun h => ?_⟩
    rw [h] at h3
    rcases h3 with ⟨h, _⟩ | h | h | h | h | h
    · exact absurd h (by decide)
    · exact absurd h (by decide)
    · exact absurd h (by decide)
    · exact absurd h (by decide)
    · exact absurd h (by decide)
    · exact absurd h (by decide)
theorem hpR_f {l : List Nat} {I' : Nat → Int32} {F' : Nat → Nat → Int32} (hI : ∀ j, ¬ (j = 15 ∨ j = 18 ∨ j = 19 ∨ j = 43 ∨ j = 44 ∨ j = 45 ∨ j = 52 ∨ j = 53) → I' j = I j) (hFF : ∀ j, j ≠ 14 → j ≠ 16 → j ≠ 17 → F' j = F j) (h : hpR nk nm nid G l gg I F) : hpR nk nm nid G l gg I' F' := by
  obtain ⟨c1, c2, c3, c4, c5, c6, c7, c8, c9, c10⟩ := h
  have hF6 : ∀ j, j < 14 → F' j = F j := fun j h => hFF j (by omega) (by omega) (by omega)
  have hI6 : ∀ j, j < 15 → I' j = I j := fun j h => hI j (by omega)
  refine ⟨c1, c2, ?_, c4, ?_, ?_, c7, ?_, ?_, ?_⟩
  · rw [hI6 3 (by omega)]; exact c3
  · rw [hF6 0 (by omega), hF6 1 (by omega)]; exact c5
  · rw [hF6 2 (by omega)]; exact c6
  · rw [hF6 5 (by omega), hF6 6 (by omega)]; exact c8
  · rw [hI6 7 (by omega)]; exact c9
  · rw [hI6 8 (by omega)]; exact c10
theorem base_f {I' : Nat → Int32} {F' : Nat → Nat → Int32} (hI : ∀ j, ¬ (j = 15 ∨ j = 18 ∨ j = 19 ∨ j = 43 ∨ j = 44 ∨ j = 45 ∨ j = 52 ∨ j = 53) → I' j = I j) (hFF : ∀ j, j ≠ 14 → j ≠ 16 → j ≠ 17 → F' j = F j) (h : baseR nm f_H_globals Q_size H_fresh H_globalsUsed H_made H_old H_oldLeadsToNew H_reachedFromGlobals H_reachedInAll H_spareUsed H_used M_depth M_done M_fuel M_next M_place M_status M_ticks B_names O_size S_frames S_handlers S_top n_Q_links f_Q_links n_Q_pairs f_Q_pairs n_H_cells f_H_cells n_H_spare f_H_spare n_O_bytes f_O_bytes n_S_bases f_S_bases n_S_closures f_S_closures n_S_floors f_S_floors n_S_handlerDepths f_S_handlerDepths n_S_handlerFrames f_S_handlerFrames n_S_handlerHeights f_S_handlerHeights n_S_handlerPlaces f_S_handlerPlaces n_S_returns f_S_returns n_S_values f_S_values I F) : baseR nm f_H_globals Q_size H_fresh H_globalsUsed H_made H_old H_oldLeadsToNew H_reachedFromGlobals H_reachedInAll H_spareUsed H_used M_depth M_done M_fuel M_next M_place M_status M_ticks B_names O_size S_frames S_handlers S_top n_Q_links f_Q_links n_Q_pairs f_Q_pairs n_H_cells f_H_cells n_H_spare f_H_spare n_O_bytes f_O_bytes n_S_bases f_S_bases n_S_closures f_S_closures n_S_floors f_S_floors n_S_handlerDepths f_S_handlerDepths n_S_handlerFrames f_S_handlerFrames n_S_handlerHeights f_S_handlerHeights n_S_handlerPlaces f_S_handlerPlaces n_S_returns f_S_returns n_S_values f_S_values I' F' := by
  obtain ⟨nk, nid, G, lE, lR, gg, a1, a2, a3, a4, ⟨a5, a6, a7, a8, a9⟩, a10⟩ := h
  have hI6 : ∀ j, 19 < j ∧ j < 43 → I' j = I j := fun j h => hI j (by omega)
  have hF6 : ∀ j, 17 < j → F' j = F j := fun j h => hFF j (by omega) (by omega) (by omega)
  refine ⟨nk, nid, G, lE, lR, gg, a1, hpR_f hI hFF a2, a3, xR_c a4 (fun j hj => hI j (by omega)) (hF6 41 (by omega)), ⟨?_, ?_, ?_, ?_, ?_⟩, ?_⟩
  · rw [hI6 29 (by omega)]; exact a5
  · rw [hI6 22 (by omega)]; exact a6
  · rw [hI6 30 (by omega)]; exact a7
  · rw [hI6 35 (by omega)]; exact a8
  · rw [hI6 40 (by omega)]; exact a9
  · rw [hI6 20 (by omega), hI6 21 (by omega)]
    rcases a10 with h | ⟨h1, h2, h3⟩
    · exact Or.inl h
    · refine Or.inr ⟨h1, h2, ?_⟩
      rcases h3 with ⟨h3, t, gs, fr, gc, hn, gb, gf, gr, hF, hH, hP, hD, he, ⟨⟨r1, r2, r3, r4, r5, r6, r7, r8⟩, ⟨b1, b2⟩, hc⟩⟩ | h3
      · refine Or.inl ⟨h3, t, gs, fr, gc, hn, gb, gf, gr, hF, hH, hP, hD, he, ⟨⟨?_, ?_, ?_, ?_, ?_, ?_, ?_, ?_⟩, ⟨?_, ?_⟩, hpR_f hI hFF hc⟩⟩
        · rw [hI6 29 (by omega)]; exact r1
        · rw [hI6 22 (by omega)]; exact r2
        · rw [hI6 30 (by omega)]; exact r3
        · rw [hF6 24 (by omega), hF6 25 (by omega)]; exact r4
        · rw [hF6 26 (by omega)]; exact r5
        · rw [hF6 31 (by omega), hF6 32 (by omega), hF6 33 (by omega), hF6 34 (by omega)]; exact r6
        · rw [hI6 20 (by omega)]; exact r7
        · rw [hI6 21 (by omega)]; exact r8
        · rw [hF6 27 (by omega), hF6 28 (by omega)]; exact b1
        · rw [hF6 23 (by omega)]; exact b2
      · exact Or.inr h3
theorem out_ER {k : Int32} (hx : xR nm M_fuel M_ticks H_made M_depth B_names O_size n_O_bytes f_O_bytes n_Q_links f_Q_links n_Q_pairs n_H_cells I F) : ∃ r, m_Engine_out N O_size n_O_bytes f_O_bytes k = some r ∧ m_Model_out N I F k = some r := by
  obtain ⟨x1, x2, x3, x4, x5, x6, x7, ⟨w, x8, x9, x10, x11⟩, ⟨y6, y7, y8⟩, x12⟩ := hx
  unfold m_Engine_out m_Model_out
  rw [x8, x9]
  by_cases h0 : k < 0
  · exact ⟨-1, if_pos h0, if_pos h0⟩
  · obtain ⟨n, hn6, rfl⟩ := nI_of h0
    rw [if_neg h0, if_neg h0]
    by_cases h1 : n < w
    · refine ⟨f_O_bytes n &&& 255, ?_, ?_⟩
      · rw [if_pos (show nI n < nI w by rw [q_lt_t (by omega) (by omega)]; exact True.intro), if_neg (bd_n (by omega) (by omega)), q_cl (by omega)]
      · rw [if_neg (show ¬ nI w ≤ nI n by rw [q_le_f (by omega) (by omega)]; exact id), if_neg (bd_n (by omega) (by omega)), q_cl (by omega), x11 n h1]
    · refine ⟨-1, ?_, ?_⟩
      · rw [if_neg (show ¬ nI n < nI w by rw [q_lt_f (by omega) (by omega)]; exact id)]
      · rw [if_pos (show nI w ≤ nI n by rw [q_le_t (by omega) (by omega)]; exact True.intro)]
theorem count_ER {k : Int32} (hx : xR nm M_fuel M_ticks H_made M_depth B_names O_size n_O_bytes f_O_bytes n_Q_links f_Q_links n_Q_pairs n_H_cells I F) (h0 : P_size = I 15) (h1 : P_constants = I 18) (h6 : S_frames = I 22) (h7 : S_top = I 29) (h8 : S_handlers = I 30) (h10 : M_place = I 35) (h11 : M_done = I 40) : ∃ r, m_Engine_count N P_size P_constants P_closed P_open O_size S_top S_frames S_handlers H_globalsUsed H_used H_spareUsed H_old H_oldLeadsToNew H_limit H_every H_fresh H_made H_madeLimit H_reachedFromGlobals H_reachedInAll H_keptGlobalsUsed H_kept M_status M_place M_next M_fuel M_ticks M_depth M_depthLimit M_done k = some r ∧ m_Model_count N I F k = some r := by
  obtain ⟨x1, x2, x3, x4, x5, x6, x7, ⟨w, x8, x9, x10, x11⟩, x12⟩ := hx
  have h9 : O_size = I 42 := x8.trans x9.symm
  refine ⟨_, ?_, rfl⟩
  unfold m_Engine_count m_Machine_number
  rw [h0, h1, x3, x4, x5, x6, h6, h7, h8, h9, h10, h11]
  simp only [bind_s]
  by_cases c0 : k = 0
  · rw [if_pos c0, if_pos c0]
  · rw [if_neg c0, if_neg c0]
    by_cases c1 : k = 1
    · rw [if_pos c1, if_pos c1]
    · rw [if_neg c1, if_neg c1]
      by_cases c2 : k = 2
      · simp only [c2, if_true, reduceIte]
      · by_cases c3 : k = 3
        · subst c3; rfl
        · by_cases c4 : k = 4
          · subst c4; rfl
          · by_cases c5 : k = 5
            · subst c5; rfl
            · by_cases c6 : k = 6
              · subst c6; rfl
              · by_cases c7 : k = 7
                · subst c7; rfl
                · by_cases c8 : k = 8
                  · subst c8; rfl
                  · by_cases c9 : k = 9
                    · subst c9; rfl
                    · by_cases c10 : k = 10
                      · subst c10; rfl
                      · by_cases c11 : k = 11
                        · subst c11; rfl
                        · simp only [c2, c3, c4, c5, c6, c7, c8, c9, c10, c11, if_false, reduceIte]
theorem lim_ER {a b c : Int32} {L : Nat} (h1 : H_limit = nI L) (h2 : I 43 = nI L) (h3 : L ≤ 131072) (h4 : H_madeLimit = I 44) (h5 : M_depthLimit = I 45) : ∃ (r lm dl : Int32) (L' : Nat) (I' : Nat → Int32), m_Engine_limits N H_globalsUsed H_used H_spareUsed H_old H_oldLeadsToNew H_limit H_every H_fresh H_made H_madeLimit H_reachedFromGlobals H_reachedInAll H_keptGlobalsUsed H_kept M_status M_place M_next M_fuel M_ticks M_depth M_depthLimit M_done a b c = some (r, nI L', lm, dl) ∧ m_Model_limits N I F a b c = some (r, I') ∧ I' 43 = nI L' ∧ L' ≤ 131072 ∧ lm = I' 44 ∧ dl = I' 45 ∧ ∀ j, j ≠ 43 → j ≠ 44 → j ≠ 45 → I' j = I j := by
  unfold m_Engine_limits m_Model_limits
  rw [h1]
  by_cases c0 : a < 0
  · exact ⟨0, H_madeLimit, M_depthLimit, L, I, if_pos c0, if_pos c0, h2, h3, h4, h5, fun _ _ _ _ => rfl⟩
  · rw [if_neg c0, if_neg c0]
    by_cases c1 : 131072 < a
    · exact ⟨0, H_madeLimit, M_depthLimit, L, I, if_pos c1, if_pos c1, h2, h3, h4, h5, fun _ _ _ _ => rfl⟩
    · rw [if_neg c1, if_neg c1]
      by_cases c2 : b < 0
      · exact ⟨0, H_madeLimit, M_depthLimit, L, I, if_pos c2, if_pos c2, h2, h3, h4, h5, fun _ _ _ _ => rfl⟩
      · rw [if_neg c2, if_neg c2]
        by_cases c3 : 0 ≤ c
        · obtain ⟨n, hn6, rfl⟩ := nI_of c0
          have hn7 : n ≤ 131072 := by
            by_cases hh : n ≤ 131072
            · exact hh
            · exact absurd (show (131072 : Int32) < nI n by rw [show (131072 : Int32) = nI 131072 from rfl, q_lt_t (by omega) (by omega)]; exact True.intro) c1
          refine ⟨1, b, c, n, upd (upd (upd I 43 (nI n)) 44 b) 45 c, if_pos c3, ?_, ?_, hn7, ?_, ?_, fun j h43 h44 h45 => by rw [upd_n h45, upd_n h44, upd_n h43]⟩
          · rw [if_pos c3, let_d, let_d, let_d]
          · rw [upd_n (by omega), upd_n (by omega), upd_e rfl]
          · rw [upd_n (by omega), upd_e rfl]
          · rw [upd_e rfl]
        · exact ⟨0, H_madeLimit, M_depthLimit, L, I, if_neg c3, if_neg c3, h2, h3, h4, h5, fun _ _ _ _ => rfl⟩
theorem coll_ER {a : Int32} : ∃ r e, m_Engine_collect N H_globalsUsed H_used H_spareUsed H_old H_oldLeadsToNew H_limit H_every H_fresh H_made H_madeLimit H_reachedFromGlobals H_reachedInAll H_keptGlobalsUsed H_kept a = some (r, e) ∧ m_Model_collect N I F a = some r := by
  unfold m_Engine_collect m_Model_collect
  by_cases c0 : a < 1
  · exact ⟨0, H_every, if_pos c0, if_pos c0⟩
  · rw [if_neg c0, if_neg c0]
    by_cases c1 : a ≤ 1000000
    · exact ⟨1, a, if_pos c1, if_neg (Int32.not_lt.mpr c1)⟩
    · exact ⟨0, H_every, if_neg c1, if_pos (Int32.not_le.mp c1)⟩
end BS
