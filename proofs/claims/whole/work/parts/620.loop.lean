/-! The law's loop -/
section LW
variable {N : Nat} {Ls nm : Nat} {xs : Nat → Int32}
variable {f_H_globals : Nat → Int64} {f_H_keptGlobals : Nat → Int64} {Q_size : Int32} {H_every : Int32} {H_fresh : Int32} {H_globalsUsed : Int32} {H_kept : Int32} {H_keptGlobalsUsed : Int32} {H_limit : Int32} {H_made : Int32} {H_madeLimit : Int32} {H_old : Int32} {H_oldLeadsToNew : Int32} {H_reachedFromGlobals : Int32} {H_reachedInAll : Int32} {H_spareUsed : Int32} {H_used : Int32} {M_depth : Int32} {M_depthLimit : Int32} {M_done : Int32} {M_fuel : Int32} {M_next : Int32} {M_place : Int32} {M_status : Int32} {M_ticks : Int32} {B_names : Int32} {O_size : Int32} {P_closed : Int32} {P_constants : Int32} {P_open : Int32} {P_size : Int32} {S_frames : Int32} {S_handlers : Int32} {S_top : Int32} {F : Nat → Nat → Int32} {I : Nat → Int32} {n_Q_links : Nat} {f_Q_links : Nat → Int32} {n_Q_pairs : Nat} {f_Q_pairs : Nat → Int64} {n_H_cells : Nat} {f_H_cells : Nat → Int64} {n_H_keptCells : Nat} {f_H_keptCells : Nat → Int64} {n_H_spare : Nat} {f_H_spare : Nat → Int64} {n_O_bytes : Nat} {f_O_bytes : Nat → Int32} {n_P_bytes : Nat} {f_P_bytes : Nat → Int32} {n_P_ends : Nat} {f_P_ends : Nat → Int32} {n_P_words : Nat} {f_P_words : Nat → Int32} {n_S_bases : Nat} {f_S_bases : Nat → Int32} {n_S_closures : Nat} {f_S_closures : Nat → Int64} {n_S_floors : Nat} {f_S_floors : Nat → Int32} {n_S_handlerDepths : Nat} {f_S_handlerDepths : Nat → Int32} {n_S_handlerFrames : Nat} {f_S_handlerFrames : Nat → Int32} {n_S_handlerHeights : Nat} {f_S_handlerHeights : Nat → Int32} {n_S_handlerPlaces : Nat} {f_S_handlerPlaces : Nat → Int32} {n_S_returns : Nat} {f_S_returns : Nat → Int32} {n_S_values : Nat} {f_S_values : Nat → Int64}
theorem lw_op {P0 P1 n i : Nat} {pf : ∀ (α : Type), ((Nat → Int64) → (Nat → Int64) → (Int32) → (Int32) → (Int32) → (Int32) → (Int32) → (Int32) → (Int32) → (Int32) → (Int32) → (Int32) → (Int32) → (Int32) → (Int32) → (Int32) → (Int32) → (Int32) → (Int32) → (Int32) → (Int32) → (Int32) → (Int32) → (Int32) → (Int32) → (Int32) → (Int32) → (Int32) → (Int32) → (Int32) → (Int32) → (Int32) → (Int32) → (Int32) → (Nat → Nat → Int32) → (Nat → Int32) → (Nat) → (Nat → Int32) → (Nat) → (Nat → Int64) → (Nat) → (Nat → Int64) → (Nat) → (Nat → Int64) → (Nat) → (Nat → Int64) → (Nat) → (Nat → Int32) → (Nat) → (Nat → Int32) → (Nat) → (Nat → Int32) → (Nat) → (Nat → Int32) → (Nat) → (Nat → Int32) → (Nat) → (Nat → Int64) → (Nat) → (Nat → Int32) → (Nat) → (Nat → Int32) → (Nat) → (Nat → Int32) → (Nat) → (Nat → Int32) → (Nat) → (Nat → Int32) → (Nat) → (Nat → Int32) → (Nat) → (Nat → Int64) → Option (α × Nat × Nat)) → Option (α × Nat × Nat)} (h : opL nm P0 pf) (hP : ∀ (nm' : Nat), ∀ (f_H_globals : Nat → Int64) (f_H_keptGlobals : Nat → Int64) (Q_size : Int32) (H_every : Int32) (H_fresh : Int32) (H_globalsUsed : Int32) (H_kept : Int32) (H_keptGlobalsUsed : Int32) (H_limit : Int32) (H_made : Int32) (H_madeLimit : Int32) (H_old : Int32) (H_oldLeadsToNew : Int32) (H_reachedFromGlobals : Int32) (H_reachedInAll : Int32) (H_spareUsed : Int32) (H_used : Int32) (M_depth : Int32) (M_depthLimit : Int32) (M_done : Int32) (M_fuel : Int32) (M_next : Int32) (M_place : Int32) (M_status : Int32) (M_ticks : Int32) (B_names : Int32) (O_size : Int32) (P_closed : Int32) (P_constants : Int32) (P_open : Int32) (P_size : Int32) (S_frames : Int32) (S_handlers : Int32) (S_top : Int32) (F : Nat → Nat → Int32) (I : Nat → Int32) (n_Q_links : Nat) (f_Q_links : Nat → Int32) (n_Q_pairs : Nat) (f_Q_pairs : Nat → Int64) (n_H_cells : Nat) (f_H_cells : Nat → Int64) (n_H_keptCells : Nat) (f_H_keptCells : Nat → Int64) (n_H_spare : Nat) (f_H_spare : Nat → Int64) (n_O_bytes : Nat) (f_O_bytes : Nat → Int32) (n_P_bytes : Nat) (f_P_bytes : Nat → Int32) (n_P_ends : Nat) (f_P_ends : Nat → Int32) (n_P_words : Nat) (f_P_words : Nat → Int32) (n_S_bases : Nat) (f_S_bases : Nat → Int32) (n_S_closures : Nat) (f_S_closures : Nat → Int64) (n_S_floors : Nat) (f_S_floors : Nat → Int32) (n_S_handlerDepths : Nat) (f_S_handlerDepths : Nat → Int32) (n_S_handlerFrames : Nat) (f_S_handlerFrames : Nat → Int32) (n_S_handlerHeights : Nat) (f_S_handlerHeights : Nat → Int32) (n_S_handlerPlaces : Nat) (f_S_handlerPlaces : Nat → Int32) (n_S_returns : Nat) (f_S_returns : Nat → Int32) (n_S_values : Nat) (f_S_values : Nat → Int64), cR nm' f_H_globals f_H_keptGlobals Q_size H_every H_fresh H_globalsUsed H_kept H_keptGlobalsUsed H_limit H_made H_madeLimit H_old H_oldLeadsToNew H_reachedFromGlobals H_reachedInAll H_spareUsed H_used M_depth M_depthLimit M_done M_fuel M_next M_place M_status M_ticks B_names O_size P_closed P_constants P_open P_size S_frames S_handlers S_top F I n_Q_links f_Q_links n_Q_pairs f_Q_pairs n_H_cells f_H_cells n_H_keptCells f_H_keptCells n_H_spare f_H_spare n_O_bytes f_O_bytes n_P_bytes f_P_bytes n_P_ends f_P_ends n_P_words f_P_words n_S_bases f_S_bases n_S_closures f_S_closures n_S_floors f_S_floors n_S_handlerDepths f_S_handlerDepths n_S_handlerFrames f_S_handlerFrames n_S_handlerHeights f_S_handlerHeights n_S_handlerPlaces f_S_handlerPlaces n_S_returns f_S_returns n_S_values f_S_values → nm' ≤ nm + 100000 → ∃ cc ss, lm_law_1 N Ls xs 2049 2048 (fun _ _ _ _ _ _ _ _ _ _ _ _ _ _ _ _ _ _ _ _ _ _ _ _ _ _ _ _ _ _ _ _ _ _ _ _ _ _ _ _ _ _ _ _ _ _ _ _ _ _ _ _ _ _ _ _ _ _ _ _ _ _ _ _ _ _ _ _ _ _ _ _ _ => some ((1 : Int32), 0, 0)) n (nI (i + 7)) f_H_globals f_H_keptGlobals Q_size H_every H_fresh H_globalsUsed H_kept H_keptGlobalsUsed H_limit H_made H_madeLimit H_old H_oldLeadsToNew H_reachedFromGlobals H_reachedInAll H_spareUsed H_used M_depth M_depthLimit M_done M_fuel M_next M_place M_status M_ticks B_names O_size P_closed P_constants P_open P_size S_frames S_handlers S_top F I n_Q_links f_Q_links n_Q_pairs f_Q_pairs n_H_cells f_H_cells n_H_keptCells f_H_keptCells n_H_spare f_H_spare n_O_bytes f_O_bytes n_P_bytes f_P_bytes n_P_ends f_P_ends n_P_words f_P_words n_S_bases f_S_bases n_S_closures f_S_closures n_S_floors f_S_floors n_S_handlerDepths f_S_handlerDepths n_S_handlerFrames f_S_handlerFrames n_S_handlerHeights f_S_handlerHeights n_S_handlerPlaces f_S_handlerPlaces n_S_returns f_S_returns n_S_values f_S_values = some (1, cc, ss) ∧ ss + 150 * cc + potL n_S_values n_S_bases n_S_handlerFrames n_H_cells n_H_spare n_Q_links n_Q_pairs n_O_bytes n_P_words n_P_bytes n_P_ends n_H_keptCells ≤ P1) :
    ∃ cc ss, pf Int32 (fun (f_H_globals : Nat → Int64) (f_H_keptGlobals : Nat → Int64) (Q_size : Int32) (H_every : Int32) (H_fresh : Int32) (H_globalsUsed : Int32) (H_kept : Int32) (H_keptGlobalsUsed : Int32) (H_limit : Int32) (H_made : Int32) (H_madeLimit : Int32) (H_old : Int32) (H_oldLeadsToNew : Int32) (H_reachedFromGlobals : Int32) (H_reachedInAll : Int32) (H_spareUsed : Int32) (H_used : Int32) (M_depth : Int32) (M_depthLimit : Int32) (M_done : Int32) (M_fuel : Int32) (M_next : Int32) (M_place : Int32) (M_status : Int32) (M_ticks : Int32) (B_names : Int32) (O_size : Int32) (P_closed : Int32) (P_constants : Int32) (P_open : Int32) (P_size : Int32) (S_frames : Int32) (S_handlers : Int32) (S_top : Int32) (F : Nat → Nat → Int32) (I : Nat → Int32) (n_Q_links : Nat) (f_Q_links : Nat → Int32) (n_Q_pairs : Nat) (f_Q_pairs : Nat → Int64) (n_H_cells : Nat) (f_H_cells : Nat → Int64) (n_H_keptCells : Nat) (f_H_keptCells : Nat → Int64) (n_H_spare : Nat) (f_H_spare : Nat → Int64) (n_O_bytes : Nat) (f_O_bytes : Nat → Int32) (n_P_bytes : Nat) (f_P_bytes : Nat → Int32) (n_P_ends : Nat) (f_P_ends : Nat → Int32) (n_P_words : Nat) (f_P_words : Nat → Int32) (n_S_bases : Nat) (f_S_bases : Nat → Int32) (n_S_closures : Nat) (f_S_closures : Nat → Int64) (n_S_floors : Nat) (f_S_floors : Nat → Int32) (n_S_handlerDepths : Nat) (f_S_handlerDepths : Nat → Int32) (n_S_handlerFrames : Nat) (f_S_handlerFrames : Nat → Int32) (n_S_handlerHeights : Nat) (f_S_handlerHeights : Nat → Int32) (n_S_handlerPlaces : Nat) (f_S_handlerPlaces : Nat → Int32) (n_S_returns : Nat) (f_S_returns : Nat → Int32) (n_S_values : Nat) (f_S_values : Nat → Int64) => lm_law_1 N Ls xs 2049 2048 (fun _ _ _ _ _ _ _ _ _ _ _ _ _ _ _ _ _ _ _ _ _ _ _ _ _ _ _ _ _ _ _ _ _ _ _ _ _ _ _ _ _ _ _ _ _ _ _ _ _ _ _ _ _ _ _ _ _ _ _ _ _ _ _ _ _ _ _ _ _ _ _ _ _ => some ((1 : Int32), 0, 0)) n (nI i + 7) f_H_globals f_H_keptGlobals Q_size H_every H_fresh H_globalsUsed H_kept H_keptGlobalsUsed H_limit H_made H_madeLimit H_old H_oldLeadsToNew H_reachedFromGlobals H_reachedInAll H_spareUsed H_used M_depth M_depthLimit M_done M_fuel M_next M_place M_status M_ticks B_names O_size P_closed P_constants P_open P_size S_frames S_handlers S_top F I n_Q_links f_Q_links n_Q_pairs f_Q_pairs n_H_cells f_H_cells n_H_keptCells f_H_keptCells n_H_spare f_H_spare n_O_bytes f_O_bytes n_P_bytes f_P_bytes n_P_ends f_P_ends n_P_words f_P_words n_S_bases f_S_bases n_S_closures f_S_closures n_S_floors f_S_floors n_S_handlerDepths f_S_handlerDepths n_S_handlerFrames f_S_handlerFrames n_S_handlerHeights f_S_handlerHeights n_S_handlerPlaces f_S_handlerPlaces n_S_returns f_S_returns n_S_values f_S_values) = some (1, cc, ss) ∧ ss + 150 * cc + P0 ≤ P1 := by
  obtain ⟨nm', f_H_globals, f_H_keptGlobals, Q_size, H_every, H_fresh, H_globalsUsed, H_kept, H_keptGlobalsUsed, H_limit, H_made, H_madeLimit, H_old, H_oldLeadsToNew, H_reachedFromGlobals, H_reachedInAll, H_spareUsed, H_used, M_depth, M_depthLimit, M_done, M_fuel, M_next, M_place, M_status, M_ticks, B_names, O_size, P_closed, P_constants, P_open, P_size, S_frames, S_handlers, S_top, F, I, n_Q_links, f_Q_links, n_Q_pairs, f_Q_pairs, n_H_cells, f_H_cells, n_H_keptCells, f_H_keptCells, n_H_spare, f_H_spare, n_O_bytes, f_O_bytes, n_P_bytes, f_P_bytes, n_P_ends, f_P_ends, n_P_words, f_P_words, n_S_bases, f_S_bases, n_S_closures, f_S_closures, n_S_floors, f_S_floors, n_S_handlerDepths, f_S_handlerDepths, n_S_handlerFrames, f_S_handlerFrames, n_S_handlerHeights, f_S_handlerHeights, n_S_handlerPlaces, f_S_handlerPlaces, n_S_returns, f_S_returns, n_S_values, f_S_values, cc, ss, e, c, b1, b2⟩ := h
  obtain ⟨cc2, ss2, r1, r2⟩ := hP nm' f_H_globals f_H_keptGlobals Q_size H_every H_fresh H_globalsUsed H_kept H_keptGlobalsUsed H_limit H_made H_madeLimit H_old H_oldLeadsToNew H_reachedFromGlobals H_reachedInAll H_spareUsed H_used M_depth M_depthLimit M_done M_fuel M_next M_place M_status M_ticks B_names O_size P_closed P_constants P_open P_size S_frames S_handlers S_top F I n_Q_links f_Q_links n_Q_pairs f_Q_pairs n_H_cells f_H_cells n_H_keptCells f_H_keptCells n_H_spare f_H_spare n_O_bytes f_O_bytes n_P_bytes f_P_bytes n_P_ends f_P_ends n_P_words f_P_words n_S_bases f_S_bases n_S_closures f_S_closures n_S_floors f_S_floors n_S_handlerDepths f_S_handlerDepths n_S_handlerFrames f_S_handlerFrames n_S_handlerHeights f_S_handlerHeights n_S_handlerPlaces f_S_handlerPlaces n_S_returns f_S_returns n_S_values f_S_values c b1
  refine ⟨cc2 + cc, ss2 + ss, ?_, by omega⟩
  rw [e]
  try dsimp only
  rw [show nI i + 7 = nI (i + 7) from q_add i 7, r1, tk_s]
theorem lt7_t {L i : Nat} (hL : L ≤ 3584) (hi : i ≤ 4000) (h : L < i + 7) : Int32.ofNat L - 7 < nI i := by
  have h1 : (nI L - 7).toInt = (L : Int) - 7 := by
    rw [Int32.toInt_sub, nI_toInt (by omega), show (7 : Int32).toInt = 7 by decide]
    apply Int.bmod_eq_of_le <;> omega
  rw [q_o, Int32.lt_iff_toInt_lt, h1, nI_toInt (by omega)]
  omega
theorem lt7_f {L i : Nat} (hL : L ≤ 3584) (hi : i ≤ 4000) (h : i + 7 ≤ L) : ¬ Int32.ofNat L - 7 < nI i := by
  have h1 : (nI L - 7).toInt = (L : Int) - 7 := by
    rw [Int32.toInt_sub, nI_toInt (by omega), show (7 : Int32).toInt = 7 by decide]
    apply Int.bmod_eq_of_le <;> omega
  rw [q_o, Int32.lt_iff_toInt_lt, h1, nI_toInt (by omega)]
  omega
theorem potK_le {n : Nat} : potK n ≤ 702160 := by
  unfold potK
  split
  · omega
  · omega
theorem pot_max (h : cR nm f_H_globals f_H_keptGlobals Q_size H_every H_fresh H_globalsUsed H_kept H_keptGlobalsUsed H_limit H_made H_madeLimit H_old H_oldLeadsToNew H_reachedFromGlobals H_reachedInAll H_spareUsed H_used M_depth M_depthLimit M_done M_fuel M_next M_place M_status M_ticks B_names O_size P_closed P_constants P_open P_size S_frames S_handlers S_top F I n_Q_links f_Q_links n_Q_pairs f_Q_pairs n_H_cells f_H_cells n_H_keptCells f_H_keptCells n_H_spare f_H_spare n_O_bytes f_O_bytes n_P_bytes f_P_bytes n_P_ends f_P_ends n_P_words f_P_words n_S_bases f_S_bases n_S_closures f_S_closures n_S_floors f_S_floors n_S_handlerDepths f_S_handlerDepths n_S_handlerFrames f_S_handlerFrames n_S_handlerHeights f_S_handlerHeights n_S_handlerPlaces f_S_handlerPlaces n_S_returns f_S_returns n_S_values f_S_values) : potL n_S_values n_S_bases n_S_handlerFrames n_H_cells n_H_spare n_Q_links n_Q_pairs n_O_bytes n_P_words n_P_bytes n_P_ends n_H_keptCells ≤ 6000000 := by
  obtain ⟨sz, kc, pd, L, te, hb, hpg, hfb, h5, hsv⟩ := h
  obtain ⟨nk, nid, G, lE, lR, gg, a1, a2, a3, a4, a5, a10⟩ := hb
  obtain ⟨l1, l2, l3, l4, l5, l6, l7, l8, l9, l10, l11, l12, l13, l14, l15, l16⟩ := a3
  obtain ⟨x1, x2, x3, x4, x5, x6, x7, x8, ⟨x9, x10, _⟩, ⟨x11, _⟩, x12, x13⟩ := a4
  obtain ⟨⟨g1, g2, g3, g4, g5, g6, g7⟩, ⟨c1, c2, c3, c4, c5, c6, c7, c8⟩, ⟨d1, d2, d3, d4, d5, d6, d7, d8, d9, d10, d11⟩⟩ := hpg
  have p1 := pot_le (m := 65536) l2 (by omega)
  have p2 := pot_le (m := 8192) l4 (by omega)
  have p3 := pot_le (m := 1024) l9 (by omega)
  have p4 := pot_le (m := 131072) l14 (by omega)
  have p5 := pot_le (m := 131072) l15 (by omega)
  have p6 := pot_le (m := 131072) x11 (by omega)
  have p7 := pot_le (m := 131072) x13 (by omega)
  have p8 := pot_le (m := 65536) x10 (by omega)
  have p9 := pot_le (m := 262144) g6 (by omega)
  have p10 := pot_le (m := 69632) d10 (by omega)
  have p11 := pot_le (m := 1024) c6 (by omega)
  have p12 := potK_le (n := n_H_keptCells)
  unfold potL potE
  omega
set_option maxRecDepth 100000 in
set_option maxHeartbeats 4000000 in
theorem law_l (hN : 400000 ≤ N) (hLs : Ls ≤ 3584) : ∀ (n i nm : Nat), ∀ (f_H_globals : Nat → Int64) (f_H_keptGlobals : Nat → Int64) (Q_size : Int32) (H_every : Int32) (H_fresh : Int32) (H_globalsUsed : Int32) (H_kept : Int32) (H_keptGlobalsUsed : Int32) (H_limit : Int32) (H_made : Int32) (H_madeLimit : Int32) (H_old : Int32) (H_oldLeadsToNew : Int32) (H_reachedFromGlobals : Int32) (H_reachedInAll : Int32) (H_spareUsed : Int32) (H_used : Int32) (M_depth : Int32) (M_depthLimit : Int32) (M_done : Int32) (M_fuel : Int32) (M_next : Int32) (M_place : Int32) (M_status : Int32) (M_ticks : Int32) (B_names : Int32) (O_size : Int32) (P_closed : Int32) (P_constants : Int32) (P_open : Int32) (P_size : Int32) (S_frames : Int32) (S_handlers : Int32) (S_top : Int32) (F : Nat → Nat → Int32) (I : Nat → Int32) (n_Q_links : Nat) (f_Q_links : Nat → Int32) (n_Q_pairs : Nat) (f_Q_pairs : Nat → Int64) (n_H_cells : Nat) (f_H_cells : Nat → Int64) (n_H_keptCells : Nat) (f_H_keptCells : Nat → Int64) (n_H_spare : Nat) (f_H_spare : Nat → Int64) (n_O_bytes : Nat) (f_O_bytes : Nat → Int32) (n_P_bytes : Nat) (f_P_bytes : Nat → Int32) (n_P_ends : Nat) (f_P_ends : Nat → Int32) (n_P_words : Nat) (f_P_words : Nat → Int32) (n_S_bases : Nat) (f_S_bases : Nat → Int32) (n_S_closures : Nat) (f_S_closures : Nat → Int64) (n_S_floors : Nat) (f_S_floors : Nat → Int32) (n_S_handlerDepths : Nat) (f_S_handlerDepths : Nat → Int32) (n_S_handlerFrames : Nat) (f_S_handlerFrames : Nat → Int32) (n_S_handlerHeights : Nat) (f_S_handlerHeights : Nat → Int32) (n_S_handlerPlaces : Nat) (f_S_handlerPlaces : Nat → Int32) (n_S_returns : Nat) (f_S_returns : Nat → Int32) (n_S_values : Nat) (f_S_values : Nat → Int64), cR nm f_H_globals f_H_keptGlobals Q_size H_every H_fresh H_globalsUsed H_kept H_keptGlobalsUsed H_limit H_made H_madeLimit H_old H_oldLeadsToNew H_reachedFromGlobals H_reachedInAll H_spareUsed H_used M_depth M_depthLimit M_done M_fuel M_next M_place M_status M_ticks B_names O_size P_closed P_constants P_open P_size S_frames S_handlers S_top F I n_Q_links f_Q_links n_Q_pairs f_Q_pairs n_H_cells f_H_cells n_H_keptCells f_H_keptCells n_H_spare f_H_spare n_O_bytes f_O_bytes n_P_bytes f_P_bytes n_P_ends f_P_ends n_P_words f_P_words n_S_bases f_S_bases n_S_closures f_S_closures n_S_floors f_S_floors n_S_handlerDepths f_S_handlerDepths n_S_handlerFrames f_S_handlerFrames n_S_handlerHeights f_S_handlerHeights n_S_handlerPlaces f_S_handlerPlaces n_S_returns f_S_returns n_S_values f_S_values → 7 * nm ≤ 100000 * i → i ≤ Ls + 7 → Ls + 7 < 7 * n + i → ∃ cc ss, lm_law_1 N Ls xs 2049 2048 (fun _ _ _ _ _ _ _ _ _ _ _ _ _ _ _ _ _ _ _ _ _ _ _ _ _ _ _ _ _ _ _ _ _ _ _ _ _ _ _ _ _ _ _ _ _ _ _ _ _ _ _ _ _ _ _ _ _ _ _ _ _ _ _ _ _ _ _ _ _ _ _ _ _ => some ((1 : Int32), 0, 0)) n (nI i) f_H_globals f_H_keptGlobals Q_size H_every H_fresh H_globalsUsed H_kept H_keptGlobalsUsed H_limit H_made H_madeLimit H_old H_oldLeadsToNew H_reachedFromGlobals H_reachedInAll H_spareUsed H_used M_depth M_depthLimit M_done M_fuel M_next M_place M_status M_ticks B_names O_size P_closed P_constants P_open P_size S_frames S_handlers S_top F I n_Q_links f_Q_links n_Q_pairs f_Q_pairs n_H_cells f_H_cells n_H_keptCells f_H_keptCells n_H_spare f_H_spare n_O_bytes f_O_bytes n_P_bytes f_P_bytes n_P_ends f_P_ends n_P_words f_P_words n_S_bases f_S_bases n_S_closures f_S_closures n_S_floors f_S_floors n_S_handlerDepths f_S_handlerDepths n_S_handlerFrames f_S_handlerFrames n_S_handlerHeights f_S_handlerHeights n_S_handlerPlaces f_S_handlerPlaces n_S_returns f_S_returns n_S_values f_S_values = some (1, cc, ss) ∧ ss + 150 * cc + potL n_S_values n_S_bases n_S_handlerFrames n_H_cells n_H_spare n_Q_links n_Q_pairs n_O_bytes n_P_words n_P_bytes n_P_ends n_H_keptCells ≤ 6000000 := by
  intro n
  induction n with
  | zero => intros; omega
  | succ n ih =>
    intro i nm f_H_globals f_H_keptGlobals Q_size H_every H_fresh H_globalsUsed H_kept H_keptGlobalsUsed H_limit H_made H_madeLimit H_old H_oldLeadsToNew H_reachedFromGlobals H_reachedInAll H_spareUsed H_used M_depth M_depthLimit M_done M_fuel M_next M_place M_status M_ticks B_names O_size P_closed P_constants P_open P_size S_frames S_handlers S_top F I n_Q_links f_Q_links n_Q_pairs f_Q_pairs n_H_cells f_H_cells n_H_keptCells f_H_keptCells n_H_spare f_H_spare n_O_bytes f_O_bytes n_P_bytes f_P_bytes n_P_ends f_P_ends n_P_words f_P_words n_S_bases f_S_bases n_S_closures f_S_closures n_S_floors f_S_floors n_S_handlerDepths f_S_handlerDepths n_S_handlerFrames f_S_handlerFrames n_S_handlerHeights f_S_handlerHeights n_S_handlerPlaces f_S_handlerPlaces n_S_returns f_S_returns n_S_values f_S_values hc hnm hi7 hfu
    by_cases hi : i + 7 ≤ Ls
    · have nx : ∀ (nm' : Nat), ∀ (f_H_globals : Nat → Int64) (f_H_keptGlobals : Nat → Int64) (Q_size : Int32) (H_every : Int32) (H_fresh : Int32) (H_globalsUsed : Int32) (H_kept : Int32) (H_keptGlobalsUsed : Int32) (H_limit : Int32) (H_made : Int32) (H_madeLimit : Int32) (H_old : Int32) (H_oldLeadsToNew : Int32) (H_reachedFromGlobals : Int32) (H_reachedInAll : Int32) (H_spareUsed : Int32) (H_used : Int32) (M_depth : Int32) (M_depthLimit : Int32) (M_done : Int32) (M_fuel : Int32) (M_next : Int32) (M_place : Int32) (M_status : Int32) (M_ticks : Int32) (B_names : Int32) (O_size : Int32) (P_closed : Int32) (P_constants : Int32) (P_open : Int32) (P_size : Int32) (S_frames : Int32) (S_handlers : Int32) (S_top : Int32) (F : Nat → Nat → Int32) (I : Nat → Int32) (n_Q_links : Nat) (f_Q_links : Nat → Int32) (n_Q_pairs : Nat) (f_Q_pairs : Nat → Int64) (n_H_cells : Nat) (f_H_cells : Nat → Int64) (n_H_keptCells : Nat) (f_H_keptCells : Nat → Int64) (n_H_spare : Nat) (f_H_spare : Nat → Int64) (n_O_bytes : Nat) (f_O_bytes : Nat → Int32) (n_P_bytes : Nat) (f_P_bytes : Nat → Int32) (n_P_ends : Nat) (f_P_ends : Nat → Int32) (n_P_words : Nat) (f_P_words : Nat → Int32) (n_S_bases : Nat) (f_S_bases : Nat → Int32) (n_S_closures : Nat) (f_S_closures : Nat → Int64) (n_S_floors : Nat) (f_S_floors : Nat → Int32) (n_S_handlerDepths : Nat) (f_S_handlerDepths : Nat → Int32) (n_S_handlerFrames : Nat) (f_S_handlerFrames : Nat → Int32) (n_S_handlerHeights : Nat) (f_S_handlerHeights : Nat → Int32) (n_S_handlerPlaces : Nat) (f_S_handlerPlaces : Nat → Int32) (n_S_returns : Nat) (f_S_returns : Nat → Int32) (n_S_values : Nat) (f_S_values : Nat → Int64), cR nm' f_H_globals f_H_keptGlobals Q_size H_every H_fresh H_globalsUsed H_kept H_keptGlobalsUsed H_limit H_made H_madeLimit H_old H_oldLeadsToNew H_reachedFromGlobals H_reachedInAll H_spareUsed H_used M_depth M_depthLimit M_done M_fuel M_next M_place M_status M_ticks B_names O_size P_closed P_constants P_open P_size S_frames S_handlers S_top F I n_Q_links f_Q_links n_Q_pairs f_Q_pairs n_H_cells f_H_cells n_H_keptCells f_H_keptCells n_H_spare f_H_spare n_O_bytes f_O_bytes n_P_bytes f_P_bytes n_P_ends f_P_ends n_P_words f_P_words n_S_bases f_S_bases n_S_closures f_S_closures n_S_floors f_S_floors n_S_handlerDepths f_S_handlerDepths n_S_handlerFrames f_S_handlerFrames n_S_handlerHeights f_S_handlerHeights n_S_handlerPlaces f_S_handlerPlaces n_S_returns f_S_returns n_S_values f_S_values → nm' ≤ nm + 100000 → ∃ cc ss, lm_law_1 N Ls xs 2049 2048 (fun _ _ _ _ _ _ _ _ _ _ _ _ _ _ _ _ _ _ _ _ _ _ _ _ _ _ _ _ _ _ _ _ _ _ _ _ _ _ _ _ _ _ _ _ _ _ _ _ _ _ _ _ _ _ _ _ _ _ _ _ _ _ _ _ _ _ _ _ _ _ _ _ _ => some ((1 : Int32), 0, 0)) n (nI (i + 7)) f_H_globals f_H_keptGlobals Q_size H_every H_fresh H_globalsUsed H_kept H_keptGlobalsUsed H_limit H_made H_madeLimit H_old H_oldLeadsToNew H_reachedFromGlobals H_reachedInAll H_spareUsed H_used M_depth M_depthLimit M_done M_fuel M_next M_place M_status M_ticks B_names O_size P_closed P_constants P_open P_size S_frames S_handlers S_top F I n_Q_links f_Q_links n_Q_pairs f_Q_pairs n_H_cells f_H_cells n_H_keptCells f_H_keptCells n_H_spare f_H_spare n_O_bytes f_O_bytes n_P_bytes f_P_bytes n_P_ends f_P_ends n_P_words f_P_words n_S_bases f_S_bases n_S_closures f_S_closures n_S_floors f_S_floors n_S_handlerDepths f_S_handlerDepths n_S_handlerFrames f_S_handlerFrames n_S_handlerHeights f_S_handlerHeights n_S_handlerPlaces f_S_handlerPlaces n_S_returns f_S_returns n_S_values f_S_values = some (1, cc, ss) ∧ ss + 150 * cc + potL n_S_values n_S_bases n_S_handlerFrames n_H_cells n_H_spare n_Q_links n_Q_pairs n_O_bytes n_P_words n_P_bytes n_P_ends n_H_keptCells ≤ 6000000 := fun nm' f_H_globals f_H_keptGlobals Q_size H_every H_fresh H_globalsUsed H_kept H_keptGlobalsUsed H_limit H_made H_madeLimit H_old H_oldLeadsToNew H_reachedFromGlobals H_reachedInAll H_spareUsed H_used M_depth M_depthLimit M_done M_fuel M_next M_place M_status M_ticks B_names O_size P_closed P_constants P_open P_size S_frames S_handlers S_top F I n_Q_links f_Q_links n_Q_pairs f_Q_pairs n_H_cells f_H_cells n_H_keptCells f_H_keptCells n_H_spare f_H_spare n_O_bytes f_O_bytes n_P_bytes f_P_bytes n_P_ends f_P_ends n_P_words f_P_words n_S_bases f_S_bases n_S_closures f_S_closures n_S_floors f_S_floors n_S_handlerDepths f_S_handlerDepths n_S_handlerFrames f_S_handlerFrames n_S_handlerHeights f_S_handlerHeights n_S_handlerPlaces f_S_handlerPlaces n_S_returns f_S_returns n_S_values f_S_values c b => ih (i + 7) nm' f_H_globals f_H_keptGlobals Q_size H_every H_fresh H_globalsUsed H_kept H_keptGlobalsUsed H_limit H_made H_madeLimit H_old H_oldLeadsToNew H_reachedFromGlobals H_reachedInAll H_spareUsed H_used M_depth M_depthLimit M_done M_fuel M_next M_place M_status M_ticks B_names O_size P_closed P_constants P_open P_size S_frames S_handlers S_top F I n_Q_links f_Q_links n_Q_pairs f_Q_pairs n_H_cells f_H_cells n_H_keptCells f_H_keptCells n_H_spare f_H_spare n_O_bytes f_O_bytes n_P_bytes f_P_bytes n_P_ends f_P_ends n_P_words f_P_words n_S_bases f_S_bases n_S_closures f_S_closures n_S_floors f_S_floors n_S_handlerDepths f_S_handlerDepths n_S_handlerFrames f_S_handlerFrames n_S_handlerHeights f_S_handlerHeights n_S_handlerPlaces f_S_handlerPlaces n_S_returns f_S_returns n_S_values f_S_values c (by omega) (by omega) (by omega)
      rw [lm_law_1, if_neg (lt7_f hLs (by omega) hi), if_neg (show ¬ (nI i < 0 ∨ Ls ≤ (nI i).toNatClampNeg) from fun h => h.elim (nI_pos (by omega)) (fun h => by rw [q_cl (by omega)] at h; omega)), q_cl (by omega)]
      by_cases o0 : xs i &&& 15 = 0
      · rw [if_pos o0]
        have q := lw_op (n := n) (cs_0 (xs := xs) hN hi hLs (by omega) hc) nx
        exact q
      · rw [if_neg o0]
        by_cases o1 : xs i &&& 15 = 1
        · rw [if_pos o1]
          have q := lw_op (n := n) (cs_1 (xs := xs) hN hi hLs (by omega) hc) nx
          exact q
        · rw [if_neg o1]
          by_cases o2 : xs i &&& 15 = 2
          · rw [if_pos o2]
            have q := lw_op (n := n) (cs_2 (xs := xs) hN hi hLs (by omega) hc) nx
            exact q
          · rw [if_neg o2]
            by_cases o3 : xs i &&& 15 = 3
            · rw [if_pos o3]
              have q := lw_op (n := n) (cs_3 hN hi hLs (by omega) hc) nx
              exact q
            · rw [if_neg o3]
              by_cases o4 : xs i &&& 15 = 4
              · rw [if_pos o4]
                have q := lw_op (n := n) (cs_4 (xs := xs) hN hi hLs (by omega) hc) nx
                exact q
              · rw [if_neg o4]
                by_cases o5 : xs i &&& 15 = 5
                · rw [if_pos o5]
                  have q := lw_op (n := n) (cs_5 (xs := xs) hN hi hLs (by omega) hc) nx
                  exact q
                · rw [if_neg o5]
                  by_cases o6 : xs i &&& 15 = 6
                  · rw [if_pos o6]
                    have q := lw_op (n := n) (cs_6 (xs := xs) hN hi hLs (by omega) hc) nx
                    exact q
                  · rw [if_neg o6]
                    by_cases o7 : xs i &&& 15 = 7
                    · rw [if_pos o7]
                      have q := lw_op (n := n) (cs_7 (xs := xs) hN hi hLs (by omega) hc) nx
                      exact q
                    · rw [if_neg o7]
                      by_cases o8 : xs i &&& 15 = 8
                      · rw [if_pos o8]
                        have q := lw_op (n := n) (cs_8 (xs := xs) hN hi hLs (by omega) hc) nx
                        exact q
                      · rw [if_neg o8]
                        by_cases o9 : xs i &&& 15 = 9
                        · rw [if_pos o9]
                          have q := lw_op (n := n) (cs_9 (xs := xs) hN hi hLs (by omega) hc) nx
                          exact q
                        · rw [if_neg o9]
                          by_cases o10 : xs i &&& 15 = 10
                          · rw [if_pos o10]
                            have q := lw_op (n := n) (cs_10 (xs := xs) hN hi hLs (by omega) hc) nx
                            exact q
                          · rw [if_neg o10]
                            by_cases o11 : xs i &&& 15 = 11
                            · rw [if_pos o11]
                              have q := lw_op (n := n) (cs_11 (xs := xs) hN hi hLs (by omega) hc) nx
                              exact q
                            · rw [if_neg o11]
                              by_cases o12 : xs i &&& 15 = 12
                              · rw [if_pos o12]
                                have q := lw_op (n := n) (cs_12 hN hi hLs (by omega) hc) nx
                                exact q
                              · rw [if_neg o12]
                                by_cases o13 : xs i &&& 15 = 13
                                · rw [if_pos o13]
                                  have q := lw_op (n := n) (cs_13 hN hi hLs (by omega) hc) nx
                                  exact q
                                · rw [if_neg o13]
                                  by_cases o14 : xs i &&& 15 = 14
                                  · rw [if_pos o14]
                                    have q := lw_op (n := n) (cs_14 hN hi hLs (by omega) hc) nx
                                    exact q
                                  · rw [if_neg o14]
                                    by_cases o15 : xs i &&& 15 = 15
                                    · rw [if_pos o15]
                                      have q := lw_op (n := n) (cs_15 (xs := xs) hN hi hLs (by omega) hc) nx
                                      exact q
                                    · rw [if_neg o15]
                                      rw [show nI i + 7 = nI (i + 7) from q_add i 7]
                                      exact nx nm f_H_globals f_H_keptGlobals Q_size H_every H_fresh H_globalsUsed H_kept H_keptGlobalsUsed H_limit H_made H_madeLimit H_old H_oldLeadsToNew H_reachedFromGlobals H_reachedInAll H_spareUsed H_used M_depth M_depthLimit M_done M_fuel M_next M_place M_status M_ticks B_names O_size P_closed P_constants P_open P_size S_frames S_handlers S_top F I n_Q_links f_Q_links n_Q_pairs f_Q_pairs n_H_cells f_H_cells n_H_keptCells f_H_keptCells n_H_spare f_H_spare n_O_bytes f_O_bytes n_P_bytes f_P_bytes n_P_ends f_P_ends n_P_words f_P_words n_S_bases f_S_bases n_S_closures f_S_closures n_S_floors f_S_floors n_S_handlerDepths f_S_handlerDepths n_S_handlerFrames f_S_handlerFrames n_S_handlerHeights f_S_handlerHeights n_S_handlerPlaces f_S_handlerPlaces n_S_returns f_S_returns n_S_values f_S_values hc (by omega)
    · refine ⟨0, 0, ?_, by have := pot_max hc; omega⟩
      rw [lm_law_1, if_pos (lt7_t hLs (by omega) (by omega))]
end LW
