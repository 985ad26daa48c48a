/-! Primitives 30 and 29: a part of a string, a string of one byte -/
section SB
variable {N : Nat}
variable {nk : Nat → Nat} {nm : Nat} {nid : Nat} {G : Nat → GO} {lE : List Nat} {gg : Nat → AV} {t : Nat} {gs : Nat → AV} {fr : Nat} {gc : Nat → AV} {hn : Nat} {gb : Nat → Nat} {gf : Nat → Nat} {gr : Nat → Int32} {hF : Nat → Nat} {hH : Nat → Nat} {hP : Nat → Int32} {hD : Nat → Int32} {lR : List Nat} {P_size : Int32} {P_constants : Int32} {P_closed : Int32} {P_open : Int32} {O_size : Int32} {S_top : Int32} {S_frames : Int32} {S_handlers : Int32} {H_globalsUsed : Int32} {H_used : Int32} {H_spareUsed : Int32} {H_old : Int32} {H_oldLeadsToNew : Int32} {H_limit : Int32} {H_every : Int32} {H_fresh : Int32} {H_made : Int32} {H_madeLimit : Int32} {H_reachedFromGlobals : Int32} {H_reachedInAll : Int32} {H_keptGlobalsUsed : Int32} {H_kept : Int32} {B_names : Int32} {Q_size : Int32} {M_status : Int32} {M_place : Int32} {M_next : Int32} {M_fuel : Int32} {M_ticks : Int32} {M_depth : Int32} {M_depthLimit : Int32} {M_done : Int32} {n_P_words : Nat} {f_P_words : Nat → Int32} {n_P_bytes : Nat} {f_P_bytes : Nat → Int32} {n_P_ends : Nat} {f_P_ends : Nat → Int32} {n_O_bytes : Nat} {f_O_bytes : Nat → Int32} {n_S_values : Nat} {f_S_values : Nat → Int64} {n_S_bases : Nat} {f_S_bases : Nat → Int32} {n_S_floors : Nat} {f_S_floors : Nat → Int32} {n_S_returns : Nat} {f_S_returns : Nat → Int32} {n_S_closures : Nat} {f_S_closures : Nat → Int64} {n_S_handlerFrames : Nat} {f_S_handlerFrames : Nat → Int32} {n_S_handlerPlaces : Nat} {f_S_handlerPlaces : Nat → Int32} {n_S_handlerHeights : Nat} {f_S_handlerHeights : Nat → Int32} {n_S_handlerDepths : Nat} {f_S_handlerDepths : Nat → Int32} {n_H_globals : Nat} {f_H_globals : Nat → Int64} {n_H_cells : Nat} {f_H_cells : Nat → Int64} {n_H_spare : Nat} {f_H_spare : Nat → Int64} {n_Q_links : Nat} {f_Q_links : Nat → Int32} {n_Q_pairs : Nat} {f_Q_pairs : Nat → Int64} {I : Nat → Int32} {F : Nat → Nat → Int32}
theorem sub_le {a b c : Nat} (ha : a < 2147483648) (hb : b < 2147483648) (hc : c < 2147483648) (h : lg_cmp ((nI a).toInt64 + (nI b).toInt64) (nI c).toInt64 ≤ 0) : a + b ≤ c := by
  have h := (lg_cmp_le _ _).mp h
  rw [q_l ha, q_l hb, q_l hc, Int64.le_iff_toInt_le, Int64.toInt_add, pf_lI (by omega), pf_lI (by omega), pf_lI (by omega), Int.bmod_eq_of_le (by omega) (by omega)] at h
  omega
theorem sub_G1 {w1 w0 : Int64} {v w : Int32} (h1 : m_Stacks_peek N S_top S_frames S_handlers n_S_values f_S_values 1 = some w1) (h2 : m_Value_number N w1 = some v) (h3 : m_Stacks_peek N S_top S_frames S_handlers n_S_values f_S_values 0 = some w0) (h4 : m_Value_number N w0 = some w) (h5 : v < 0) : m_Strings_substring N S_top S_frames S_handlers H_globalsUsed H_used H_spareUsed H_old H_oldLeadsToNew H_limit H_every H_fresh H_made H_madeLimit H_reachedFromGlobals H_reachedInAll H_keptGlobalsUsed H_kept n_S_values f_S_values n_S_closures f_S_closures n_H_globals f_H_globals n_H_cells f_H_cells n_H_spare f_H_spare = some ((nI 20, f_H_globals, f_S_closures, f_S_values, H_fresh, H_made, H_old, H_oldLeadsToNew, H_reachedFromGlobals, H_reachedInAll, H_spareUsed, H_used, S_top, n_H_cells, f_H_cells, n_H_spare, f_H_spare), 0, 0) := by
  unfold m_Strings_substring
  rw [h1, bind_s, h2, bind_s, h3, bind_s, h4, bind_s, if_pos h5]
  rfl
theorem sub_G2 {w1 w0 : Int64} {v w : Int32} (h1 : m_Stacks_peek N S_top S_frames S_handlers n_S_values f_S_values 1 = some w1) (h2 : m_Value_number N w1 = some v) (h3 : m_Stacks_peek N S_top S_frames S_handlers n_S_values f_S_values 0 = some w0) (h4 : m_Value_number N w0 = some w) (h5 : ¬ v < 0) (h6 : w < 0) : m_Strings_substring N S_top S_frames S_handlers H_globalsUsed H_used H_spareUsed H_old H_oldLeadsToNew H_limit H_every H_fresh H_made H_madeLimit H_reachedFromGlobals H_reachedInAll H_keptGlobalsUsed H_kept n_S_values f_S_values n_S_closures f_S_closures n_H_globals f_H_globals n_H_cells f_H_cells n_H_spare f_H_spare = some ((nI 20, f_H_globals, f_S_closures, f_S_values, H_fresh, H_made, H_old, H_oldLeadsToNew, H_reachedFromGlobals, H_reachedInAll, H_spareUsed, H_used, S_top, n_H_cells, f_H_cells, n_H_spare, f_H_spare), 0, 0) := by
  unfold m_Strings_substring
  rw [h1, bind_s, h2, bind_s, h3, bind_s, h4, bind_s, if_neg h5, if_pos h6]
  rfl
theorem sub_G3 {w2 w1 w0 : Int64} {v w n2 : Int32} (h1 : m_Stacks_peek N S_top S_frames S_handlers n_S_values f_S_values 1 = some w1) (h2 : m_Value_number N w1 = some v) (h3 : m_Stacks_peek N S_top S_frames S_handlers n_S_values f_S_values 0 = some w0) (h4 : m_Value_number N w0 = some w) (h5 : ¬ v < 0) (h6 : ¬ w < 0) (h7 : m_Stacks_peek N S_top S_frames S_handlers n_S_values f_S_values 2 = some w2) (h8 : m_Heap_told N H_globalsUsed H_used H_spareUsed H_old H_oldLeadsToNew H_limit H_every H_fresh H_made H_madeLimit H_reachedFromGlobals H_reachedInAll H_keptGlobalsUsed H_kept n_H_cells f_H_cells w2 = some n2) (h9 : ¬ lg_cmp (v.toInt64 + w.toInt64) n2.toInt64 ≤ 0) : m_Strings_substring N S_top S_frames S_handlers H_globalsUsed H_used H_spareUsed H_old H_oldLeadsToNew H_limit H_every H_fresh H_made H_madeLimit H_reachedFromGlobals H_reachedInAll H_keptGlobalsUsed H_kept n_S_values f_S_values n_S_closures f_S_closures n_H_globals f_H_globals n_H_cells f_H_cells n_H_spare f_H_spare = some ((nI 20, f_H_globals, f_S_closures, f_S_values, H_fresh, H_made, H_old, H_oldLeadsToNew, H_reachedFromGlobals, H_reachedInAll, H_spareUsed, H_used, S_top, n_H_cells, f_H_cells, n_H_spare, f_H_spare), 0, 0) := by
  unfold m_Strings_substring
  rw [h1, bind_s, h2, bind_s, h3, bind_s, h4, bind_s, if_neg h5, if_neg h6, h7, bind_s, h8, bind_s, if_neg h9]
  rfl
theorem sub_0 {w2 w1 w0 : Int64} {v w n2 sz : Int32} {g' cl' va' c' sp' : Nat → Int64} {fresh' made' old' olt' rG' rA' su' used' : Int32} {nC' nSp' cc ss : Nat} (h1 : m_Stacks_peek N S_top S_frames S_handlers n_S_values f_S_values 1 = some w1) (h2 : m_Value_number N w1 = some v) (h3 : m_Stacks_peek N S_top S_frames S_handlers n_S_values f_S_values 0 = some w0) (h4 : m_Value_number N w0 = some w) (h5 : ¬ v < 0) (h6 : ¬ w < 0) (h7 : m_Stacks_peek N S_top S_frames S_handlers n_S_values f_S_values 2 = some w2) (h8 : m_Heap_told N H_globalsUsed H_used H_spareUsed H_old H_oldLeadsToNew H_limit H_every H_fresh H_made H_madeLimit H_reachedFromGlobals H_reachedInAll H_keptGlobalsUsed H_kept n_H_cells f_H_cells w2 = some n2) (h9 : lg_cmp (v.toInt64 + w.toInt64) n2.toInt64 ≤ 0) (h10 : m_Value_cellsOfString N w = some sz) (h11 : m_Heap_ask N S_top S_frames S_handlers H_globalsUsed H_used H_spareUsed H_old H_oldLeadsToNew H_limit H_every H_fresh H_made H_madeLimit H_reachedFromGlobals H_reachedInAll H_keptGlobalsUsed H_kept n_S_values f_S_values n_S_closures f_S_closures n_H_globals f_H_globals n_H_cells f_H_cells n_H_spare f_H_spare sz sz = some ((0, g', cl', va', fresh', made', old', olt', rG', rA', su', used', nC', c', nSp', sp'), cc, ss)) :
    m_Strings_substring N S_top S_frames S_handlers H_globalsUsed H_used H_spareUsed H_old H_oldLeadsToNew H_limit H_every H_fresh H_made H_madeLimit H_reachedFromGlobals H_reachedInAll H_keptGlobalsUsed H_kept n_S_values f_S_values n_S_closures f_S_closures n_H_globals f_H_globals n_H_cells f_H_cells n_H_spare f_H_spare = some ((nI 3, g', cl', va', fresh', made', old', olt', rG', rA', su', used', S_top, nC', c', nSp', sp'), cc, ss) := by
  unfold m_Strings_substring
  rw [h1, bind_s, h2, bind_s, h3, bind_s, h4, bind_s, if_neg h5, if_neg h6, h7, bind_s, h8, bind_s, if_pos h9, h10, bind_s, h11, bind_s]
  dsimp only
  rw [if_pos rfl, tk_s, Nat.zero_add, Nat.zero_add]
  rfl
theorem sub_1 {w2 w1 w0 v2 wo : Int64} {v w n2 sz a2 u f1 u1 st2 top2 : Int32} {g' cl' va' c' sp' c1 c2 va2 : Nat → Int64} {fresh' made' old' olt' rG' rA' su' used' : Int32} {nC' nSp' cc ss : Nat} (h1 : m_Stacks_peek N S_top S_frames S_handlers n_S_values f_S_values 1 = some w1) (h2 : m_Value_number N w1 = some v) (h3 : m_Stacks_peek N S_top S_frames S_handlers n_S_values f_S_values 0 = some w0) (h4 : m_Value_number N w0 = some w) (h5 : ¬ v < 0) (h6 : ¬ w < 0) (h7 : m_Stacks_peek N S_top S_frames S_handlers n_S_values f_S_values 2 = some w2) (h8 : m_Heap_told N H_globalsUsed H_used H_spareUsed H_old H_oldLeadsToNew H_limit H_every H_fresh H_made H_madeLimit H_reachedFromGlobals H_reachedInAll H_keptGlobalsUsed H_kept n_H_cells f_H_cells w2 = some n2) (h9 : lg_cmp (v.toInt64 + w.toInt64) n2.toInt64 ≤ 0) (h10 : m_Value_cellsOfString N w = some sz) (h11 : m_Heap_ask N S_top S_frames S_handlers H_globalsUsed H_used H_spareUsed H_old H_oldLeadsToNew H_limit H_every H_fresh H_made H_madeLimit H_reachedFromGlobals H_reachedInAll H_keptGlobalsUsed H_kept n_S_values f_S_values n_S_closures f_S_closures n_H_globals f_H_globals n_H_cells f_H_cells n_H_spare f_H_spare sz sz = some ((1, g', cl', va', fresh', made', old', olt', rG', rA', su', used', nC', c', nSp', sp'), cc, ss))
    (h12 : m_Heap_layString N H_globalsUsed used' su' old' olt' H_limit H_every fresh' made' H_madeLimit rG' rA' H_keptGlobalsUsed H_kept nC' c' w = some (u, c1, f1, u1)) (h13 : m_Stacks_peek N S_top S_frames S_handlers n_S_values va' 2 = some v2) (h14 : m_Value_number N v2 = some a2)
    (h15 : m_Strings_copyBytes N H_globalsUsed u1 su' old' olt' H_limit H_every f1 made' H_madeLimit rG' rA' H_keptGlobalsUsed H_kept nC' c1 a2 v w u 0 = some c2) (h16 : m_Value_object N 6 u = some wo) (h17 : m_Stacks_replace N S_top S_frames S_handlers n_S_values va' 3 wo = some (st2, va2, top2)) :
    m_Strings_substring N S_top S_frames S_handlers H_globalsUsed H_used H_spareUsed H_old H_oldLeadsToNew H_limit H_every H_fresh H_made H_madeLimit H_reachedFromGlobals H_reachedInAll H_keptGlobalsUsed H_kept n_S_values f_S_values n_S_closures f_S_closures n_H_globals f_H_globals n_H_cells f_H_cells n_H_spare f_H_spare = some ((st2, g', cl', va2, f1, made', old', olt', rG', rA', su', u1, top2, nC', c2, nSp', sp'), cc, ss) := by
  unfold m_Strings_substring
  rw [h1, bind_s, h2, bind_s, h3, bind_s, h4, bind_s, if_neg h5, if_neg h6, h7, bind_s, h8, bind_s, if_pos h9, h10, bind_s, h11, bind_s]
  dsimp only
  rw [if_neg (by decide), h12, bind_s]
  dsimp only
  rw [h13, bind_s, h14, bind_s, h15, bind_s, h16, bind_s, h17, bind_s]
  dsimp only
  rw [tk_s, Nat.zero_add, Nat.zero_add]
theorem slice_G1 {v w : Int32} (h1 : m_Model_scalar N I F 2 = some v) (h2 : m_Model_scalar N I F 1 = some w) (h3 : v < 0) : m_Model_slice N I F = m_Model_raiseGlobal N I F (nI 3) (nI 4) := by
  unfold m_Model_slice
  rw [h1, bind_s, h2, bind_s, if_pos h3]
  exact bind_3 _
theorem slice_G2 {v w : Int32} (h1 : m_Model_scalar N I F 2 = some v) (h2 : m_Model_scalar N I F 1 = some w) (h3 : ¬ v < 0) (h4 : w < 0) : m_Model_slice N I F = m_Model_raiseGlobal N I F (nI 3) (nI 4) := by
  unfold m_Model_slice
  rw [h1, bind_s, h2, bind_s, if_neg h3, if_pos h4]
  exact bind_3 _
theorem slice_G3 {v w a2 : Int32} (h1 : m_Model_scalar N I F 2 = some v) (h2 : m_Model_scalar N I F 1 = some w) (h3 : ¬ v < 0) (h4 : ¬ w < 0) (h5 : m_Model_scalar N I F 3 = some a2) (h6 : ¬ (a2 < 0 ∨ 131072 ≤ a2.toNatClampNeg)) (h7 : ¬ lg_cmp (v.toInt64 + w.toInt64) (F 1 a2.toNatClampNeg).toInt64 ≤ 0) : m_Model_slice N I F = m_Model_raiseGlobal N I F (nI 3) (nI 4) := by
  unfold m_Model_slice
  rw [h1, bind_s, h2, bind_s, if_neg h3, if_neg h4, h5, bind_s, if_neg h6, if_neg h7]
  exact bind_3 _
theorem slice_0 {v w a2 sz : Int32} {F' : Nat → Nat → Int32} {I' : Nat → Int32} (h1 : m_Model_scalar N I F 2 = some v) (h2 : m_Model_scalar N I F 1 = some w) (h3 : ¬ v < 0) (h4 : ¬ w < 0) (h5 : m_Model_scalar N I F 3 = some a2) (h6 : ¬ (a2 < 0 ∨ 131072 ≤ a2.toNatClampNeg)) (h7 : lg_cmp (v.toInt64 + w.toInt64) (F 1 a2.toNatClampNeg).toInt64 ≤ 0) (h8 : 1 + (w + 3) / 4 = sz) (h9 : m_Model_makes N I F sz = some (0, F', I')) : m_Model_slice N I F = some (nI 3, F', I') := by
  unfold m_Model_slice
  rw [h1, bind_s, h2, bind_s, if_neg h3, if_neg h4, h5, bind_s, if_neg h6, if_pos h7, h8, h9, bind_s]
  dsimp only
  rw [if_pos rfl]
  rfl
theorem slice_1 {v w a2 sz u n1 : Int32} {F1 F2 F3 F4 : Nat → Nat → Int32} {I1 I2 I4 : Nat → Int32} (h1 : m_Model_scalar N I F 2 = some v) (h2 : m_Model_scalar N I F 1 = some w) (h3 : ¬ v < 0) (h4 : ¬ w < 0) (h5 : m_Model_scalar N I F 3 = some a2) (h6 : ¬ (a2 < 0 ∨ 131072 ≤ a2.toNatClampNeg)) (h7 : lg_cmp (v.toInt64 + w.toInt64) (F 1 a2.toNatClampNeg).toInt64 ≤ 0) (h8 : 1 + (w + 3) / 4 = sz) (h9 : m_Model_makes N I F sz = some (1, F1, I1)) (h10 : m_Model_string N I1 F1 w = some (u, F2, I2)) (h11 : ∀ (ζ : Type) (k : Int32 → (Nat → Nat → Int32) → Option ζ), lm_Model_slice_1 N v w u I2 k N 0 F2 = k n1 F3) (h12 : m_Model_give N I2 F3 3 2 u = some (nI 5, F4, I4)) : m_Model_slice N I F = some (nI 5, F4, upd I4 35 (I4 35 + nI 2)) := by
  unfold m_Model_slice
  rw [h1, bind_s, h2, bind_s, if_neg h3, if_neg h4, h5, bind_s, if_neg h6, if_pos h7, h8, h9, bind_s]
  dsimp only
  rw [if_neg (by decide), h10, bind_s]
  dsimp only
  rw [h11, h12, bind_s]
  dsimp only
  rw [next_5, bind_s]
  rfl
set_option maxRecDepth 4000 in
set_option maxHeartbeats 4000000 in
theorem pq_30 {rs} {p L o : Nat} {v w : Int32} (hN : 400000 ≤ N) (he : eR nk nm nid G lE gg t gs fr gc hn gb gf gr hF hH hP hD S_top S_frames S_handlers n_S_values f_S_values n_S_bases f_S_bases n_S_floors f_S_floors n_S_returns f_S_returns n_S_closures f_S_closures n_S_handlerFrames f_S_handlerFrames n_S_handlerPlaces f_S_handlerPlaces n_S_handlerHeights f_S_handlerHeights n_S_handlerDepths f_S_handlerDepths H_globalsUsed H_used H_old H_oldLeadsToNew f_H_globals n_H_cells f_H_cells n_H_spare) (hr : rR nk nm nid G lR gg t gs fr gc hn gb gf gr hF hH hP hD I F) (hx : xR nm M_fuel M_ticks H_made M_depth B_names O_size n_O_bytes f_O_bytes n_Q_links f_Q_links n_Q_pairs n_H_cells I F) (h35 : I 35 = nI p) (h43 : I 43 = nI L) (hL : L ≤ 131072) (hkt : gf (fr - 1) + 3 ≤ t) (hv2 : gs (t - 3) = vO o) (hv1 : gs (t - 2) = vS v) (hv0 : gs (t - 1) = vS w) (hK : gK G o = 6)
    (hfit : m_Machine_primitiveFits N S_top S_frames S_handlers M_status (nI p) (nI (p + 2)) M_fuel M_ticks M_depth (I 45) M_done n_S_values f_S_values n_S_floors f_S_floors (nI 30) = some (nI 1)) (hR : rs = m_Model_slice N I F) :
    opR nm n_H_cells I F (potE n_S_values n_S_bases n_S_handlerFrames n_H_cells n_H_spare n_Q_links n_Q_pairs n_O_bytes) (m_Machine_perform N P_size P_constants P_closed P_open O_size S_top S_frames S_handlers H_globalsUsed H_used H_spareUsed H_old H_oldLeadsToNew (nI L) H_every H_fresh H_made (I 44) H_reachedFromGlobals H_reachedInAll H_keptGlobalsUsed H_kept B_names Q_size M_status (nI p) (nI (p + 2)) M_fuel M_ticks M_depth (I 45) M_done n_P_words f_P_words n_P_bytes f_P_bytes n_P_ends f_P_ends n_O_bytes f_O_bytes n_S_values f_S_values n_S_bases f_S_bases n_S_floors f_S_floors n_S_returns f_S_returns n_S_closures f_S_closures n_S_handlerFrames f_S_handlerFrames n_S_handlerPlaces f_S_handlerPlaces n_S_handlerHeights f_S_handlerHeights n_S_handlerDepths f_S_handlerDepths 2049 f_H_globals n_H_cells f_H_cells n_H_spare f_H_spare n_Q_links f_Q_links n_Q_pairs f_Q_pairs (nI 34) (nI 30)) rs := by
  obtain ⟨q1, q2, q3, qt, qs, qh, qb, qf, q4, q5, q6, q7, q8, q9, qx, qy, qz⟩ := frE he
  obtain ⟨y1, y2, y3, y4, y5⟩ := frR hr q1
  subst qt qs qh
  obtain ⟨hG, hT, hC, hH', hnn⟩ := eR_hp he
  have mE : o ∈ lE := by have := (vE he (k := t - 3) (by omega)).2; rw [hv2] at this; exact this
  have mR : o ∈ lR := by have := (vRr hr (k := t - 3) (by omega)).2.2; rw [hv2] at this; exact this
  have O1 := str_ok (hG.2 o mE).2.1 hK
  have pk2 := eR_peek (N := N) (k := 2) he (by omega)
  rw [show t - 1 - 2 = t - 3 by omega, hv2] at pk2
  have pk1 := eR_peek (N := N) (k := 1) he (by omega)
  rw [show t - 1 - 1 = t - 2 by omega, hv1] at pk1
  have pk0 := eR_peek (N := N) (k := 0) he (by omega)
  rw [Nat.sub_zero, hv0] at pk0
  have n1 : m_Value_number N (wE G lE (vS v)) = some v := nu_E (v := vS v) hG trivial hnn (by omega)
  have n0 : m_Value_number N (wE G lE (vS w)) = some w := nu_E (v := vS w) hG trivial hnn (by omega)
  have td := told_O (N := N) he mE
  rw [if_pos hK] at td
  have s3 := scalar_R (N := N) (d := 3) hr (by omega) (by omega) q3
  rw [hv2] at s3
  have s3 : m_Model_scalar N I F 3 = some (nI (adr (gZ G) lR o)) := s3
  have s2 := scalar_R (N := N) (d := 2) hr (by omega) (by omega) q3
  rw [hv1] at s2
  have s2 : m_Model_scalar N I F 2 = some v := s2
  have s1 := scalar_R (N := N) (d := 1) hr (by omega) (by omega) q3
  rw [hv0] at s1
  have s1 : m_Model_scalar N I F 1 = some w := s1
  obtain ⟨b1, f1⟩ := str_R hr mR hK
  have z1 := bd_n b1 (by omega)
  have hcl : F 1 (nI (adr (gZ G) lR o)).toNatClampNeg = nI (gC G o) := by rw [q_cl (by omega), f1]
  by_cases hv : v < 0
  · refine prG_op (N := N) (f_Q_pairs := f_Q_pairs) (f_H_spare := f_H_spare) (Q_size := Q_size) (H_fresh := H_fresh) (H_reachedFromGlobals := H_reachedFromGlobals) (H_reachedInAll := H_reachedInAll) (H_spareUsed := H_spareUsed) (H_limit := nI L) (H_every := H_every) (H_madeLimit := I 44) (H_keptGlobalsUsed := H_keptGlobalsUsed) (H_kept := H_kept) (M_status := M_status) (M_place := nI p) (M_depthLimit := I 45) (M_done := M_done) (g := 4) (q := 30) he hr hx h35 (by omega) (by omega) hkt ?_ ?_
    · exact pf34_G (by omega) (by omega) hfit (ap_30 (sub_G1 pk1 n1 pk0 n0 hv))
    · rw [hR]
      exact slice_G1 s2 s1 hv
  · by_cases hw : w < 0
    · refine prG_op (N := N) (f_Q_pairs := f_Q_pairs) (f_H_spare := f_H_spare) (Q_size := Q_size) (H_fresh := H_fresh) (H_reachedFromGlobals := H_reachedFromGlobals) (H_reachedInAll := H_reachedInAll) (H_spareUsed := H_spareUsed) (H_limit := nI L) (H_every := H_every) (H_madeLimit := I 44) (H_keptGlobalsUsed := H_keptGlobalsUsed) (H_kept := H_kept) (M_status := M_status) (M_place := nI p) (M_depthLimit := I 45) (M_done := M_done) (g := 4) (q := 30) he hr hx h35 (by omega) (by omega) hkt ?_ ?_
      · exact pf34_G (by omega) (by omega) hfit (ap_30 (sub_G2 pk1 n1 pk0 n0 hv hw))
      · rw [hR]
        exact slice_G2 s2 s1 hv hw
    · by_cases hc : lg_cmp (v.toInt64 + w.toInt64) (nI (gC G o)).toInt64 ≤ 0
      · obtain ⟨bg, hbg, rfl⟩ := nI_of hv
        obtain ⟨n, hn6, rfl⟩ := nI_of hw
        have hsum := sub_le hbg hn6 (by omega) hc
        have h65 : n ≤ 65535 := by omega
        have hcR : lg_cmp ((nI bg).toInt64 + (nI n).toInt64) (F 1 (nI (adr (gZ G) lR o)).toNatClampNeg).toInt64 ≤ 0 := by rw [hcl]; exact hc
        have hce := cells_E (N := N) h65
        obtain ⟨b, l', l2, g', cl', va', c', sp', fresh', made', old', olt', rG', rA', su', nC', nSp', cc, ss, I1, F1, a1, a2, a3, a4, a5, a6, a7, a8⟩ := room_ER (N := N) (H_spareUsed := H_spareUsed) (H_every := H_every) (H_fresh := H_fresh) (H_reachedFromGlobals := H_reachedFromGlobals) (H_reachedInAll := H_reachedInAll) (H_keptGlobalsUsed := H_keptGlobalsUsed) (H_kept := H_kept) (f_H_spare := f_H_spare) (n := 1 + (n + 3) / 4) hN he hr hx h43 hL (by omega) (by omega)
        rcases a8 with rfl | ⟨rfl, m1, m2⟩
        · refine no_op (f_Q_pairs := f_Q_pairs) (Q_size := Q_size) (fresh' := fresh') (rG' := rG') (rA' := rA') (su' := su') (sp' := sp') (p := p) a3 a4 a5 a6 a7 ?_ ?_
          · have h := sub_0 pk1 n1 pk0 n0 hv hw pk2 (td ..) hc hce a1
            exact pf34_S (by omega) (by decide) hfit (ap_30 h)
          · rw [hR]
            exact slice_0 s2 s1 hv hw s3 z1 hcR (cells_R h65) a2
        · obtain ⟨c1, l1, l3⟩ := layString_E (N := N) (c := c') (n := n) (by omega) m1 (eR_hp a3).2.2.1 h65
          obtain ⟨F2, t1, t2⟩ := string_R (N := N) (I := I1) (F := F1) (u := tot (gZ G) l2) (n := n) (by omega) a4.2.2.2.2.1 (by omega) h65
          have mE' : o ∈ l' := by have := (vE a3 (k := t - 3) (by omega)).2; rw [hv2] at this; exact this
          obtain ⟨B, hB1, hB2⟩ : ∃ B : Nat → Nat, (∀ i, i < n → B i = gB G o (bg + i)) ∧ (∀ i, n ≤ i → B i = 0) :=
            ⟨fun i => if i < n then gB G o (bg + i) else 0, fun i hi => if_pos hi, fun i hi => if_neg (by omega)⟩
          rw [← cut_0 B] at l3 t2
          obtain ⟨c2, k1, k2⟩ := copy_E (N := N) (bg := bg) (off := 0) (n := n) (M := n) (B := B) hN a3 mE' hK (by omega) (by omega) h65 (by omega) (fun i hi => by rw [Nat.zero_add]; exact hB1 i hi) l3
          rw [Nat.zero_add] at k2
          obtain ⟨F3, j1, j2⟩ := slice1 (N := N) (J := upd I1 3 (nI (tot (gZ G) l2 + (1 + (n + 3) / 4)))) (B := B) a4 (by rw [upd_n (by omega)]; exact a4.1.1) (by omega) q3 hv2 hK hsum (by omega) hB1 N 0 F2 (by omega) (by omega) t2
          rw [cut_n hB2] at k2 j2
          have pk2' := eR_peek (N := N) (k := 2) a3 (by omega)
          rw [show t - 1 - 2 = t - 3 by omega, hv2] at pk2'
          have nu1 : m_Value_number N (wE G l' (vO o)) = some (nI (adr (gZ G) l' o)) := nu_E (v := vO o) (eR_hp a3).1 mE' hnn (by have := eR_hp a3; omega)
          refine mkS_op (N := N) (f_Q_pairs := f_Q_pairs) (Q_size := Q_size) (fresh' := fresh' + nI (1 + (n + 3) / 4)) (rG' := rG') (rA' := rA') (su' := su') (sp' := sp') (k := 3) h35 a3 a4 a5 a6 a7 k2 j2 h65 m1 m2 (by omega) hkt ?_ ?_
          · intro h
            have hh := sub_1 pk1 n1 pk0 n0 hv hw pk2 (td ..) hc hce a1 (l1 ..) pk2' nu1 (k1 ..) (ob_E (K := 6) (by omega) (by have := eR_hp a3; omega)) h
            exact pf34_S (by omega) (by decide) hfit (ap_30 hh)
          · intro F4 I4 h
            rw [hR]
            exact slice_1 s2 s1 hv hw s3 z1 hcR (cells_R h65) a2 t1 j1 h
      · have hcR : ¬ lg_cmp (v.toInt64 + w.toInt64) (F 1 (nI (adr (gZ G) lR o)).toNatClampNeg).toInt64 ≤ 0 := by rw [hcl]; exact hc
        refine prG_op (N := N) (f_Q_pairs := f_Q_pairs) (f_H_spare := f_H_spare) (Q_size := Q_size) (H_fresh := H_fresh) (H_reachedFromGlobals := H_reachedFromGlobals) (H_reachedInAll := H_reachedInAll) (H_spareUsed := H_spareUsed) (H_limit := nI L) (H_every := H_every) (H_madeLimit := I 44) (H_keptGlobalsUsed := H_keptGlobalsUsed) (H_kept := H_kept) (M_status := M_status) (M_place := nI p) (M_depthLimit := I 45) (M_done := M_done) (g := 4) (q := 30) he hr hx h35 (by omega) (by omega) hkt ?_ ?_
        · exact pf34_G (by omega) (by omega) hfit (ap_30 (sub_G3 pk1 n1 pk0 n0 hv hw pk2 (td ..) hc))
        · rw [hR]
          exact slice_G3 s2 s1 hv hw s3 z1 hcR
/-- one byte -/
theorem isB_E {l : List Nat} {v : Int32} : m_Strings_isByte N (wE G l (vS v)) = some (nI (if v < 0 then 0 else if 255 < v then 0 else 1)) := by
  have h1 : m_Value_kind N (wE G l (vS v)) = some 0 := by
    show some (kdW (scW v)) = some (nI 0)
    rw [show scW v = wE (fun _ => (0, nI 0, 0, fun _ => vS (nI 0), fun _ => 0)) [] (vS v) from rfl, kd_wE (by show 0 < 8; omega)]
    rfl
  have h2 : m_Value_number N (wE G l (vS v)) = some v := by
    show some (nuW (scW v)) = some v
    rw [nu_sc]
  unfold m_Strings_isByte
  rw [h1, bind_s, if_pos rfl, h2, bind_s]
  by_cases c1 : v < 0
  · rw [if_pos c1, if_pos c1]
    rfl
  · rw [if_neg c1, if_neg c1, bind_s]
    by_cases c2 : 255 < v
    · rw [if_pos c2, if_pos c2]
      rfl
    · rw [if_neg c2, if_neg c2]
      rfl
theorem sgl_F {w0 : Int64} (h1 : m_Stacks_peek N S_top S_frames S_handlers n_S_values f_S_values 0 = some w0) (h2 : m_Strings_isByte N w0 = some 0) : m_Strings_single N S_top S_frames S_handlers H_globalsUsed H_used H_spareUsed H_old H_oldLeadsToNew H_limit H_every H_fresh H_made H_madeLimit H_reachedFromGlobals H_reachedInAll H_keptGlobalsUsed H_kept n_S_values f_S_values n_S_closures f_S_closures n_H_globals f_H_globals n_H_cells f_H_cells n_H_spare f_H_spare = some ((nI 4, f_H_globals, f_S_closures, f_S_values, H_fresh, H_made, H_old, H_oldLeadsToNew, H_reachedFromGlobals, H_reachedInAll, H_spareUsed, H_used, S_top, n_H_cells, f_H_cells, n_H_spare, f_H_spare), 0, 0) := by
  unfold m_Strings_single
  rw [h1, bind_s, h2, bind_s, if_pos rfl]
  rfl
theorem sgl_0 {w0 : Int64} {g' cl' va' c' sp' : Nat → Int64} {fresh' made' old' olt' rG' rA' su' used' : Int32} {nC' nSp' cc ss : Nat} (h1 : m_Stacks_peek N S_top S_frames S_handlers n_S_values f_S_values 0 = some w0) (h2 : m_Strings_isByte N w0 = some 1) (h3 : m_Heap_ask N S_top S_frames S_handlers H_globalsUsed H_used H_spareUsed H_old H_oldLeadsToNew H_limit H_every H_fresh H_made H_madeLimit H_reachedFromGlobals H_reachedInAll H_keptGlobalsUsed H_kept n_S_values f_S_values n_S_closures f_S_closures n_H_globals f_H_globals n_H_cells f_H_cells n_H_spare f_H_spare 2 2 = some ((0, g', cl', va', fresh', made', old', olt', rG', rA', su', used', nC', c', nSp', sp'), cc, ss)) : m_Strings_single N S_top S_frames S_handlers H_globalsUsed H_used H_spareUsed H_old H_oldLeadsToNew H_limit H_every H_fresh H_made H_madeLimit H_reachedFromGlobals H_reachedInAll H_keptGlobalsUsed H_kept n_S_values f_S_values n_S_closures f_S_closures n_H_globals f_H_globals n_H_cells f_H_cells n_H_spare f_H_spare = some ((nI 3, g', cl', va', fresh', made', old', olt', rG', rA', su', used', S_top, nC', c', nSp', sp'), cc, ss) := by
  unfold m_Strings_single
  rw [h1, bind_s, h2, bind_s, if_neg (by decide), h3, bind_s]
  dsimp only
  rw [if_pos rfl, tk_s, Nat.zero_add, Nat.zero_add]
  rfl
theorem sgl_1 {w0 v0 wo : Int64} {a0 u f1 u1 st2 top2 : Int32} {g' cl' va' c' sp' c1 c2 va2 : Nat → Int64} {fresh' made' old' olt' rG' rA' su' used' : Int32} {nC' nSp' cc ss : Nat} (h1 : m_Stacks_peek N S_top S_frames S_handlers n_S_values f_S_values 0 = some w0) (h2 : m_Strings_isByte N w0 = some 1) (h3 : m_Heap_ask N S_top S_frames S_handlers H_globalsUsed H_used H_spareUsed H_old H_oldLeadsToNew H_limit H_every H_fresh H_made H_madeLimit H_reachedFromGlobals H_reachedInAll H_keptGlobalsUsed H_kept n_S_values f_S_values n_S_closures f_S_closures n_H_globals f_H_globals n_H_cells f_H_cells n_H_spare f_H_spare 2 2 = some ((1, g', cl', va', fresh', made', old', olt', rG', rA', su', used', nC', c', nSp', sp'), cc, ss))
    (h4 : m_Heap_layString N H_globalsUsed used' su' old' olt' H_limit H_every fresh' made' H_madeLimit rG' rA' H_keptGlobalsUsed H_kept nC' c' 1 = some (u, c1, f1, u1)) (h5 : m_Stacks_peek N S_top S_frames S_handlers n_S_values va' 0 = some v0) (h6 : m_Value_number N v0 = some a0)
    (h7 : m_Heap_setByte N H_globalsUsed u1 su' old' olt' H_limit H_every f1 made' H_madeLimit rG' rA' H_keptGlobalsUsed H_kept nC' c1 u 0 a0 = some c2) (h8 : m_Value_object N 6 u = some wo) (h9 : m_Stacks_replace N S_top S_frames S_handlers n_S_values va' 1 wo = some (st2, va2, top2)) :
    m_Strings_single N S_top S_frames S_handlers H_globalsUsed H_used H_spareUsed H_old H_oldLeadsToNew H_limit H_every H_fresh H_made H_madeLimit H_reachedFromGlobals H_reachedInAll H_keptGlobalsUsed H_kept n_S_values f_S_values n_S_closures f_S_closures n_H_globals f_H_globals n_H_cells f_H_cells n_H_spare f_H_spare = some ((st2, g', cl', va2, f1, made', old', olt', rG', rA', su', u1, top2, nC', c2, nSp', sp'), cc, ss) := by
  unfold m_Strings_single
  rw [h1, bind_s, h2, bind_s, if_neg (by decide), h3, bind_s]
  dsimp only
  rw [if_neg (by decide), h4, bind_s]
  dsimp only
  rw [h5, bind_s, h6, bind_s, h7, bind_s, h8, bind_s, h9, bind_s]
  dsimp only
  rw [tk_s, Nat.zero_add, Nat.zero_add]
/-- the reference's primitives on one scalar behind the numbers -/
theorem ln_1 {ζ : Type} {z : Int32} {k : Int32 → Option ζ} : lm_Model_numbers_1 N I F (nI 1) z k = k z := if_neg (by decide)
theorem ln_2 {ζ : Type} {k : Int32 → Option ζ} : lm_Model_numbers_2 N (nI 1) k = k 1 := if_neg (by decide)
theorem nu_29 {v : Int32} (h1 : m_Model_scalar N I F 1 = some v) : m_Model_numbers N I F (nI 29) (nI 1) = if v < 0 then some (nI 4, F, I) else if v ≤ 255 then (m_Model_oneByte N I F v).bind fun (z31_1, z31_2, z31_3) => (m_Model_next N z31_3 z31_2 (nI 2) z31_1).bind fun (z32_1, z32_2) => some (z32_1, z31_2, z32_2) else some (nI 4, F, I) := by
  unfold m_Model_numbers
  rw [h1, bind_s, ln_1, ln_2, if_pos (show (5 : Int32) ≤ nI 29 by decide), if_neg (show ¬ nI 29 = 5 by decide), if_neg (show ¬ nI 29 = 6 by decide), if_neg (show ¬ nI 29 = 14 by decide), if_neg (show ¬ nI 29 = 15 by decide), if_neg (show ¬ nI 29 = 26 by decide), if_pos (show nI 29 = 29 from rfl)]
  rfl
theorem one_0 {v : Int32} {F' : Nat → Nat → Int32} {I' : Nat → Int32} (h : m_Model_makes N I F 2 = some (0, F', I')) : m_Model_oneByte N I F v = some (nI 3, F', I') := by
  unfold m_Model_oneByte
  rw [h, bind_s]
  dsimp only
  rw [if_pos rfl]
  rfl
theorem one_1 {v u : Int32} {F1 F2 F3 F4 : Nat → Nat → Int32} {I1 I2 I4 : Nat → Int32} (h : m_Model_makes N I F 2 = some (1, F1, I1)) (h2 : m_Model_string N I1 F1 1 = some (u, F2, I2)) (h3 : m_Model_setByte N I2 F2 u 0 v = some F3) (h4 : m_Model_give N I2 F3 1 2 u = some (nI 5, F4, I4)) : m_Model_oneByte N I F v = some (nI 5, F4, I4) := by
  unfold m_Model_oneByte
  rw [h, bind_s]
  dsimp only
  rw [if_neg (by decide), h2, bind_s]
  dsimp only
  rw [h3, bind_s, h4, bind_s]
set_option maxRecDepth 4000 in
set_option maxHeartbeats 4000000 in
theorem pq_29 {rs} {p L : Nat} {v : Int32} (hN : 400000 ≤ N) (he : eR nk nm nid G lE gg t gs fr gc hn gb gf gr hF hH hP hD S_top S_frames S_handlers n_S_values f_S_values n_S_bases f_S_bases n_S_floors f_S_floors n_S_returns f_S_returns n_S_closures f_S_closures n_S_handlerFrames f_S_handlerFrames n_S_handlerPlaces f_S_handlerPlaces n_S_handlerHeights f_S_handlerHeights n_S_handlerDepths f_S_handlerDepths H_globalsUsed H_used H_old H_oldLeadsToNew f_H_globals n_H_cells f_H_cells n_H_spare) (hr : rR nk nm nid G lR gg t gs fr gc hn gb gf gr hF hH hP hD I F) (hx : xR nm M_fuel M_ticks H_made M_depth B_names O_size n_O_bytes f_O_bytes n_Q_links f_Q_links n_Q_pairs n_H_cells I F) (h35 : I 35 = nI p) (h43 : I 43 = nI L) (hL : L ≤ 131072) (hkt : gf (fr - 1) + 1 ≤ t) (hv0 : gs (t - 1) = vS v)
    (hfit : m_Machine_primitiveFits N S_top S_frames S_handlers M_status (nI p) (nI (p + 2)) M_fuel M_ticks M_depth (I 45) M_done n_S_values f_S_values n_S_floors f_S_floors (nI 29) = some (nI 1)) (hR : rs = m_Model_numbers N I F (nI 29) (nI 1)) :
    opR nm n_H_cells I F (potE n_S_values n_S_bases n_S_handlerFrames n_H_cells n_H_spare n_Q_links n_Q_pairs n_O_bytes) (m_Machine_perform N P_size P_constants P_closed P_open O_size S_top S_frames S_handlers H_globalsUsed H_used H_spareUsed H_old H_oldLeadsToNew (nI L) H_every H_fresh H_made (I 44) H_reachedFromGlobals H_reachedInAll H_keptGlobalsUsed H_kept B_names Q_size M_status (nI p) (nI (p + 2)) M_fuel M_ticks M_depth (I 45) M_done n_P_words f_P_words n_P_bytes f_P_bytes n_P_ends f_P_ends n_O_bytes f_O_bytes n_S_values f_S_values n_S_bases f_S_bases n_S_floors f_S_floors n_S_returns f_S_returns n_S_closures f_S_closures n_S_handlerFrames f_S_handlerFrames n_S_handlerPlaces f_S_handlerPlaces n_S_handlerHeights f_S_handlerHeights n_S_handlerDepths f_S_handlerDepths 2049 f_H_globals n_H_cells f_H_cells n_H_spare f_H_spare n_Q_links f_Q_links n_Q_pairs f_Q_pairs (nI 34) (nI 29)) rs := by
  obtain ⟨q1, q2, q3, qt, qs, qh, qb, qf, q4, q5, q6, q7, q8, q9, qx, qy, qz⟩ := frE he
  obtain ⟨y1, y2, y3, y4, y5⟩ := frR hr q1
  subst qt qs qh
  obtain ⟨hG, hT, hC, hH', hnn⟩ := eR_hp he
  have pk0 := eR_peek (N := N) (k := 0) he (by omega)
  rw [Nat.sub_zero, hv0] at pk0
  have s1 := scalar_R (N := N) (d := 1) hr (by omega) (by omega) q3
  rw [hv0] at s1
  have s1 : m_Model_scalar N I F 1 = some v := s1
  have hiB := isB_E (N := N) (G := G) (l := lE) (v := v)
  rw [nu_29 s1] at hR
  by_cases hv : v < 0
  · rw [if_pos hv] at hR hiB
    exact opR_same (M_next := nI (p + 2)) (st := 4) (by omega) he hr hx (pf34_S (by omega) (by decide) hfit (ap_29 (sgl_F pk0 hiB))) hR
  · rw [if_neg hv] at hR hiB
    by_cases hv2 : v ≤ 255
    · rw [if_pos hv2] at hR
      rw [if_neg (Int32.not_lt.mpr hv2)] at hiB
      obtain ⟨x, hx31, rfl⟩ := nI_of hv
      have hx256 : x ≤ 255 := by
        by_cases hh : x ≤ 255
        · exact hh
        · rw [show (255 : Int32) = nI 255 from rfl, q_le_f (by omega) (by omega)] at hv2
          exact hv2.elim
      obtain ⟨b, l', l2, g', cl', va', c', sp', fresh', made', old', olt', rG', rA', su', nC', nSp', cc, ss, I1, F1, a1, a2, a3, a4, a5, a6, a7, a8⟩ := room_ER (N := N) (H_spareUsed := H_spareUsed) (H_every := H_every) (H_fresh := H_fresh) (H_reachedFromGlobals := H_reachedFromGlobals) (H_reachedInAll := H_reachedInAll) (H_keptGlobalsUsed := H_keptGlobalsUsed) (H_kept := H_kept) (f_H_spare := f_H_spare) (n := 2) hN he hr hx h43 hL (by omega) (by omega)
      rcases a8 with rfl | ⟨rfl, m1, m2⟩
      · refine no_op (f_Q_pairs := f_Q_pairs) (Q_size := Q_size) (fresh' := fresh') (rG' := rG') (rA' := rA') (su' := su') (sp' := sp') (p := p) a3 a4 a5 a6 a7 ?_ ?_
        · exact pf34_S (by omega) (by decide) hfit (ap_29 (sgl_0 pk0 hiB a1))
        · rw [hR, one_0 a2, bind_s]
          dsimp only
          rw [next_n _ (by omega) (by omega), bind_s]
      · obtain ⟨c1, l1, l3⟩ := layString_E (N := N) (c := c') (n := 1) (by omega) m1 (eR_hp a3).2.2.1 (by omega)
        obtain ⟨F2, t1, t2⟩ := string_R (N := N) (I := I1) (F := F1) (u := tot (gZ G) l2) (n := 1) (by omega) a4.2.2.2.2.1 m2 (by omega)
        obtain ⟨c2, k1, k2⟩ := setB_E (N := N) (k := 0) (x := nI x) l3 (by omega) (by omega) (by omega) (eR_hp a3).2.2.1 rfl
        obtain ⟨F3, j1, j2⟩ := setB_R (N := N) (I := upd I1 3 (nI (tot (gZ G) l2 + (1 + (1 + 3) / 4)))) (k := 0) (x := nI x) t2 (by omega) (by omega) (by omega) rfl
        have pk0' := eR_peek (N := N) (k := 0) a3 (by omega)
        rw [Nat.sub_zero, hv0] at pk0'
        have nu0 : m_Value_number N (wE G l' (vS (nI x))) = some (nI x) := nu_E (v := vS (nI x)) (eR_hp a3).1 trivial hnn (by have := eR_hp a3; omega)
        refine mkS_op (N := N) (f_Q_pairs := f_Q_pairs) (Q_size := Q_size) (fresh' := fresh' + nI (1 + (1 + 3) / 4)) (rG' := rG') (rA' := rA') (su' := su') (sp' := sp') (k := 1) h35 a3 a4 a5 a6 a7 k2 j2 (by omega) m1 m2 (by omega) hkt ?_ ?_
        · intro h
          exact pf34_S (by omega) (by decide) hfit (ap_29 (sgl_1 pk0 hiB a1 (l1 ..) pk0' nu0 (k1 ..) (ob_E (K := 6) (by omega) (by have := eR_hp a3; omega)) h))
        · intro F4 I4 h
          rw [hR, one_1 a2 t1 j1 h, bind_s]
          dsimp only
          rw [next_5, bind_s]
    · rw [if_neg hv2] at hR
      rw [if_pos (Int32.not_le.mp hv2)] at hiB
      exact opR_same (M_next := nI (p + 2)) (st := 4) (by omega) he hr hx (pf34_S (by omega) (by decide) hfit (ap_29 (sgl_F pk0 hiB))) hR
end SB
