/-! Primitives 28, 31, 39 and 32 to 36: a string's size, a byte of it, whether a scalar is a byte, the order of strings -/
section SZ
variable {N : Nat}
variable {nk : Nat → Nat} {nm : Nat} {nid : Nat} {G : Nat → GO} {lE : List Nat} {gg : Nat → AV} {t : Nat} {gs : Nat → AV} {fr : Nat} {gc : Nat → AV} {hn : Nat} {gb : Nat → Nat} {gf : Nat → Nat} {gr : Nat → Int32} {hF : Nat → Nat} {hH : Nat → Nat} {hP : Nat → Int32} {hD : Nat → Int32} {lR : List Nat} {P_size : Int32} {P_constants : Int32} {P_closed : Int32} {P_open : Int32} {O_size : Int32} {S_top : Int32} {S_frames : Int32} {S_handlers : Int32} {H_globalsUsed : Int32} {H_used : Int32} {H_spareUsed : Int32} {H_old : Int32} {H_oldLeadsToNew : Int32} {H_limit : Int32} {H_every : Int32} {H_fresh : Int32} {H_made : Int32} {H_madeLimit : Int32} {H_reachedFromGlobals : Int32} {H_reachedInAll : Int32} {H_keptGlobalsUsed : Int32} {H_kept : Int32} {B_names : Int32} {Q_size : Int32} {M_status : Int32} {M_place : Int32} {M_next : Int32} {M_fuel : Int32} {M_ticks : Int32} {M_depth : Int32} {M_depthLimit : Int32} {M_done : Int32} {n_P_words : Nat} {f_P_words : Nat → Int32} {n_P_bytes : Nat} {f_P_bytes : Nat → Int32} {n_P_ends : Nat} {f_P_ends : Nat → Int32} {n_O_bytes : Nat} {f_O_bytes : Nat → Int32} {n_S_values : Nat} {f_S_values : Nat → Int64} {n_S_bases : Nat} {f_S_bases : Nat → Int32} {n_S_floors : Nat} {f_S_floors : Nat → Int32} {n_S_returns : Nat} {f_S_returns : Nat → Int32} {n_S_closures : Nat} {f_S_closures : Nat → Int64} {n_S_handlerFrames : Nat} {f_S_handlerFrames : Nat → Int32} {n_S_handlerPlaces : Nat} {f_S_handlerPlaces : Nat → Int32} {n_S_handlerHeights : Nat} {f_S_handlerHeights : Nat → Int32} {n_S_handlerDepths : Nat} {f_S_handlerDepths : Nat → Int32} {n_H_globals : Nat} {f_H_globals : Nat → Int64} {n_H_cells : Nat} {f_H_cells : Nat → Int64} {n_H_spare : Nat} {f_H_spare : Nat → Int64} {n_Q_links : Nat} {f_Q_links : Nat → Int32} {n_Q_pairs : Nat} {f_Q_pairs : Nat → Int64} {I : Nat → Int32} {F : Nat → Nat → Int32}
theorem sc_s (x : Int32) : m_Value_scalar N x = some (scW x) := rfl
theorem ap_28 {w0 : Int64} {n0 st2 top2 : Int32} {va2 : Nat → Int64} (h1 : m_Stacks_peek N S_top S_frames S_handlers n_S_values f_S_values 0 = some w0) (h2 : m_Heap_told N H_globalsUsed H_used H_spareUsed H_old H_oldLeadsToNew H_limit H_every H_fresh H_made H_madeLimit H_reachedFromGlobals H_reachedInAll H_keptGlobalsUsed H_kept n_H_cells f_H_cells w0 = some n0) (h3 : m_Stacks_replace N S_top S_frames S_handlers n_S_values f_S_values 1 (scW n0) = some (st2, va2, top2)) : m_Strings_apply N O_size S_top S_frames S_handlers H_globalsUsed H_used H_spareUsed H_old H_oldLeadsToNew H_limit H_every H_fresh H_made H_madeLimit H_reachedFromGlobals H_reachedInAll H_keptGlobalsUsed H_kept n_O_bytes f_O_bytes n_S_values f_S_values n_S_closures f_S_closures n_H_globals f_H_globals n_H_cells f_H_cells n_H_spare f_H_spare (nI 28) = some ((st2, f_H_globals, f_S_closures, va2, H_fresh, H_made, H_old, H_oldLeadsToNew, H_reachedFromGlobals, H_reachedInAll, H_spareUsed, H_used, O_size, top2, n_H_cells, f_H_cells, n_H_spare, f_H_spare, n_O_bytes, f_O_bytes), 0, 0) := by
  unfold m_Strings_apply
  rw [if_neg (show ¬ nI 28 = 27 by decide), if_pos (show nI 28 = 28 from rfl), h1, bind_s, h2, bind_s, sc_s, bind_s, h3, bind_s]
theorem st_28 {a0 : Int32} {F' : Nat → Nat → Int32} {I' : Nat → Int32} (h0 : m_Model_is N I F 1 6 = some (nI 1)) (h1 : m_Model_scalar N I F 1 = some a0) (h2 : ¬ (a0 < 0 ∨ 131072 ≤ a0.toNatClampNeg)) (h3 : m_Model_give N I F 1 0 (F 1 a0.toNatClampNeg) = some (nI 5, F', I')) : m_Model_strings N I F (nI 28) = some (nI 5, F', upd I' 35 (I' 35 + nI 2)) := by
  unfold m_Model_strings
  rw [if_neg (show ¬ nI 28 = 27 by decide), if_pos (show nI 28 = 28 from rfl), h0, bind_s, if_neg (show ¬ nI 1 = 0 by decide), h1, bind_s, if_neg h2, h3, bind_s]
  dsimp only
  rw [next_5, bind_s]
  rfl
set_option maxRecDepth 4000 in
set_option maxHeartbeats 4000000 in
theorem pq_28 {rs} {p L o0 : Nat} (he : eR nk nm nid G lE gg t gs fr gc hn gb gf gr hF hH hP hD S_top S_frames S_handlers n_S_values f_S_values n_S_bases f_S_bases n_S_floors f_S_floors n_S_returns f_S_returns n_S_closures f_S_closures n_S_handlerFrames f_S_handlerFrames n_S_handlerPlaces f_S_handlerPlaces n_S_handlerHeights f_S_handlerHeights n_S_handlerDepths f_S_handlerDepths H_globalsUsed H_used H_old H_oldLeadsToNew f_H_globals n_H_cells f_H_cells n_H_spare) (hr : rR nk nm nid G lR gg t gs fr gc hn gb gf gr hF hH hP hD I F) (hx : xR nm M_fuel M_ticks H_made M_depth B_names O_size n_O_bytes f_O_bytes n_Q_links f_Q_links n_Q_pairs n_H_cells I F) (h35 : I 35 = nI p) (hkt : gf (fr - 1) + 1 ≤ t) (hv0 : gs (t - 1) = vO o0) (hK0 : gK G o0 = 6)
    (hfit : m_Machine_primitiveFits N S_top S_frames S_handlers M_status (nI p) (nI (p + 2)) M_fuel M_ticks M_depth (I 45) M_done n_S_values f_S_values n_S_floors f_S_floors (nI 28) = some (nI 1)) (hR : rs = m_Model_strings N I F (nI 28)) :
    opR nm n_H_cells I F (potE n_S_values n_S_bases n_S_handlerFrames n_H_cells n_H_spare n_Q_links n_Q_pairs n_O_bytes) (m_Machine_perform N P_size P_constants P_closed P_open O_size S_top S_frames S_handlers H_globalsUsed H_used H_spareUsed H_old H_oldLeadsToNew (nI L) H_every H_fresh H_made (I 44) H_reachedFromGlobals H_reachedInAll H_keptGlobalsUsed H_kept B_names Q_size M_status (nI p) (nI (p + 2)) M_fuel M_ticks M_depth (I 45) M_done n_P_words f_P_words n_P_bytes f_P_bytes n_P_ends f_P_ends n_O_bytes f_O_bytes n_S_values f_S_values n_S_bases f_S_bases n_S_floors f_S_floors n_S_returns f_S_returns n_S_closures f_S_closures n_S_handlerFrames f_S_handlerFrames n_S_handlerPlaces f_S_handlerPlaces n_S_handlerHeights f_S_handlerHeights n_S_handlerDepths f_S_handlerDepths 2049 f_H_globals n_H_cells f_H_cells n_H_spare f_H_spare n_Q_links f_Q_links n_Q_pairs f_Q_pairs (nI 34) (nI 28)) rs := by
  obtain ⟨q1, q2, q3, qt, qs, qh, qb, qf, q4, q5, q6, q7, q8, q9, qx, qy, qz⟩ := frE he
  obtain ⟨y1, y2, y3, y4, y5⟩ := frR hr q1
  subst qt qs qh
  have mE0 : o0 ∈ lE := by have := (vE he (k := t - 1) (by omega)).2; rw [hv0] at this; exact this
  have mR0 : o0 ∈ lR := by have := (vRr hr (k := t - 1) (by omega)).2.2; rw [hv0] at this; exact this
  have pk0 := eR_peek (N := N) (k := 0) he (by omega)
  rw [Nat.sub_zero, hv0] at pk0
  have td0 := told_O (N := N) he mE0
  rw [if_pos hK0] at td0
  have s1 := scalar_R (N := N) (d := 1) hr (by omega) (by omega) q3
  rw [hv0] at s1
  have s1 : m_Model_scalar N I F 1 = some (nI (adr (gZ G) lR o0)) := s1
  obtain ⟨b0, f0⟩ := str_R hr mR0 hK0
  have z0 := bd_n b0 (by omega)
  have hi := is_O (N := N) (d := 1) (K := 6) hr (by omega) (by omega) q3 (by omega) hv0
  rw [if_pos hK0] at hi
  refine repl_op (N := N) (f_Q_pairs := f_Q_pairs) (f_H_spare := f_H_spare) (Q_size := Q_size) (H_fresh := H_fresh) (H_reachedFromGlobals := H_reachedFromGlobals) (H_reachedInAll := H_reachedInAll) (H_spareUsed := H_spareUsed) (v := vS (nI (gC G o0))) (k := 1) (W := 2) (x := nI (p + 2)) he hr hx (by omega) hkt trivial trivial ?_ ?_ (by rw [h35, q_add])
  · intro h
    have h : m_Stacks_replace N (nI t) (nI fr) (nI hn) n_S_values f_S_values 1 (scW (nI (gC G o0))) = _ := h
    exact pf34_S (by omega) (by decide) hfit (ap_28 pk0 (td0 ..) h)
  · intro F' I' h
    have h : m_Model_give N I F 1 0 (nI (gC G o0)) = _ := h
    rw [hR]
    exact st_28 hi s1 z0 (by rw [q_cl (by omega), f0]; exact h)
/-- 31 -/
theorem ap_31 {x top' : Int32} {va' : Nat → Int64} (h : m_Strings_element N S_top S_frames S_handlers H_globalsUsed H_used H_spareUsed H_old H_oldLeadsToNew H_limit H_every H_fresh H_made H_madeLimit H_reachedFromGlobals H_reachedInAll H_keptGlobalsUsed H_kept n_S_values f_S_values n_H_cells f_H_cells = some (x, va', top')) : m_Strings_apply N O_size S_top S_frames S_handlers H_globalsUsed H_used H_spareUsed H_old H_oldLeadsToNew H_limit H_every H_fresh H_made H_madeLimit H_reachedFromGlobals H_reachedInAll H_keptGlobalsUsed H_kept n_O_bytes f_O_bytes n_S_values f_S_values n_S_closures f_S_closures n_H_globals f_H_globals n_H_cells f_H_cells n_H_spare f_H_spare (nI 31) = some ((x, f_H_globals, f_S_closures, va', H_fresh, H_made, H_old, H_oldLeadsToNew, H_reachedFromGlobals, H_reachedInAll, H_spareUsed, H_used, O_size, top', n_H_cells, f_H_cells, n_H_spare, f_H_spare, n_O_bytes, f_O_bytes), 0, 0) := by
  unfold m_Strings_apply
  rw [if_neg (show ¬ nI 31 = 27 by decide), if_neg (show ¬ nI 31 = 28 by decide), if_neg (show ¬ nI 31 = 29 by decide), if_neg (show ¬ nI 31 = 30 by decide), if_pos (show nI 31 = 31 from rfl), h, bind_s]
theorem el_G1 {w0 : Int64} {v : Int32} (h1 : m_Stacks_peek N S_top S_frames S_handlers n_S_values f_S_values 0 = some w0) (h2 : m_Value_number N w0 = some v) (h3 : v < 0) : m_Strings_element N S_top S_frames S_handlers H_globalsUsed H_used H_spareUsed H_old H_oldLeadsToNew H_limit H_every H_fresh H_made H_madeLimit H_reachedFromGlobals H_reachedInAll H_keptGlobalsUsed H_kept n_S_values f_S_values n_H_cells f_H_cells = some (nI 20, f_S_values, S_top) := by
  unfold m_Strings_element
  rw [h1, bind_s, h2, bind_s, if_pos h3]
  rfl
theorem el_G2 {w0 w1 : Int64} {v n1 : Int32} (h1 : m_Stacks_peek N S_top S_frames S_handlers n_S_values f_S_values 0 = some w0) (h2 : m_Value_number N w0 = some v) (h3 : ¬ v < 0) (h4 : m_Stacks_peek N S_top S_frames S_handlers n_S_values f_S_values 1 = some w1) (h5 : m_Heap_told N H_globalsUsed H_used H_spareUsed H_old H_oldLeadsToNew H_limit H_every H_fresh H_made H_madeLimit H_reachedFromGlobals H_reachedInAll H_keptGlobalsUsed H_kept n_H_cells f_H_cells w1 = some n1) (h6 : ¬ v < n1) : m_Strings_element N S_top S_frames S_handlers H_globalsUsed H_used H_spareUsed H_old H_oldLeadsToNew H_limit H_every H_fresh H_made H_madeLimit H_reachedFromGlobals H_reachedInAll H_keptGlobalsUsed H_kept n_S_values f_S_values n_H_cells f_H_cells = some (nI 20, f_S_values, S_top) := by
  unfold m_Strings_element
  rw [h1, bind_s, h2, bind_s, if_neg h3, h4, bind_s, h5, bind_s, if_neg h6]
  rfl
theorem el_1 {w0 w1 : Int64} {v n1 a1 b st2 top2 : Int32} {va2 : Nat → Int64} (h1 : m_Stacks_peek N S_top S_frames S_handlers n_S_values f_S_values 0 = some w0) (h2 : m_Value_number N w0 = some v) (h3 : ¬ v < 0) (h4 : m_Stacks_peek N S_top S_frames S_handlers n_S_values f_S_values 1 = some w1) (h5 : m_Heap_told N H_globalsUsed H_used H_spareUsed H_old H_oldLeadsToNew H_limit H_every H_fresh H_made H_madeLimit H_reachedFromGlobals H_reachedInAll H_keptGlobalsUsed H_kept n_H_cells f_H_cells w1 = some n1) (h6 : v < n1) (h7 : m_Value_number N w1 = some a1) (h8 : m_Heap_byteAt N H_globalsUsed H_used H_spareUsed H_old H_oldLeadsToNew H_limit H_every H_fresh H_made H_madeLimit H_reachedFromGlobals H_reachedInAll H_keptGlobalsUsed H_kept n_H_cells f_H_cells a1 v = some b) (h9 : m_Stacks_replace N S_top S_frames S_handlers n_S_values f_S_values 2 (scW b) = some (st2, va2, top2)) : m_Strings_element N S_top S_frames S_handlers H_globalsUsed H_used H_spareUsed H_old H_oldLeadsToNew H_limit H_every H_fresh H_made H_madeLimit H_reachedFromGlobals H_reachedInAll H_keptGlobalsUsed H_kept n_S_values f_S_values n_H_cells f_H_cells = some (st2, va2, top2) := by
  unfold m_Strings_element
  rw [h1, bind_s, h2, bind_s, if_neg h3, h4, bind_s, h5, bind_s, if_pos h6, bind_s, h7, bind_s, h8, bind_s, sc_s, bind_s, h9, bind_s]
theorem st_31 {a1 v b : Int32} (h0 : m_Model_is N I F 2 6 = some (nI 1)) (hs : m_Model_isScalar N I F 1 = some (nI 1)) (h1 : m_Model_scalar N I F 1 = some v) (h2 : m_Model_scalar N I F 2 = some a1) (h3 : ¬ (a1 < 0 ∨ 131072 ≤ a1.toNatClampNeg)) : m_Model_strings N I F (nI 31) = if v < 0 then m_Model_raiseGlobal N I F (nI 2) (nI 4) else if v < F 1 a1.toNatClampNeg then (m_Model_byteAt N I F a1 v).bind fun b => (m_Model_give N I F 2 0 b).bind fun (z47_1, z47_2, z47_3) => (m_Model_next N z47_3 z47_2 (2 : Int32) z47_1).bind fun (z48_1, z48_2) => some (z48_1, z47_2, z48_2) else m_Model_raiseGlobal N I F (nI 2) (nI 4) := by
  unfold m_Model_strings
  rw [if_neg (show ¬ nI 31 = 27 by decide), if_neg (show ¬ nI 31 = 28 by decide), if_neg (show ¬ nI 31 = 29 by decide), if_neg (show ¬ nI 31 = 30 by decide), if_pos (show nI 31 = 31 from rfl), h0, bind_s, if_neg (show ¬ nI 1 = 0 by decide), hs, bind_s, if_neg (show ¬ nI 1 = 0 by decide), h1, bind_s]
  by_cases c1 : v < 0
  · rw [if_pos c1, if_pos c1]
    exact bind_3 _
  · rw [if_neg c1, if_neg c1, bind_s, h2, bind_s, if_neg h3]
    by_cases c2 : v < F 1 a1.toNatClampNeg
    · rw [if_pos c2, if_pos c2, bind_s, bind_s]
    · rw [if_neg c2, if_neg c2]
      exact bind_3 _
set_option maxRecDepth 4000 in
set_option maxHeartbeats 4000000 in
theorem pq_31 {rs} {p L o : Nat} {v : Int32} (he : eR nk nm nid G lE gg t gs fr gc hn gb gf gr hF hH hP hD S_top S_frames S_handlers n_S_values f_S_values n_S_bases f_S_bases n_S_floors f_S_floors n_S_returns f_S_returns n_S_closures f_S_closures n_S_handlerFrames f_S_handlerFrames n_S_handlerPlaces f_S_handlerPlaces n_S_handlerHeights f_S_handlerHeights n_S_handlerDepths f_S_handlerDepths H_globalsUsed H_used H_old H_oldLeadsToNew f_H_globals n_H_cells f_H_cells n_H_spare) (hr : rR nk nm nid G lR gg t gs fr gc hn gb gf gr hF hH hP hD I F) (hx : xR nm M_fuel M_ticks H_made M_depth B_names O_size n_O_bytes f_O_bytes n_Q_links f_Q_links n_Q_pairs n_H_cells I F) (h35 : I 35 = nI p) (hkt : gf (fr - 1) + 2 ≤ t) (hv1 : gs (t - 2) = vO o) (hv0 : gs (t - 1) = vS v) (hK : gK G o = 6)
    (hfit : m_Machine_primitiveFits N S_top S_frames S_handlers M_status (nI p) (nI (p + 2)) M_fuel M_ticks M_depth (I 45) M_done n_S_values f_S_values n_S_floors f_S_floors (nI 31) = some (nI 1)) (hR : rs = m_Model_strings N I F (nI 31)) :
    opR nm n_H_cells I F (potE n_S_values n_S_bases n_S_handlerFrames n_H_cells n_H_spare n_Q_links n_Q_pairs n_O_bytes) (m_Machine_perform N P_size P_constants P_closed P_open O_size S_top S_frames S_handlers H_globalsUsed H_used H_spareUsed H_old H_oldLeadsToNew (nI L) H_every H_fresh H_made (I 44) H_reachedFromGlobals H_reachedInAll H_keptGlobalsUsed H_kept B_names Q_size M_status (nI p) (nI (p + 2)) M_fuel M_ticks M_depth (I 45) M_done n_P_words f_P_words n_P_bytes f_P_bytes n_P_ends f_P_ends n_O_bytes f_O_bytes n_S_values f_S_values n_S_bases f_S_bases n_S_floors f_S_floors n_S_returns f_S_returns n_S_closures f_S_closures n_S_handlerFrames f_S_handlerFrames n_S_handlerPlaces f_S_handlerPlaces n_S_handlerHeights f_S_handlerHeights n_S_handlerDepths f_S_handlerDepths 2049 f_H_globals n_H_cells f_H_cells n_H_spare f_H_spare n_Q_links f_Q_links n_Q_pairs f_Q_pairs (nI 34) (nI 31)) rs := by
  obtain ⟨q1, q2, q3, qt, qs, qh, qb, qf, q4, q5, q6, q7, q8, q9, qx, qy, qz⟩ := frE he
  obtain ⟨y1, y2, y3, y4, y5⟩ := frR hr q1
  subst qt qs qh
  obtain ⟨hG, hT, hC, hH', hnn⟩ := eR_hp he
  have mE : o ∈ lE := by have := (vE he (k := t - 2) (by omega)).2; rw [hv1] at this; exact this
  have mR : o ∈ lR := by have := (vRr hr (k := t - 2) (by omega)).2.2; rw [hv1] at this; exact this
  have O1 := str_ok (hG.2 o mE).2.1 hK
  have pk1 := eR_peek (N := N) (k := 1) he (by omega)
  rw [show t - 1 - 1 = t - 2 by omega, hv1] at pk1
  have pk0 := eR_peek (N := N) (k := 0) he (by omega)
  rw [Nat.sub_zero, hv0] at pk0
  have n0 : m_Value_number N (wE G lE (vS v)) = some v := nu_E (v := vS v) hG trivial hnn (by omega)
  have n1 : m_Value_number N (wE G lE (vO o)) = some (nI (adr (gZ G) lE o)) := nu_E (v := vO o) hG mE hnn (by omega)
  have td := told_O (N := N) he mE
  rw [if_pos hK] at td
  have s2 := scalar_R (N := N) (d := 2) hr (by omega) (by omega) q3
  rw [hv1] at s2
  have s2 : m_Model_scalar N I F 2 = some (nI (adr (gZ G) lR o)) := s2
  have s1 := scalar_R (N := N) (d := 1) hr (by omega) (by omega) q3
  rw [hv0] at s1
  have s1 : m_Model_scalar N I F 1 = some v := s1
  obtain ⟨b1, f1⟩ := str_R hr mR hK
  have z1 := bd_n b1 (by omega)
  have hi := is_O (N := N) (d := 2) (K := 6) hr (by omega) (by omega) q3 (by omega) hv1
  rw [if_pos hK] at hi
  have hsc := isSc_S (N := N) (d := 1) hr (by omega) (by omega) q3 hv0
  have hst := st_31 (b := 0) hi hsc s1 s2 z1
  rw [q_cl (by omega), f1] at hst
  rw [hst] at hR
  clear hst
  by_cases hv : v < 0
  · rw [if_pos hv] at hR
    refine prG_op (N := N) (f_Q_pairs := f_Q_pairs) (f_H_spare := f_H_spare) (Q_size := Q_size) (H_fresh := H_fresh) (H_reachedFromGlobals := H_reachedFromGlobals) (H_reachedInAll := H_reachedInAll) (H_spareUsed := H_spareUsed) (H_limit := nI L) (H_every := H_every) (H_madeLimit := I 44) (H_keptGlobalsUsed := H_keptGlobalsUsed) (H_kept := H_kept) (M_status := M_status) (M_place := nI p) (M_depthLimit := I 45) (M_done := M_done) (g := 4) (q := 31) he hr hx h35 (by omega) (by omega) hkt ?_ hR
    exact pf34_G (by omega) (by omega) hfit (ap_31 (el_G1 pk0 n0 hv))
  · rw [if_neg hv] at hR
    by_cases hv2 : v < nI (gC G o)
    · rw [if_pos hv2] at hR
      obtain ⟨x, hx31, rfl⟩ := nI_of hv
      have hxl : x < gC G o := by
        by_cases hh : x < gC G o
        · exact hh
        · rw [q_lt_f (by omega) (by omega)] at hv2
          exact hv2.elim
      have hendE := adr_end (Z := gZ G) mE
      have hz : gZ G o = 1 + (gC G o + 3) / 4 := by unfold gZ; rw [if_pos hK]
      have gE := byteAt_w (N := N) (nC := n_H_cells) (k := x) O1.2.1 (by omega) (by omega) hC ((hH' o mE).2.2 hK _ (by omega))
      obtain ⟨c1, c2, c3, c4, c5, c6⟩ := hr.2.2
      have hendR := adr_end (Z := gZ G) mR
      have gR := byteAt_r (N := N) (I := I) (F := F) (k := x) O1.2.1 (by omega) (by omega) ((c5 o mR).2.2.2 hK _ (by omega))
      rw [gR, bind_s] at hR
      refine repl_op (N := N) (f_Q_pairs := f_Q_pairs) (f_H_spare := f_H_spare) (Q_size := Q_size) (H_fresh := H_fresh) (H_reachedFromGlobals := H_reachedFromGlobals) (H_reachedInAll := H_reachedInAll) (H_spareUsed := H_spareUsed) (v := vS (nI (gB G o x))) (k := 2) (W := 2) (x := nI (p + 2)) he hr hx (by omega) hkt trivial trivial ?_ ?_ (by rw [h35, q_add])
      · intro h
        have h : m_Stacks_replace N (nI t) (nI fr) (nI hn) n_S_values f_S_values 2 (scW (nI (gB G o x))) = _ := h
        exact pf34_S (by omega) (by decide) hfit (ap_31 (el_1 pk0 n0 hv pk1 (td ..) hv2 n1 (gE ..) h))
      · intro F' I' h
        have h : m_Model_give N I F 2 0 (nI (gB G o x)) = _ := h
        rw [hR, h, bind_s]
        dsimp only
        rw [next_5, bind_s]
        rfl
    · rw [if_neg hv2] at hR
      refine prG_op (N := N) (f_Q_pairs := f_Q_pairs) (f_H_spare := f_H_spare) (Q_size := Q_size) (H_fresh := H_fresh) (H_reachedFromGlobals := H_reachedFromGlobals) (H_reachedInAll := H_reachedInAll) (H_spareUsed := H_spareUsed) (H_limit := nI L) (H_every := H_every) (H_madeLimit := I 44) (H_keptGlobalsUsed := H_keptGlobalsUsed) (H_kept := H_kept) (M_status := M_status) (M_place := nI p) (M_depthLimit := I 45) (M_done := M_done) (g := 4) (q := 31) he hr hx h35 (by omega) (by omega) hkt ?_ hR
      exact pf34_G (by omega) (by omega) hfit (ap_31 (el_G2 pk0 n0 hv pk1 (td ..) hv2))
/-- 39 -/
theorem ap_39 {w0 : Int64} {b : Int32} (h1 : m_Stacks_peek N S_top S_frames S_handlers n_S_values f_S_values 0 = some w0) (h2 : m_Strings_isByte N w0 = some b) : m_Strings_apply N O_size S_top S_frames S_handlers H_globalsUsed H_used H_spareUsed H_old H_oldLeadsToNew H_limit H_every H_fresh H_made H_madeLimit H_reachedFromGlobals H_reachedInAll H_keptGlobalsUsed H_kept n_O_bytes f_O_bytes n_S_values f_S_values n_S_closures f_S_closures n_H_globals f_H_globals n_H_cells f_H_cells n_H_spare f_H_spare (nI 39) = some ((if b = 0 then nI 22 else nI 5, f_H_globals, f_S_closures, f_S_values, H_fresh, H_made, H_old, H_oldLeadsToNew, H_reachedFromGlobals, H_reachedInAll, H_spareUsed, H_used, O_size, S_top, n_H_cells, f_H_cells, n_H_spare, f_H_spare, n_O_bytes, f_O_bytes), 0, 0) := by
  unfold m_Strings_apply
  rw [if_neg (show ¬ nI 39 = 27 by decide), if_neg (show ¬ nI 39 = 28 by decide), if_neg (show ¬ nI 39 = 29 by decide), if_neg (show ¬ nI 39 = 30 by decide), if_neg (show ¬ nI 39 = 31 by decide), if_neg (show ¬ nI 39 = 32 by decide), if_neg (show ¬ nI 39 = 33 by decide), if_neg (show ¬ nI 39 = 34 by decide), if_neg (show ¬ nI 39 = 35 by decide), if_neg (show ¬ nI 39 = 36 by decide), if_neg (show ¬ nI 39 = 37 by decide), if_neg (show ¬ nI 39 = 38 by decide), if_pos (show nI 39 = 39 from rfl), h1, bind_s, h2, bind_s]
  by_cases c : b = 0
  · rw [if_pos c, if_pos c]
    rfl
  · rw [if_neg c, if_neg c]
    rfl
theorem nu_39 {v : Int32} (h1 : m_Model_scalar N I F 1 = some v) : m_Model_numbers N I F (nI 39) (nI 1) = if v < 0 then m_Model_raiseGlobal N I F (nI 1) (nI 6) else if v ≤ 255 then (m_Model_give N I F 1 0 v).bind fun (z24_1, z24_2, z24_3) => (m_Model_next N z24_3 z24_2 (2 : Int32) z24_1).bind fun (z25_1, z25_2) => some (z25_1, z24_2, z25_2) else m_Model_raiseGlobal N I F (nI 1) (nI 6) := by
  have hpl : m_Model_plain N (nI 39) v v = some v := by
    unfold m_Model_plain
    rw [if_neg (show ¬ nI 39 = 7 by decide), if_neg (show ¬ nI 39 = 8 by decide), if_neg (show ¬ nI 39 = 9 by decide), if_neg (show ¬ nI 39 = 10 by decide), if_neg (show ¬ nI 39 = 11 by decide), if_neg (show ¬ nI 39 = 12 by decide), if_neg (show ¬ nI 39 = 13 by decide), if_neg (show ¬ nI 39 = 14 by decide), if_neg (show ¬ nI 39 = 15 by decide), if_neg (show ¬ nI 39 = 16 by decide), if_neg (show ¬ nI 39 = 17 by decide), if_neg (show ¬ nI 39 = 18 by decide), if_neg (show ¬ nI 39 = 19 by decide), if_neg (show ¬ nI 39 = 20 by decide), if_neg (show ¬ nI 39 = 21 by decide), if_neg (show ¬ nI 39 = 22 by decide), if_neg (show ¬ nI 39 = 23 by decide), if_neg (show ¬ nI 39 = 24 by decide), if_neg (show ¬ nI 39 = 25 by decide)]
  unfold m_Model_numbers
  rw [h1, bind_s, ln_1, ln_2, if_pos (show (5 : Int32) ≤ nI 39 by decide), if_neg (show ¬ nI 39 = 5 by decide), if_neg (show ¬ nI 39 = 6 by decide), if_neg (show ¬ nI 39 = 14 by decide), if_neg (show ¬ nI 39 = 15 by decide), if_neg (show ¬ nI 39 = 26 by decide), if_neg (show ¬ nI 39 = 29 by decide), if_neg (show ¬ nI 39 = 38 by decide), if_pos (show nI 39 = 39 from rfl)]
  by_cases c1 : v < 0
  · rw [if_pos c1, if_pos c1]
    exact bind_3 _
  · rw [if_neg c1, if_neg c1]
    by_cases c2 : v ≤ 255
    · rw [if_pos c2, if_pos c2, hpl, bind_s]
    · rw [if_neg c2, if_neg c2]
      exact bind_3 _
set_option maxRecDepth 4000 in
set_option maxHeartbeats 4000000 in
theorem pq_39 {rs} {p L : Nat} {v : Int32} (he : eR nk nm nid G lE gg t gs fr gc hn gb gf gr hF hH hP hD S_top S_frames S_handlers n_S_values f_S_values n_S_bases f_S_bases n_S_floors f_S_floors n_S_returns f_S_returns n_S_closures f_S_closures n_S_handlerFrames f_S_handlerFrames n_S_handlerPlaces f_S_handlerPlaces n_S_handlerHeights f_S_handlerHeights n_S_handlerDepths f_S_handlerDepths H_globalsUsed H_used H_old H_oldLeadsToNew f_H_globals n_H_cells f_H_cells n_H_spare) (hr : rR nk nm nid G lR gg t gs fr gc hn gb gf gr hF hH hP hD I F) (hx : xR nm M_fuel M_ticks H_made M_depth B_names O_size n_O_bytes f_O_bytes n_Q_links f_Q_links n_Q_pairs n_H_cells I F) (h35 : I 35 = nI p) (hkt : gf (fr - 1) + 1 ≤ t) (hv0 : gs (t - 1) = vS v)
    (hfit : m_Machine_primitiveFits N S_top S_frames S_handlers M_status (nI p) (nI (p + 2)) M_fuel M_ticks M_depth (I 45) M_done n_S_values f_S_values n_S_floors f_S_floors (nI 39) = some (nI 1)) (hR : rs = m_Model_numbers N I F (nI 39) (nI 1)) :
    opR nm n_H_cells I F (potE n_S_values n_S_bases n_S_handlerFrames n_H_cells n_H_spare n_Q_links n_Q_pairs n_O_bytes) (m_Machine_perform N P_size P_constants P_closed P_open O_size S_top S_frames S_handlers H_globalsUsed H_used H_spareUsed H_old H_oldLeadsToNew (nI L) H_every H_fresh H_made (I 44) H_reachedFromGlobals H_reachedInAll H_keptGlobalsUsed H_kept B_names Q_size M_status (nI p) (nI (p + 2)) M_fuel M_ticks M_depth (I 45) M_done n_P_words f_P_words n_P_bytes f_P_bytes n_P_ends f_P_ends n_O_bytes f_O_bytes n_S_values f_S_values n_S_bases f_S_bases n_S_floors f_S_floors n_S_returns f_S_returns n_S_closures f_S_closures n_S_handlerFrames f_S_handlerFrames n_S_handlerPlaces f_S_handlerPlaces n_S_handlerHeights f_S_handlerHeights n_S_handlerDepths f_S_handlerDepths 2049 f_H_globals n_H_cells f_H_cells n_H_spare f_H_spare n_Q_links f_Q_links n_Q_pairs f_Q_pairs (nI 34) (nI 39)) rs := by
  obtain ⟨q1, q2, q3, qt, qs, qh, qb, qf, q4, q5, q6, q7, q8, q9, qx, qy, qz⟩ := frE he
  obtain ⟨y1, y2, y3, y4, y5⟩ := frR hr q1
  subst qt qs qh
  obtain ⟨hG, hT, hC, hH', hnn⟩ := eR_hp he
  have pk0 := eR_peek (N := N) (k := 0) he (by omega)
  rw [Nat.sub_zero, hv0] at pk0
  have s1 := scalar_R (N := N) (d := 1) hr (by omega) (by omega) q3
  rw [hv0] at s1
  have s1 : m_Model_scalar N I F 1 = some v := s1
  have hiB := isB_E (N := N) (G := G) (l := lE) (v := v)
  rw [nu_39 s1] at hR
  by_cases hv : v < 0
  · rw [if_pos hv] at hR hiB
    refine prG_op (N := N) (f_Q_pairs := f_Q_pairs) (f_H_spare := f_H_spare) (Q_size := Q_size) (H_fresh := H_fresh) (H_reachedFromGlobals := H_reachedFromGlobals) (H_reachedInAll := H_reachedInAll) (H_spareUsed := H_spareUsed) (H_limit := nI L) (H_every := H_every) (H_madeLimit := I 44) (H_keptGlobalsUsed := H_keptGlobalsUsed) (H_kept := H_kept) (M_status := M_status) (M_place := nI p) (M_depthLimit := I 45) (M_done := M_done) (g := 6) (q := 39) he hr hx h35 (by omega) (by omega) hkt ?_ hR
    have h := ap_39 (O_size := O_size) (H_globalsUsed := H_globalsUsed) (H_used := H_used) (H_spareUsed := H_spareUsed) (H_old := H_old) (H_oldLeadsToNew := H_oldLeadsToNew) (H_every := H_every) (H_fresh := H_fresh) (H_made := H_made) (H_reachedFromGlobals := H_reachedFromGlobals) (H_reachedInAll := H_reachedInAll) (H_keptGlobalsUsed := H_keptGlobalsUsed) (H_kept := H_kept) (n_O_bytes := n_O_bytes) (f_O_bytes := f_O_bytes) (n_S_closures := n_S_closures) (f_S_closures := f_S_closures) (f_H_globals := f_H_globals) (n_H_cells := n_H_cells) (f_H_cells := f_H_cells) (n_H_spare := n_H_spare) (f_H_spare := f_H_spare) (H_limit := nI L) (H_madeLimit := I 44) (n_H_globals := 2049) pk0 hiB
    rw [if_pos (show nI 0 = 0 from rfl)] at h
    exact pf34_G (by omega) (by omega) hfit h
  · rw [if_neg hv] at hR hiB
    by_cases hv2 : v ≤ 255
    · rw [if_pos hv2] at hR
      rw [if_neg (Int32.not_lt.mpr hv2)] at hiB
      have h := ap_39 (O_size := O_size) (H_globalsUsed := H_globalsUsed) (H_used := H_used) (H_spareUsed := H_spareUsed) (H_old := H_old) (H_oldLeadsToNew := H_oldLeadsToNew) (H_every := H_every) (H_fresh := H_fresh) (H_made := H_made) (H_reachedFromGlobals := H_reachedFromGlobals) (H_reachedInAll := H_reachedInAll) (H_keptGlobalsUsed := H_keptGlobalsUsed) (H_kept := H_kept) (n_O_bytes := n_O_bytes) (f_O_bytes := f_O_bytes) (n_S_closures := n_S_closures) (f_S_closures := f_S_closures) (f_H_globals := f_H_globals) (n_H_cells := n_H_cells) (f_H_cells := f_H_cells) (n_H_spare := n_H_spare) (f_H_spare := f_H_spare) (H_limit := nI L) (H_madeLimit := I 44) (n_H_globals := 2049) pk0 hiB
      rw [if_neg (by decide)] at h
      have e0 : wE G lE (vS v) = f_S_values (t - 1) := by rw [(vE he (k := t - 1) (by omega)).1, hv0]
      have e1 : vp_updL f_S_values (t - 1) (wE G lE (vS v)) = f_S_values := by
        funext j
        by_cases hj : j = t - 1
        · rw [updL_e hj, hj, e0]
        · rw [updL_n hj]
      refine repl_op (N := N) (f_Q_pairs := f_Q_pairs) (f_H_spare := f_H_spare) (Q_size := Q_size) (H_fresh := H_fresh) (H_reachedFromGlobals := H_reachedFromGlobals) (H_reachedInAll := H_reachedInAll) (H_spareUsed := H_spareUsed) (v := vS v) (k := 1) (W := 2) (x := nI (p + 2)) he hr hx (by omega) hkt trivial trivial ?_ ?_ (by rw [h35, q_add])
      · intro _
        rw [e1, show t - 1 + 1 = t by omega]
        exact pf34_S (by omega) (by decide) hfit h
      · intro F' I' h
        have h : m_Model_give N I F 1 0 v = _ := h
        rw [hR, h, bind_s]
        dsimp only
        rw [next_5, bind_s]
        rfl
    · rw [if_neg hv2] at hR
      rw [if_pos (Int32.not_le.mp hv2)] at hiB
      refine prG_op (N := N) (f_Q_pairs := f_Q_pairs) (f_H_spare := f_H_spare) (Q_size := Q_size) (H_fresh := H_fresh) (H_reachedFromGlobals := H_reachedFromGlobals) (H_reachedInAll := H_reachedInAll) (H_spareUsed := H_spareUsed) (H_limit := nI L) (H_every := H_every) (H_madeLimit := I 44) (H_keptGlobalsUsed := H_keptGlobalsUsed) (H_kept := H_kept) (M_status := M_status) (M_place := nI p) (M_depthLimit := I 45) (M_done := M_done) (g := 6) (q := 39) he hr hx h35 (by omega) (by omega) hkt ?_ hR
      have h := ap_39 (O_size := O_size) (H_globalsUsed := H_globalsUsed) (H_used := H_used) (H_spareUsed := H_spareUsed) (H_old := H_old) (H_oldLeadsToNew := H_oldLeadsToNew) (H_every := H_every) (H_fresh := H_fresh) (H_made := H_made) (H_reachedFromGlobals := H_reachedFromGlobals) (H_reachedInAll := H_reachedInAll) (H_keptGlobalsUsed := H_keptGlobalsUsed) (H_kept := H_kept) (n_O_bytes := n_O_bytes) (f_O_bytes := f_O_bytes) (n_S_closures := n_S_closures) (f_S_closures := f_S_closures) (f_H_globals := f_H_globals) (n_H_cells := n_H_cells) (f_H_cells := f_H_cells) (n_H_spare := n_H_spare) (f_H_spare := f_H_spare) (H_limit := nI L) (H_madeLimit := I 44) (n_H_globals := 2049) pk0 hiB
      rw [if_pos (show nI 0 = 0 from rfl)] at h
      exact pf34_G (by omega) (by omega) hfit h
end SZ
