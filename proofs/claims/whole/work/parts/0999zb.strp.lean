/-! Instruction 34: primitives on strings, then all -/
section PS
variable {N : Nat}
variable {nk : Nat → Nat} {nm : Nat} {nid : Nat} {G : Nat → GO} {lE : List Nat} {gg : Nat → AV} {t : Nat} {gs : Nat → AV} {fr : Nat} {gc : Nat → AV} {hn : Nat} {gb : Nat → Nat} {gf : Nat → Nat} {gr : Nat → Int32} {hF : Nat → Nat} {hH : Nat → Nat} {hP : Nat → Int32} {hD : Nat → Int32} {lR : List Nat} {P_size : Int32} {P_constants : Int32} {P_closed : Int32} {P_open : Int32} {O_size : Int32} {S_top : Int32} {S_frames : Int32} {S_handlers : Int32} {H_globalsUsed : Int32} {H_used : Int32} {H_spareUsed : Int32} {H_old : Int32} {H_oldLeadsToNew : Int32} {H_limit : Int32} {H_every : Int32} {H_fresh : Int32} {H_made : Int32} {H_madeLimit : Int32} {H_reachedFromGlobals : Int32} {H_reachedInAll : Int32} {H_keptGlobalsUsed : Int32} {H_kept : Int32} {B_names : Int32} {Q_size : Int32} {M_status : Int32} {M_place : Int32} {M_next : Int32} {M_fuel : Int32} {M_ticks : Int32} {M_depth : Int32} {M_depthLimit : Int32} {M_done : Int32} {n_P_words : Nat} {f_P_words : Nat → Int32} {n_P_bytes : Nat} {f_P_bytes : Nat → Int32} {n_P_ends : Nat} {f_P_ends : Nat → Int32} {n_O_bytes : Nat} {f_O_bytes : Nat → Int32} {n_S_values : Nat} {f_S_values : Nat → Int64} {n_S_bases : Nat} {f_S_bases : Nat → Int32} {n_S_floors : Nat} {f_S_floors : Nat → Int32} {n_S_returns : Nat} {f_S_returns : Nat → Int32} {n_S_closures : Nat} {f_S_closures : Nat → Int64} {n_S_handlerFrames : Nat} {f_S_handlerFrames : Nat → Int32} {n_S_handlerPlaces : Nat} {f_S_handlerPlaces : Nat → Int32} {n_S_handlerHeights : Nat} {f_S_handlerHeights : Nat → Int32} {n_S_handlerDepths : Nat} {f_S_handlerDepths : Nat → Int32} {n_H_globals : Nat} {f_H_globals : Nat → Int64} {n_H_cells : Nat} {f_H_cells : Nat → Int64} {n_H_spare : Nat} {f_H_spare : Nat → Int64} {n_Q_links : Nat} {f_Q_links : Nat → Int32} {n_Q_pairs : Nat} {f_Q_pairs : Nat → Int64} {I : Nat → Int32} {F : Nat → Nat → Int32}
theorem bad_op {rs} {p L q : Nat} (hN : 400000 ≤ N) (he : eR nk nm nid G lE gg t gs fr gc hn gb gf gr hF hH hP hD S_top S_frames S_handlers n_S_values f_S_values n_S_bases f_S_bases n_S_floors f_S_floors n_S_returns f_S_returns n_S_closures f_S_closures n_S_handlerFrames f_S_handlerFrames n_S_handlerPlaces f_S_handlerPlaces n_S_handlerHeights f_S_handlerHeights n_S_handlerDepths f_S_handlerDepths H_globalsUsed H_used H_old H_oldLeadsToNew f_H_globals n_H_cells f_H_cells n_H_spare) (hr : rR nk nm nid G lR gg t gs fr gc hn gb gf gr hF hH hP hD I F) (hx : xR nm M_fuel M_ticks H_made M_depth B_names O_size n_O_bytes f_O_bytes n_Q_links f_Q_links n_Q_pairs n_H_cells I F) (hq : q < 42) (h40 : q ≠ 40) (hkt : gf (fr - 1) + tkn q ≤ t) (hk : ¬ kds G gs t q 0) (hR : rs = some (nI 4, F, I)) :
    opR nm n_H_cells I F (potE n_S_values n_S_bases n_S_handlerFrames n_H_cells n_H_spare n_Q_links n_Q_pairs n_O_bytes) (m_Machine_perform N P_size P_constants P_closed P_open O_size S_top S_frames S_handlers H_globalsUsed H_used H_spareUsed H_old H_oldLeadsToNew (nI L) H_every H_fresh H_made (I 44) H_reachedFromGlobals H_reachedInAll H_keptGlobalsUsed H_kept B_names Q_size M_status (nI p) (nI (p + 2)) M_fuel M_ticks M_depth (I 45) M_done n_P_words f_P_words n_P_bytes f_P_bytes n_P_ends f_P_ends n_O_bytes f_O_bytes n_S_values f_S_values n_S_bases f_S_bases n_S_floors f_S_floors n_S_returns f_S_returns n_S_closures f_S_closures n_S_handlerFrames f_S_handlerFrames n_S_handlerPlaces f_S_handlerPlaces n_S_handlerHeights f_S_handlerHeights n_S_handlerDepths f_S_handlerDepths 2049 f_H_globals n_H_cells f_H_cells n_H_spare f_H_spare n_Q_links f_Q_links n_Q_pairs f_Q_pairs (nI 34) (nI q)) rs :=
  opR_same (M_next := nI (p + 2)) (st := 4) (by omega) he hr hx (pf34_F (W := 2) ((fits_E (N := N) (q := q) he hq h40 hN hkt).2 hk M_status (nI p) (nI (p + 2)) M_fuel M_ticks M_depth (I 45) M_done)) hR
set_option maxRecDepth 4000 in
set_option maxHeartbeats 4000000 in
theorem pr_27 {p L : Nat} {wd : Int32} (hN : 400000 ≤ N) (he : eR nk nm nid G lE gg t gs fr gc hn gb gf gr hF hH hP hD S_top S_frames S_handlers n_S_values f_S_values n_S_bases f_S_bases n_S_floors f_S_floors n_S_returns f_S_returns n_S_closures f_S_closures n_S_handlerFrames f_S_handlerFrames n_S_handlerPlaces f_S_handlerPlaces n_S_handlerHeights f_S_handlerHeights n_S_handlerDepths f_S_handlerDepths H_globalsUsed H_used H_old H_oldLeadsToNew f_H_globals n_H_cells f_H_cells n_H_spare) (hr : rR nk nm nid G lR gg t gs fr gc hn gb gf gr hF hH hP hD I F) (hx : xR nm M_fuel M_ticks H_made M_depth B_names O_size n_O_bytes f_O_bytes n_Q_links f_Q_links n_Q_pairs n_H_cells I F) (h35 : I 35 = nI p) (h43 : I 43 = nI L) (hL : L ≤ 131072) (hkt : gf (fr - 1) + tkn 27 ≤ t) (hsw : sw N I F (nI 27) wd = m_Model_primitive N I F (nI 27)) :
    opR nm n_H_cells I F (potE n_S_values n_S_bases n_S_handlerFrames n_H_cells n_H_spare n_Q_links n_Q_pairs n_O_bytes) (m_Machine_perform N P_size P_constants P_closed P_open O_size S_top S_frames S_handlers H_globalsUsed H_used H_spareUsed H_old H_oldLeadsToNew (nI L) H_every H_fresh H_made (I 44) H_reachedFromGlobals H_reachedInAll H_keptGlobalsUsed H_kept B_names Q_size M_status (nI p) (nI (p + 2)) M_fuel M_ticks M_depth (I 45) M_done n_P_words f_P_words n_P_bytes f_P_bytes n_P_ends f_P_ends n_O_bytes f_O_bytes n_S_values f_S_values n_S_bases f_S_bases n_S_floors f_S_floors n_S_returns f_S_returns n_S_closures f_S_closures n_S_handlerFrames f_S_handlerFrames n_S_handlerPlaces f_S_handlerPlaces n_S_handlerHeights f_S_handlerHeights n_S_handlerDepths f_S_handlerDepths 2049 f_H_globals n_H_cells f_H_cells n_H_spare f_H_spare n_Q_links f_Q_links n_Q_pairs f_Q_pairs (nI 34) (nI 27)) (sw N I F (nI 27) wd) := by
  have hkt' : gf (fr - 1) + 2 ≤ t := hkt
  have ht := he.1.2.2.1
  have hgR := rR_height (N := N) hr he.1
  have hP := pm_27 (N := N) hgR (by omega) (by omega)
  obtain ⟨hG, hT, hC, hH', hnn⟩ := eR_hp he
  have hfit := fits_E (N := N) (q := 27) he (by omega) (by omega) hN hkt
  have i1 := is_K (N := N) (d := 1) (K := 6) hr (by omega) (by omega) ht (by omega) (by omega)
  have i2 := is_K (N := N) (d := 2) (K := 6) hr (by omega) (by omega) ht (by omega) (by omega)
  by_cases h1 : kV G (gs (t - 1)) = 6
  · by_cases h2 : kV G (gs (t - 2)) = 6
    · rw [if_pos h1] at i1
      rw [if_pos h2] at i2
      have hk : kds G gs t 27 0 := by
        intro j _ hj
        have hj : j < 2 := hj
        rcases (show j = 0 ∨ j = 1 by omega) with rfl | rfl
        · show kV G (gs (t - 2 + 0)) = 6
          rw [show t - 2 + 0 = t - 2 by omega]
          exact h2
        · show kV G (gs (t - 2 + 1)) = 6
          rw [show t - 2 + 1 = t - 1 by omega]
          exact h1
      have hfit := hfit.1 hk M_status (nI p) (nI (p + 2)) M_fuel M_ticks M_depth (I 45) M_done
      obtain ⟨o2, v2, w2⟩ := kV_obj (G := G) (v := gs (t - 2)) (by omega)
      rw [h2] at w2
      obtain ⟨o1, v1, w1⟩ := kV_obj (G := G) (v := gs (t - 1)) (by omega)
      rw [h1] at w1
      refine pq_27 hN he hr hx h35 h43 hL hkt' v2 v1 w2 w1 hfit ?_
      rw [hsw, hP]
      unfold m_Model_strings
      rw [if_pos (show nI 27 = 27 from rfl), show m_Model_is N I F 1 6 = some (nI 1) from i1, bind_s, if_neg (show ¬ nI 1 = 0 by decide), show m_Model_is N I F 2 6 = some (nI 1) from i2, bind_s, if_neg (show ¬ nI 1 = 0 by decide)]
      exact bind_3 _
    · rw [if_pos h1] at i1
      rw [if_neg h2] at i2
      refine bad_op (L := L) hN he hr hx (by omega) (by omega) hkt (fun hk => h2 ?_) ?_
      · have h : kV G (gs (t - 2 + 0)) = 6 := hk 0 (Nat.zero_le _) (by decide)
        rw [show t - 2 + 0 = t - 2 by omega] at h
        exact h
      · rw [hsw, hP]
        unfold m_Model_strings
        rw [if_pos (show nI 27 = 27 from rfl), show m_Model_is N I F 1 6 = some (nI 1) from i1, bind_s, if_neg (show ¬ nI 1 = 0 by decide), show m_Model_is N I F 2 6 = some (nI 0) from i2, bind_s, if_pos (show nI 0 = 0 from rfl)]
        rfl
  · rw [if_neg h1] at i1
    refine bad_op (L := L) hN he hr hx (by omega) (by omega) hkt (fun hk => h1 ?_) ?_
    · have h : kV G (gs (t - 2 + 1)) = 6 := hk 1 (Nat.zero_le _) (by decide)
      rw [show t - 2 + 1 = t - 1 by omega] at h
      exact h
    · rw [hsw, hP]
      unfold m_Model_strings
      rw [if_pos (show nI 27 = 27 from rfl), show m_Model_is N I F 1 6 = some (nI 0) from i1, bind_s, if_pos (show nI 0 = 0 from rfl)]
      rfl
set_option maxRecDepth 4000 in
set_option maxHeartbeats 4000000 in
theorem pr_28 {p L : Nat} {wd : Int32} (hN : 400000 ≤ N) (he : eR nk nm nid G lE gg t gs fr gc hn gb gf gr hF hH hP hD S_top S_frames S_handlers n_S_values f_S_values n_S_bases f_S_bases n_S_floors f_S_floors n_S_returns f_S_returns n_S_closures f_S_closures n_S_handlerFrames f_S_handlerFrames n_S_handlerPlaces f_S_handlerPlaces n_S_handlerHeights f_S_handlerHeights n_S_handlerDepths f_S_handlerDepths H_globalsUsed H_used H_old H_oldLeadsToNew f_H_globals n_H_cells f_H_cells n_H_spare) (hr : rR nk nm nid G lR gg t gs fr gc hn gb gf gr hF hH hP hD I F) (hx : xR nm M_fuel M_ticks H_made M_depth B_names O_size n_O_bytes f_O_bytes n_Q_links f_Q_links n_Q_pairs n_H_cells I F) (h35 : I 35 = nI p) (h43 : I 43 = nI L) (hL : L ≤ 131072) (hkt : gf (fr - 1) + tkn 28 ≤ t) (hsw : sw N I F (nI 28) wd = m_Model_primitive N I F (nI 28)) :
    opR nm n_H_cells I F (potE n_S_values n_S_bases n_S_handlerFrames n_H_cells n_H_spare n_Q_links n_Q_pairs n_O_bytes) (m_Machine_perform N P_size P_constants P_closed P_open O_size S_top S_frames S_handlers H_globalsUsed H_used H_spareUsed H_old H_oldLeadsToNew (nI L) H_every H_fresh H_made (I 44) H_reachedFromGlobals H_reachedInAll H_keptGlobalsUsed H_kept B_names Q_size M_status (nI p) (nI (p + 2)) M_fuel M_ticks M_depth (I 45) M_done n_P_words f_P_words n_P_bytes f_P_bytes n_P_ends f_P_ends n_O_bytes f_O_bytes n_S_values f_S_values n_S_bases f_S_bases n_S_floors f_S_floors n_S_returns f_S_returns n_S_closures f_S_closures n_S_handlerFrames f_S_handlerFrames n_S_handlerPlaces f_S_handlerPlaces n_S_handlerHeights f_S_handlerHeights n_S_handlerDepths f_S_handlerDepths 2049 f_H_globals n_H_cells f_H_cells n_H_spare f_H_spare n_Q_links f_Q_links n_Q_pairs f_Q_pairs (nI 34) (nI 28)) (sw N I F (nI 28) wd) := by
  have hkt' : gf (fr - 1) + 1 ≤ t := hkt
  have ht := he.1.2.2.1
  have hgR := rR_height (N := N) hr he.1
  have hP := pm_28 (N := N) hgR (by omega) (by omega)
  obtain ⟨hG, hT, hC, hH', hnn⟩ := eR_hp he
  have hfit := fits_E (N := N) (q := 28) he (by omega) (by omega) hN hkt
  have i1 := is_K (N := N) (d := 1) (K := 6) hr (by omega) (by omega) ht (by omega) (by omega)
  by_cases h1 : kV G (gs (t - 1)) = 6
  · rw [if_pos h1] at i1
    have hk : kds G gs t 28 0 := by
      intro j _ hj
      have hj : j < 1 := hj
      have hj : j = 0 := by omega
      subst hj
      show kV G (gs (t - 1 + 0)) = 6
      rw [show t - 1 + 0 = t - 1 by omega]
      exact h1
    have hfit := hfit.1 hk M_status (nI p) (nI (p + 2)) M_fuel M_ticks M_depth (I 45) M_done
    obtain ⟨o1, v1, w1⟩ := kV_obj (G := G) (v := gs (t - 1)) (by omega)
    rw [h1] at w1
    refine pq_28 he hr hx h35 hkt' v1 w1 hfit ?_
    rw [hsw, hP]
  · rw [if_neg h1] at i1
    refine bad_op (L := L) hN he hr hx (by omega) (by omega) hkt (fun hk => h1 ?_) ?_
    · have h : kV G (gs (t - 1 + 0)) = 6 := hk 0 (Nat.zero_le _) (by decide)
      rw [show t - 1 + 0 = t - 1 by omega] at h
      exact h
    · rw [hsw, hP]
      unfold m_Model_strings
      rw [if_neg (show ¬ nI 28 = 27 by decide), if_pos (show nI 28 = 28 from rfl), show m_Model_is N I F 1 6 = some (nI 0) from i1, bind_s, if_pos (show nI 0 = 0 from rfl)]
      rw [show m_Model_next N I F 2 4 = _ from next_n (st := 4) 2 (by omega) (by omega), bind_s]
set_option maxRecDepth 4000 in
set_option maxHeartbeats 4000000 in
theorem pr_29 {p L : Nat} {wd : Int32} (hN : 400000 ≤ N) (he : eR nk nm nid G lE gg t gs fr gc hn gb gf gr hF hH hP hD S_top S_frames S_handlers n_S_values f_S_values n_S_bases f_S_bases n_S_floors f_S_floors n_S_returns f_S_returns n_S_closures f_S_closures n_S_handlerFrames f_S_handlerFrames n_S_handlerPlaces f_S_handlerPlaces n_S_handlerHeights f_S_handlerHeights n_S_handlerDepths f_S_handlerDepths H_globalsUsed H_used H_old H_oldLeadsToNew f_H_globals n_H_cells f_H_cells n_H_spare) (hr : rR nk nm nid G lR gg t gs fr gc hn gb gf gr hF hH hP hD I F) (hx : xR nm M_fuel M_ticks H_made M_depth B_names O_size n_O_bytes f_O_bytes n_Q_links f_Q_links n_Q_pairs n_H_cells I F) (h35 : I 35 = nI p) (h43 : I 43 = nI L) (hL : L ≤ 131072) (hkt : gf (fr - 1) + tkn 29 ≤ t) (hsw : sw N I F (nI 29) wd = m_Model_primitive N I F (nI 29)) :
    opR nm n_H_cells I F (potE n_S_values n_S_bases n_S_handlerFrames n_H_cells n_H_spare n_Q_links n_Q_pairs n_O_bytes) (m_Machine_perform N P_size P_constants P_closed P_open O_size S_top S_frames S_handlers H_globalsUsed H_used H_spareUsed H_old H_oldLeadsToNew (nI L) H_every H_fresh H_made (I 44) H_reachedFromGlobals H_reachedInAll H_keptGlobalsUsed H_kept B_names Q_size M_status (nI p) (nI (p + 2)) M_fuel M_ticks M_depth (I 45) M_done n_P_words f_P_words n_P_bytes f_P_bytes n_P_ends f_P_ends n_O_bytes f_O_bytes n_S_values f_S_values n_S_bases f_S_bases n_S_floors f_S_floors n_S_returns f_S_returns n_S_closures f_S_closures n_S_handlerFrames f_S_handlerFrames n_S_handlerPlaces f_S_handlerPlaces n_S_handlerHeights f_S_handlerHeights n_S_handlerDepths f_S_handlerDepths 2049 f_H_globals n_H_cells f_H_cells n_H_spare f_H_spare n_Q_links f_Q_links n_Q_pairs f_Q_pairs (nI 34) (nI 29)) (sw N I F (nI 29) wd) := by
  have hkt' : gf (fr - 1) + 1 ≤ t := hkt
  have ht := he.1.2.2.1
  have hgR := rR_height (N := N) hr he.1
  have hP := pm_29 (N := N) hgR (by omega) (by omega)
  obtain ⟨hG, hT, hC, hH', hnn⟩ := eR_hp he
  have hfit := fits_E (N := N) (q := 29) he (by omega) (by omega) hN hkt
  have i1 := isSc_K (N := N) (d := 1) hr (by omega) (by omega) ht
  by_cases h1 : kV G (gs (t - 1)) = 0
  · rw [if_pos h1] at i1
    have hk : kds G gs t 29 0 := by
      intro j _ hj
      have hj : j < 1 := hj
      have hj : j = 0 := by omega
      subst hj
      show kV G (gs (t - 1 + 0)) = 0
      rw [show t - 1 + 0 = t - 1 by omega]
      exact h1
    have hfit := hfit.1 hk M_status (nI p) (nI (p + 2)) M_fuel M_ticks M_depth (I 45) M_done
    obtain ⟨x1, v1⟩ := kV_sc hG (vE he (k := t - 1) (by omega)).2 h1
    refine pq_29 hN he hr hx h35 h43 hL hkt' v1 hfit ?_
    rw [hsw, hP, i1, bind_s, if_neg (show ¬ nI 1 = nI 0 by decide)]
  · rw [if_neg h1] at i1
    refine bad_op (L := L) hN he hr hx (by omega) (by omega) hkt (fun hk => h1 ?_) ?_
    · have h : kV G (gs (t - 1 + 0)) = 0 := hk 0 (Nat.zero_le _) (by decide)
      rw [show t - 1 + 0 = t - 1 by omega] at h
      exact h
    · rw [hsw, hP, i1, bind_s, if_pos (show nI 0 = nI 0 from rfl)]
set_option maxRecDepth 4000 in
set_option maxHeartbeats 4000000 in
theorem pr_30 {p L : Nat} {wd : Int32} (hN : 400000 ≤ N) (he : eR nk nm nid G lE gg t gs fr gc hn gb gf gr hF hH hP hD S_top S_frames S_handlers n_S_values f_S_values n_S_bases f_S_bases n_S_floors f_S_floors n_S_returns f_S_returns n_S_closures f_S_closures n_S_handlerFrames f_S_handlerFrames n_S_handlerPlaces f_S_handlerPlaces n_S_handlerHeights f_S_handlerHeights n_S_handlerDepths f_S_handlerDepths H_globalsUsed H_used H_old H_oldLeadsToNew f_H_globals n_H_cells f_H_cells n_H_spare) (hr : rR nk nm nid G lR gg t gs fr gc hn gb gf gr hF hH hP hD I F) (hx : xR nm M_fuel M_ticks H_made M_depth B_names O_size n_O_bytes f_O_bytes n_Q_links f_Q_links n_Q_pairs n_H_cells I F) (h35 : I 35 = nI p) (h43 : I 43 = nI L) (hL : L ≤ 131072) (hkt : gf (fr - 1) + tkn 30 ≤ t) (hsw : sw N I F (nI 30) wd = m_Model_primitive N I F (nI 30)) :
    opR nm n_H_cells I F (potE n_S_values n_S_bases n_S_handlerFrames n_H_cells n_H_spare n_Q_links n_Q_pairs n_O_bytes) (m_Machine_perform N P_size P_constants P_closed P_open O_size S_top S_frames S_handlers H_globalsUsed H_used H_spareUsed H_old H_oldLeadsToNew (nI L) H_every H_fresh H_made (I 44) H_reachedFromGlobals H_reachedInAll H_keptGlobalsUsed H_kept B_names Q_size M_status (nI p) (nI (p + 2)) M_fuel M_ticks M_depth (I 45) M_done n_P_words f_P_words n_P_bytes f_P_bytes n_P_ends f_P_ends n_O_bytes f_O_bytes n_S_values f_S_values n_S_bases f_S_bases n_S_floors f_S_floors n_S_returns f_S_returns n_S_closures f_S_closures n_S_handlerFrames f_S_handlerFrames n_S_handlerPlaces f_S_handlerPlaces n_S_handlerHeights f_S_handlerHeights n_S_handlerDepths f_S_handlerDepths 2049 f_H_globals n_H_cells f_H_cells n_H_spare f_H_spare n_Q_links f_Q_links n_Q_pairs f_Q_pairs (nI 34) (nI 30)) (sw N I F (nI 30) wd) := by
  have hkt' : gf (fr - 1) + 3 ≤ t := hkt
  have ht := he.1.2.2.1
  have hgR := rR_height (N := N) hr he.1
  have hP := pm_30 (N := N) hgR (by omega) (by omega)
  obtain ⟨hG, hT, hC, hH', hnn⟩ := eR_hp he
  have hfit := fits_E (N := N) (q := 30) he (by omega) (by omega) hN hkt
  have i3 := is_K (N := N) (d := 3) (K := 6) hr (by omega) (by omega) ht (by omega) (by omega)
  have i2 := isSc_K (N := N) (d := 2) hr (by omega) (by omega) ht
  have i1 := isSc_K (N := N) (d := 1) hr (by omega) (by omega) ht
  by_cases h3 : kV G (gs (t - 3)) = 6
  · by_cases h2 : kV G (gs (t - 2)) = 0
    · by_cases h1 : kV G (gs (t - 1)) = 0
      · rw [if_pos h3] at i3
        rw [if_pos h2] at i2
        rw [if_pos h1] at i1
        have hk : kds G gs t 30 0 := by
          intro j _ hj
          have hj : j < 3 := hj
          rcases (show j = 0 ∨ j = 1 ∨ j = 2 by omega) with rfl | rfl | rfl
          · show kV G (gs (t - 3 + 0)) = 6
            rw [show t - 3 + 0 = t - 3 by omega]
            exact h3
          · show kV G (gs (t - 3 + 1)) = 0
            rw [show t - 3 + 1 = t - 2 by omega]
            exact h2
          · show kV G (gs (t - 3 + 2)) = 0
            rw [show t - 3 + 2 = t - 1 by omega]
            exact h1
        have hfit := hfit.1 hk M_status (nI p) (nI (p + 2)) M_fuel M_ticks M_depth (I 45) M_done
        obtain ⟨o3, v3, w3⟩ := kV_obj (G := G) (v := gs (t - 3)) (by omega)
        rw [h3] at w3
        obtain ⟨x2, v2⟩ := kV_sc hG (vE he (k := t - 2) (by omega)).2 h2
        obtain ⟨x1, v1⟩ := kV_sc hG (vE he (k := t - 1) (by omega)).2 h1
        refine pq_30 hN he hr hx h35 h43 hL hkt' v3 v2 v1 w3 hfit ?_
        rw [hsw, hP]
        unfold m_Model_strings
        rw [if_neg (show ¬ nI 30 = 27 by decide), if_neg (show ¬ nI 30 = 28 by decide), if_neg (show ¬ nI 30 = 29 by decide), if_pos (show nI 30 = 30 from rfl), show m_Model_is N I F 3 6 = some (nI 1) from i3, bind_s, if_neg (show ¬ nI 1 = 0 by decide), show m_Model_isScalar N I F 2 = some (nI 1) from i2, bind_s, if_neg (show ¬ nI 1 = 0 by decide), show m_Model_isScalar N I F 1 = some (nI 1) from i1, bind_s, if_neg (show ¬ nI 1 = 0 by decide)]
        exact bind_3 _
      · rw [if_pos h3] at i3
        rw [if_pos h2] at i2
        rw [if_neg h1] at i1
        refine bad_op (L := L) hN he hr hx (by omega) (by omega) hkt (fun hk => h1 ?_) ?_
        · have h : kV G (gs (t - 3 + 2)) = 0 := hk 2 (Nat.zero_le _) (by decide)
          rw [show t - 3 + 2 = t - 1 by omega] at h
          exact h
        · rw [hsw, hP]
          unfold m_Model_strings
          rw [if_neg (show ¬ nI 30 = 27 by decide), if_neg (show ¬ nI 30 = 28 by decide), if_neg (show ¬ nI 30 = 29 by decide), if_pos (show nI 30 = 30 from rfl), show m_Model_is N I F 3 6 = some (nI 1) from i3, bind_s, if_neg (show ¬ nI 1 = 0 by decide), show m_Model_isScalar N I F 2 = some (nI 1) from i2, bind_s, if_neg (show ¬ nI 1 = 0 by decide), show m_Model_isScalar N I F 1 = some (nI 0) from i1, bind_s, if_pos (show nI 0 = 0 from rfl)]
          rfl
    · rw [if_pos h3] at i3
      rw [if_neg h2] at i2
      refine bad_op (L := L) hN he hr hx (by omega) (by omega) hkt (fun hk => h2 ?_) ?_
      · have h : kV G (gs (t - 3 + 1)) = 0 := hk 1 (Nat.zero_le _) (by decide)
        rw [show t - 3 + 1 = t - 2 by omega] at h
        exact h
      · rw [hsw, hP]
        unfold m_Model_strings
        rw [if_neg (show ¬ nI 30 = 27 by decide), if_neg (show ¬ nI 30 = 28 by decide), if_neg (show ¬ nI 30 = 29 by decide), if_pos (show nI 30 = 30 from rfl), show m_Model_is N I F 3 6 = some (nI 1) from i3, bind_s, if_neg (show ¬ nI 1 = 0 by decide), show m_Model_isScalar N I F 2 = some (nI 0) from i2, bind_s, if_pos (show nI 0 = 0 from rfl)]
        rfl
  · rw [if_neg h3] at i3
    refine bad_op (L := L) hN he hr hx (by omega) (by omega) hkt (fun hk => h3 ?_) ?_
    · have h : kV G (gs (t - 3 + 0)) = 6 := hk 0 (Nat.zero_le _) (by decide)
      rw [show t - 3 + 0 = t - 3 by omega] at h
      exact h
    · rw [hsw, hP]
      unfold m_Model_strings
      rw [if_neg (show ¬ nI 30 = 27 by decide), if_neg (show ¬ nI 30 = 28 by decide), if_neg (show ¬ nI 30 = 29 by decide), if_pos (show nI 30 = 30 from rfl), show m_Model_is N I F 3 6 = some (nI 0) from i3, bind_s, if_pos (show nI 0 = 0 from rfl)]
      rfl
set_option maxRecDepth 4000 in
set_option maxHeartbeats 4000000 in
theorem pr_31 {p L : Nat} {wd : Int32} (hN : 400000 ≤ N) (he : eR nk nm nid G lE gg t gs fr gc hn gb gf gr hF hH hP hD S_top S_frames S_handlers n_S_values f_S_values n_S_bases f_S_bases n_S_floors f_S_floors n_S_returns f_S_returns n_S_closures f_S_closures n_S_handlerFrames f_S_handlerFrames n_S_handlerPlaces f_S_handlerPlaces n_S_handlerHeights f_S_handlerHeights n_S_handlerDepths f_S_handlerDepths H_globalsUsed H_used H_old H_oldLeadsToNew f_H_globals n_H_cells f_H_cells n_H_spare) (hr : rR nk nm nid G lR gg t gs fr gc hn gb gf gr hF hH hP hD I F) (hx : xR nm M_fuel M_ticks H_made M_depth B_names O_size n_O_bytes f_O_bytes n_Q_links f_Q_links n_Q_pairs n_H_cells I F) (h35 : I 35 = nI p) (h43 : I 43 = nI L) (hL : L ≤ 131072) (hkt : gf (fr - 1) + tkn 31 ≤ t) (hsw : sw N I F (nI 31) wd = m_Model_primitive N I F (nI 31)) :
    opR nm n_H_cells I F (potE n_S_values n_S_bases n_S_handlerFrames n_H_cells n_H_spare n_Q_links n_Q_pairs n_O_bytes) (m_Machine_perform N P_size P_constants P_closed P_open O_size S_top S_frames S_handlers H_globalsUsed H_used H_spareUsed H_old H_oldLeadsToNew (nI L) H_every H_fresh H_made (I 44) H_reachedFromGlobals H_reachedInAll H_keptGlobalsUsed H_kept B_names Q_size M_status (nI p) (nI (p + 2)) M_fuel M_ticks M_depth (I 45) M_done n_P_words f_P_words n_P_bytes f_P_bytes n_P_ends f_P_ends n_O_bytes f_O_bytes n_S_values f_S_values n_S_bases f_S_bases n_S_floors f_S_floors n_S_returns f_S_returns n_S_closures f_S_closures n_S_handlerFrames f_S_handlerFrames n_S_handlerPlaces f_S_handlerPlaces n_S_handlerHeights f_S_handlerHeights n_S_handlerDepths f_S_handlerDepths 2049 f_H_globals n_H_cells f_H_cells n_H_spare f_H_spare n_Q_links f_Q_links n_Q_pairs f_Q_pairs (nI 34) (nI 31)) (sw N I F (nI 31) wd) := by
  have hkt' : gf (fr - 1) + 2 ≤ t := hkt
  have ht := he.1.2.2.1
  have hgR := rR_height (N := N) hr he.1
  have hP := pm_31 (N := N) hgR (by omega) (by omega)
  obtain ⟨hG, hT, hC, hH', hnn⟩ := eR_hp he
  have hfit := fits_E (N := N) (q := 31) he (by omega) (by omega) hN hkt
  have i2 := is_K (N := N) (d := 2) (K := 6) hr (by omega) (by omega) ht (by omega) (by omega)
  have i1 := isSc_K (N := N) (d := 1) hr (by omega) (by omega) ht
  by_cases h2 : kV G (gs (t - 2)) = 6
  · by_cases h1 : kV G (gs (t - 1)) = 0
    · rw [if_pos h2] at i2
      rw [if_pos h1] at i1
      have hk : kds G gs t 31 0 := by
        intro j _ hj
        have hj : j < 2 := hj
        rcases (show j = 0 ∨ j = 1 by omega) with rfl | rfl
        · show kV G (gs (t - 2 + 0)) = 6
          rw [show t - 2 + 0 = t - 2 by omega]
          exact h2
        · show kV G (gs (t - 2 + 1)) = 0
          rw [show t - 2 + 1 = t - 1 by omega]
          exact h1
      have hfit := hfit.1 hk M_status (nI p) (nI (p + 2)) M_fuel M_ticks M_depth (I 45) M_done
      obtain ⟨o2, v2, w2⟩ := kV_obj (G := G) (v := gs (t - 2)) (by omega)
      rw [h2] at w2
      obtain ⟨x1, v1⟩ := kV_sc hG (vE he (k := t - 1) (by omega)).2 h1
      refine pq_31 he hr hx h35 hkt' v2 v1 w2 hfit ?_
      rw [hsw, hP]
    · rw [if_pos h2] at i2
      rw [if_neg h1] at i1
      refine bad_op (L := L) hN he hr hx (by omega) (by omega) hkt (fun hk => h1 ?_) ?_
      · have h : kV G (gs (t - 2 + 1)) = 0 := hk 1 (Nat.zero_le _) (by decide)
        rw [show t - 2 + 1 = t - 1 by omega] at h
        exact h
      · rw [hsw, hP]
        unfold m_Model_strings
        rw [if_neg (show ¬ nI 31 = 27 by decide), if_neg (show ¬ nI 31 = 28 by decide), if_neg (show ¬ nI 31 = 29 by decide), if_neg (show ¬ nI 31 = 30 by decide), if_pos (show nI 31 = 31 from rfl), show m_Model_is N I F 2 6 = some (nI 1) from i2, bind_s, if_neg (show ¬ nI 1 = 0 by decide), show m_Model_isScalar N I F 1 = some (nI 0) from i1, bind_s, if_pos (show nI 0 = 0 from rfl)]
        rfl
  · rw [if_neg h2] at i2
    refine bad_op (L := L) hN he hr hx (by omega) (by omega) hkt (fun hk => h2 ?_) ?_
    · have h : kV G (gs (t - 2 + 0)) = 6 := hk 0 (Nat.zero_le _) (by decide)
      rw [show t - 2 + 0 = t - 2 by omega] at h
      exact h
    · rw [hsw, hP]
      unfold m_Model_strings
      rw [if_neg (show ¬ nI 31 = 27 by decide), if_neg (show ¬ nI 31 = 28 by decide), if_neg (show ¬ nI 31 = 29 by decide), if_neg (show ¬ nI 31 = 30 by decide), if_pos (show nI 31 = 31 from rfl), show m_Model_is N I F 2 6 = some (nI 0) from i2, bind_s, if_pos (show nI 0 = 0 from rfl)]
      rfl
set_option maxRecDepth 4000 in
set_option maxHeartbeats 4000000 in
theorem pr_32 {p L : Nat} {wd : Int32} (hN : 400000 ≤ N) (he : eR nk nm nid G lE gg t gs fr gc hn gb gf gr hF hH hP hD S_top S_frames S_handlers n_S_values f_S_values n_S_bases f_S_bases n_S_floors f_S_floors n_S_returns f_S_returns n_S_closures f_S_closures n_S_handlerFrames f_S_handlerFrames n_S_handlerPlaces f_S_handlerPlaces n_S_handlerHeights f_S_handlerHeights n_S_handlerDepths f_S_handlerDepths H_globalsUsed H_used H_old H_oldLeadsToNew f_H_globals n_H_cells f_H_cells n_H_spare) (hr : rR nk nm nid G lR gg t gs fr gc hn gb gf gr hF hH hP hD I F) (hx : xR nm M_fuel M_ticks H_made M_depth B_names O_size n_O_bytes f_O_bytes n_Q_links f_Q_links n_Q_pairs n_H_cells I F) (h35 : I 35 = nI p) (h43 : I 43 = nI L) (hL : L ≤ 131072) (hkt : gf (fr - 1) + tkn 32 ≤ t) (hsw : sw N I F (nI 32) wd = m_Model_primitive N I F (nI 32)) :
    opR nm n_H_cells I F (potE n_S_values n_S_bases n_S_handlerFrames n_H_cells n_H_spare n_Q_links n_Q_pairs n_O_bytes) (m_Machine_perform N P_size P_constants P_closed P_open O_size S_top S_frames S_handlers H_globalsUsed H_used H_spareUsed H_old H_oldLeadsToNew (nI L) H_every H_fresh H_made (I 44) H_reachedFromGlobals H_reachedInAll H_keptGlobalsUsed H_kept B_names Q_size M_status (nI p) (nI (p + 2)) M_fuel M_ticks M_depth (I 45) M_done n_P_words f_P_words n_P_bytes f_P_bytes n_P_ends f_P_ends n_O_bytes f_O_bytes n_S_values f_S_values n_S_bases f_S_bases n_S_floors f_S_floors n_S_returns f_S_returns n_S_closures f_S_closures n_S_handlerFrames f_S_handlerFrames n_S_handlerPlaces f_S_handlerPlaces n_S_handlerHeights f_S_handlerHeights n_S_handlerDepths f_S_handlerDepths 2049 f_H_globals n_H_cells f_H_cells n_H_spare f_H_spare n_Q_links f_Q_links n_Q_pairs f_Q_pairs (nI 34) (nI 32)) (sw N I F (nI 32) wd) := by
  have hkt' : gf (fr - 1) + 2 ≤ t := hkt
  have ht := he.1.2.2.1
  have hgR := rR_height (N := N) hr he.1
  have hP := pm_32 (N := N) hgR (by omega) (by omega)
  obtain ⟨hG, hT, hC, hH', hnn⟩ := eR_hp he
  have hfit := fits_E (N := N) (q := 32) he (by omega) (by omega) hN hkt
  have i1 := is_K (N := N) (d := 1) (K := 6) hr (by omega) (by omega) ht (by omega) (by omega)
  have i2 := is_K (N := N) (d := 2) (K := 6) hr (by omega) (by omega) ht (by omega) (by omega)
  by_cases h1 : kV G (gs (t - 1)) = 6
  · by_cases h2 : kV G (gs (t - 2)) = 6
    · rw [if_pos h1] at i1
      rw [if_pos h2] at i2
      have hk : kds G gs t 32 0 := by
        intro j _ hj
        have hj : j < 2 := hj
        rcases (show j = 0 ∨ j = 1 by omega) with rfl | rfl
        · show kV G (gs (t - 2 + 0)) = 6
          rw [show t - 2 + 0 = t - 2 by omega]
          exact h2
        · show kV G (gs (t - 2 + 1)) = 6
          rw [show t - 2 + 1 = t - 1 by omega]
          exact h1
      have hfit := hfit.1 hk M_status (nI p) (nI (p + 2)) M_fuel M_ticks M_depth (I 45) M_done
      obtain ⟨o2, v2, w2⟩ := kV_obj (G := G) (v := gs (t - 2)) (by omega)
      rw [h2] at w2
      obtain ⟨o1, v1, w1⟩ := kV_obj (G := G) (v := gs (t - 1)) (by omega)
      rw [h1] at w1
      refine pq_32 hN he hr hx h35 hkt' v2 v1 w2 w1 hfit ?_
      rw [hsw, hP]
    · rw [if_pos h1] at i1
      rw [if_neg h2] at i2
      refine bad_op (L := L) hN he hr hx (by omega) (by omega) hkt (fun hk => h2 ?_) ?_
      · have h : kV G (gs (t - 2 + 0)) = 6 := hk 0 (Nat.zero_le _) (by decide)
        rw [show t - 2 + 0 = t - 2 by omega] at h
        exact h
      · rw [hsw, hP]
        unfold m_Model_strings
        rw [if_neg (show ¬ nI 32 = 27 by decide), if_neg (show ¬ nI 32 = 28 by decide), if_neg (show ¬ nI 32 = 29 by decide), if_neg (show ¬ nI 32 = 30 by decide), if_neg (show ¬ nI 32 = 31 by decide), if_pos (show nI 32 = 32 from rfl), show m_Model_is N I F 1 6 = some (nI 1) from i1, bind_s, if_neg (show ¬ nI 1 = 0 by decide), show m_Model_is N I F 2 6 = some (nI 0) from i2, bind_s, if_pos (show nI 0 = 0 from rfl)]
        rw [show m_Model_next N I F 2 4 = _ from next_n (st := 4) 2 (by omega) (by omega), bind_s]
  · rw [if_neg h1] at i1
    refine bad_op (L := L) hN he hr hx (by omega) (by omega) hkt (fun hk => h1 ?_) ?_
    · have h : kV G (gs (t - 2 + 1)) = 6 := hk 1 (Nat.zero_le _) (by decide)
      rw [show t - 2 + 1 = t - 1 by omega] at h
      exact h
    · rw [hsw, hP]
      unfold m_Model_strings
      rw [if_neg (show ¬ nI 32 = 27 by decide), if_neg (show ¬ nI 32 = 28 by decide), if_neg (show ¬ nI 32 = 29 by decide), if_neg (show ¬ nI 32 = 30 by decide), if_neg (show ¬ nI 32 = 31 by decide), if_pos (show nI 32 = 32 from rfl), show m_Model_is N I F 1 6 = some (nI 0) from i1, bind_s, if_pos (show nI 0 = 0 from rfl)]
      rw [show m_Model_next N I F 2 4 = _ from next_n (st := 4) 2 (by omega) (by omega), bind_s]
set_option maxRecDepth 4000 in
set_option maxHeartbeats 4000000 in
theorem pr_33 {p L : Nat} {wd : Int32} (hN : 400000 ≤ N) (he : eR nk nm nid G lE gg t gs fr gc hn gb gf gr hF hH hP hD S_top S_frames S_handlers n_S_values f_S_values n_S_bases f_S_bases n_S_floors f_S_floors n_S_returns f_S_returns n_S_closures f_S_closures n_S_handlerFrames f_S_handlerFrames n_S_handlerPlaces f_S_handlerPlaces n_S_handlerHeights f_S_handlerHeights n_S_handlerDepths f_S_handlerDepths H_globalsUsed H_used H_old H_oldLeadsToNew f_H_globals n_H_cells f_H_cells n_H_spare) (hr : rR nk nm nid G lR gg t gs fr gc hn gb gf gr hF hH hP hD I F) (hx : xR nm M_fuel M_ticks H_made M_depth B_names O_size n_O_bytes f_O_bytes n_Q_links f_Q_links n_Q_pairs n_H_cells I F) (h35 : I 35 = nI p) (h43 : I 43 = nI L) (hL : L ≤ 131072) (hkt : gf (fr - 1) + tkn 33 ≤ t) (hsw : sw N I F (nI 33) wd = m_Model_primitive N I F (nI 33)) :
    opR nm n_H_cells I F (potE n_S_values n_S_bases n_S_handlerFrames n_H_cells n_H_spare n_Q_links n_Q_pairs n_O_bytes) (m_Machine_perform N P_size P_constants P_closed P_open O_size S_top S_frames S_handlers H_globalsUsed H_used H_spareUsed H_old H_oldLeadsToNew (nI L) H_every H_fresh H_made (I 44) H_reachedFromGlobals H_reachedInAll H_keptGlobalsUsed H_kept B_names Q_size M_status (nI p) (nI (p + 2)) M_fuel M_ticks M_depth (I 45) M_done n_P_words f_P_words n_P_bytes f_P_bytes n_P_ends f_P_ends n_O_bytes f_O_bytes n_S_values f_S_values n_S_bases f_S_bases n_S_floors f_S_floors n_S_returns f_S_returns n_S_closures f_S_closures n_S_handlerFrames f_S_handlerFrames n_S_handlerPlaces f_S_handlerPlaces n_S_handlerHeights f_S_handlerHeights n_S_handlerDepths f_S_handlerDepths 2049 f_H_globals n_H_cells f_H_cells n_H_spare f_H_spare n_Q_links f_Q_links n_Q_pairs f_Q_pairs (nI 34) (nI 33)) (sw N I F (nI 33) wd) := by
  have hkt' : gf (fr - 1) + 2 ≤ t := hkt
  have ht := he.1.2.2.1
  have hgR := rR_height (N := N) hr he.1
  have hP := pm_33 (N := N) hgR (by omega) (by omega)
  obtain ⟨hG, hT, hC, hH', hnn⟩ := eR_hp he
  have hfit := fits_E (N := N) (q := 33) he (by omega) (by omega) hN hkt
  have i1 := is_K (N := N) (d := 1) (K := 6) hr (by omega) (by omega) ht (by omega) (by omega)
  have i2 := is_K (N := N) (d := 2) (K := 6) hr (by omega) (by omega) ht (by omega) (by omega)
  by_cases h1 : kV G (gs (t - 1)) = 6
  · by_cases h2 : kV G (gs (t - 2)) = 6
    · rw [if_pos h1] at i1
      rw [if_pos h2] at i2
      have hk : kds G gs t 33 0 := by
        intro j _ hj
        have hj : j < 2 := hj
        rcases (show j = 0 ∨ j = 1 by omega) with rfl | rfl
        · show kV G (gs (t - 2 + 0)) = 6
          rw [show t - 2 + 0 = t - 2 by omega]
          exact h2
        · show kV G (gs (t - 2 + 1)) = 6
          rw [show t - 2 + 1 = t - 1 by omega]
          exact h1
      have hfit := hfit.1 hk M_status (nI p) (nI (p + 2)) M_fuel M_ticks M_depth (I 45) M_done
      obtain ⟨o2, v2, w2⟩ := kV_obj (G := G) (v := gs (t - 2)) (by omega)
      rw [h2] at w2
      obtain ⟨o1, v1, w1⟩ := kV_obj (G := G) (v := gs (t - 1)) (by omega)
      rw [h1] at w1
      refine pq_33 hN he hr hx h35 hkt' v2 v1 w2 w1 hfit ?_
      rw [hsw, hP]
    · rw [if_pos h1] at i1
      rw [if_neg h2] at i2
      refine bad_op (L := L) hN he hr hx (by omega) (by omega) hkt (fun hk => h2 ?_) ?_
      · have h : kV G (gs (t - 2 + 0)) = 6 := hk 0 (Nat.zero_le _) (by decide)
        rw [show t - 2 + 0 = t - 2 by omega] at h
        exact h
      · rw [hsw, hP]
        unfold m_Model_strings
        rw [if_neg (show ¬ nI 33 = 27 by decide), if_neg (show ¬ nI 33 = 28 by decide), if_neg (show ¬ nI 33 = 29 by decide), if_neg (show ¬ nI 33 = 30 by decide), if_neg (show ¬ nI 33 = 31 by decide), if_neg (show ¬ nI 33 = 32 by decide), if_pos (show nI 33 = 33 from rfl), show m_Model_is N I F 1 6 = some (nI 1) from i1, bind_s, if_neg (show ¬ nI 1 = 0 by decide), show m_Model_is N I F 2 6 = some (nI 0) from i2, bind_s, if_pos (show nI 0 = 0 from rfl)]
        rw [show m_Model_next N I F 2 4 = _ from next_n (st := 4) 2 (by omega) (by omega), bind_s]
  · rw [if_neg h1] at i1
    refine bad_op (L := L) hN he hr hx (by omega) (by omega) hkt (fun hk => h1 ?_) ?_
    · have h : kV G (gs (t - 2 + 1)) = 6 := hk 1 (Nat.zero_le _) (by decide)
      rw [show t - 2 + 1 = t - 1 by omega] at h
      exact h
    · rw [hsw, hP]
      unfold m_Model_strings
      rw [if_neg (show ¬ nI 33 = 27 by decide), if_neg (show ¬ nI 33 = 28 by decide), if_neg (show ¬ nI 33 = 29 by decide), if_neg (show ¬ nI 33 = 30 by decide), if_neg (show ¬ nI 33 = 31 by decide), if_neg (show ¬ nI 33 = 32 by decide), if_pos (show nI 33 = 33 from rfl), show m_Model_is N I F 1 6 = some (nI 0) from i1, bind_s, if_pos (show nI 0 = 0 from rfl)]
      rw [show m_Model_next N I F 2 4 = _ from next_n (st := 4) 2 (by omega) (by omega), bind_s]
set_option maxRecDepth 4000 in
set_option maxHeartbeats 4000000 in
theorem pr_34 {p L : Nat} {wd : Int32} (hN : 400000 ≤ N) (he : eR nk nm nid G lE gg t gs fr gc hn gb gf gr hF hH hP hD S_top S_frames S_handlers n_S_values f_S_values n_S_bases f_S_bases n_S_floors f_S_floors n_S_returns f_S_returns n_S_closures f_S_closures n_S_handlerFrames f_S_handlerFrames n_S_handlerPlaces f_S_handlerPlaces n_S_handlerHeights f_S_handlerHeights n_S_handlerDepths f_S_handlerDepths H_globalsUsed H_used H_old H_oldLeadsToNew f_H_globals n_H_cells f_H_cells n_H_spare) (hr : rR nk nm nid G lR gg t gs fr gc hn gb gf gr hF hH hP hD I F) (hx : xR nm M_fuel M_ticks H_made M_depth B_names O_size n_O_bytes f_O_bytes n_Q_links f_Q_links n_Q_pairs n_H_cells I F) (h35 : I 35 = nI p) (h43 : I 43 = nI L) (hL : L ≤ 131072) (hkt : gf (fr - 1) + tkn 34 ≤ t) (hsw : sw N I F (nI 34) wd = m_Model_primitive N I F (nI 34)) :
    opR nm n_H_cells I F (potE n_S_values n_S_bases n_S_handlerFrames n_H_cells n_H_spare n_Q_links n_Q_pairs n_O_bytes) (m_Machine_perform N P_size P_constants P_closed P_open O_size S_top S_frames S_handlers H_globalsUsed H_used H_spareUsed H_old H_oldLeadsToNew (nI L) H_every H_fresh H_made (I 44) H_reachedFromGlobals H_reachedInAll H_keptGlobalsUsed H_kept B_names Q_size M_status (nI p) (nI (p + 2)) M_fuel M_ticks M_depth (I 45) M_done n_P_words f_P_words n_P_bytes f_P_bytes n_P_ends f_P_ends n_O_bytes f_O_bytes n_S_values f_S_values n_S_bases f_S_bases n_S_floors f_S_floors n_S_returns f_S_returns n_S_closures f_S_closures n_S_handlerFrames f_S_handlerFrames n_S_handlerPlaces f_S_handlerPlaces n_S_handlerHeights f_S_handlerHeights n_S_handlerDepths f_S_handlerDepths 2049 f_H_globals n_H_cells f_H_cells n_H_spare f_H_spare n_Q_links f_Q_links n_Q_pairs f_Q_pairs (nI 34) (nI 34)) (sw N I F (nI 34) wd) := by
  have hkt' : gf (fr - 1) + 2 ≤ t := hkt
  have ht := he.1.2.2.1
  have hgR := rR_height (N := N) hr he.1
  have hP := pm_34 (N := N) hgR (by omega) (by omega)
  obtain ⟨hG, hT, hC, hH', hnn⟩ := eR_hp he
  have hfit := fits_E (N := N) (q := 34) he (by omega) (by omega) hN hkt
  have i1 := is_K (N := N) (d := 1) (K := 6) hr (by omega) (by omega) ht (by omega) (by omega)
  have i2 := is_K (N := N) (d := 2) (K := 6) hr (by omega) (by omega) ht (by omega) (by omega)
  by_cases h1 : kV G (gs (t - 1)) = 6
  · by_cases h2 : kV G (gs (t - 2)) = 6
    · rw [if_pos h1] at i1
      rw [if_pos h2] at i2
      have hk : kds G gs t 34 0 := by
        intro j _ hj
        have hj : j < 2 := hj
        rcases (show j = 0 ∨ j = 1 by omega) with rfl | rfl
        · show kV G (gs (t - 2 + 0)) = 6
          rw [show t - 2 + 0 = t - 2 by omega]
          exact h2
        · show kV G (gs (t - 2 + 1)) = 6
          rw [show t - 2 + 1 = t - 1 by omega]
          exact h1
      have hfit := hfit.1 hk M_status (nI p) (nI (p + 2)) M_fuel M_ticks M_depth (I 45) M_done
      obtain ⟨o2, v2, w2⟩ := kV_obj (G := G) (v := gs (t - 2)) (by omega)
      rw [h2] at w2
      obtain ⟨o1, v1, w1⟩ := kV_obj (G := G) (v := gs (t - 1)) (by omega)
      rw [h1] at w1
      refine pq_34 hN he hr hx h35 hkt' v2 v1 w2 w1 hfit ?_
      rw [hsw, hP]
    · rw [if_pos h1] at i1
      rw [if_neg h2] at i2
      refine bad_op (L := L) hN he hr hx (by omega) (by omega) hkt (fun hk => h2 ?_) ?_
      · have h : kV G (gs (t - 2 + 0)) = 6 := hk 0 (Nat.zero_le _) (by decide)
        rw [show t - 2 + 0 = t - 2 by omega] at h
        exact h
      · rw [hsw, hP]
        unfold m_Model_strings
        rw [if_neg (show ¬ nI 34 = 27 by decide), if_neg (show ¬ nI 34 = 28 by decide), if_neg (show ¬ nI 34 = 29 by decide), if_neg (show ¬ nI 34 = 30 by decide), if_neg (show ¬ nI 34 = 31 by decide), if_neg (show ¬ nI 34 = 32 by decide), if_neg (show ¬ nI 34 = 33 by decide), if_pos (show nI 34 = 34 from rfl), show m_Model_is N I F 1 6 = some (nI 1) from i1, bind_s, if_neg (show ¬ nI 1 = 0 by decide), show m_Model_is N I F 2 6 = some (nI 0) from i2, bind_s, if_pos (show nI 0 = 0 from rfl)]
        rw [show m_Model_next N I F 2 4 = _ from next_n (st := 4) 2 (by omega) (by omega), bind_s]
  · rw [if_neg h1] at i1
    refine bad_op (L := L) hN he hr hx (by omega) (by omega) hkt (fun hk => h1 ?_) ?_
    · have h : kV G (gs (t - 2 + 1)) = 6 := hk 1 (Nat.zero_le _) (by decide)
      rw [show t - 2 + 1 = t - 1 by omega] at h
      exact h
    · rw [hsw, hP]
      unfold m_Model_strings
      rw [if_neg (show ¬ nI 34 = 27 by decide), if_neg (show ¬ nI 34 = 28 by decide), if_neg (show ¬ nI 34 = 29 by decide), if_neg (show ¬ nI 34 = 30 by decide), if_neg (show ¬ nI 34 = 31 by decide), if_neg (show ¬ nI 34 = 32 by decide), if_neg (show ¬ nI 34 = 33 by decide), if_pos (show nI 34 = 34 from rfl), show m_Model_is N I F 1 6 = some (nI 0) from i1, bind_s, if_pos (show nI 0 = 0 from rfl)]
      rw [show m_Model_next N I F 2 4 = _ from next_n (st := 4) 2 (by omega) (by omega), bind_s]
set_option maxRecDepth 4000 in
set_option maxHeartbeats 4000000 in
theorem pr_35 {p L : Nat} {wd : Int32} (hN : 400000 ≤ N) (he : eR nk nm nid G lE gg t gs fr gc hn gb gf gr hF hH hP hD S_top S_frames S_handlers n_S_values f_S_values n_S_bases f_S_bases n_S_floors f_S_floors n_S_returns f_S_returns n_S_closures f_S_closures n_S_handlerFrames f_S_handlerFrames n_S_handlerPlaces f_S_handlerPlaces n_S_handlerHeights f_S_handlerHeights n_S_handlerDepths f_S_handlerDepths H_globalsUsed H_used H_old H_oldLeadsToNew f_H_globals n_H_cells f_H_cells n_H_spare) (hr : rR nk nm nid G lR gg t gs fr gc hn gb gf gr hF hH hP hD I F) (hx : xR nm M_fuel M_ticks H_made M_depth B_names O_size n_O_bytes f_O_bytes n_Q_links f_Q_links n_Q_pairs n_H_cells I F) (h35 : I 35 = nI p) (h43 : I 43 = nI L) (hL : L ≤ 131072) (hkt : gf (fr - 1) + tkn 35 ≤ t) (hsw : sw N I F (nI 35) wd = m_Model_primitive N I F (nI 35)) :
    opR nm n_H_cells I F (potE n_S_values n_S_bases n_S_handlerFrames n_H_cells n_H_spare n_Q_links n_Q_pairs n_O_bytes) (m_Machine_perform N P_size P_constants P_closed P_open O_size S_top S_frames S_handlers H_globalsUsed H_used H_spareUsed H_old H_oldLeadsToNew (nI L) H_every H_fresh H_made (I 44) H_reachedFromGlobals H_reachedInAll H_keptGlobalsUsed H_kept B_names Q_size M_status (nI p) (nI (p + 2)) M_fuel M_ticks M_depth (I 45) M_done n_P_words f_P_words n_P_bytes f_P_bytes n_P_ends f_P_ends n_O_bytes f_O_bytes n_S_values f_S_values n_S_bases f_S_bases n_S_floors f_S_floors n_S_returns f_S_returns n_S_closures f_S_closures n_S_handlerFrames f_S_handlerFrames n_S_handlerPlaces f_S_handlerPlaces n_S_handlerHeights f_S_handlerHeights n_S_handlerDepths f_S_handlerDepths 2049 f_H_globals n_H_cells f_H_cells n_H_spare f_H_spare n_Q_links f_Q_links n_Q_pairs f_Q_pairs (nI 34) (nI 35)) (sw N I F (nI 35) wd) := by
  have hkt' : gf (fr - 1) + 2 ≤ t := hkt
  have ht := he.1.2.2.1
  have hgR := rR_height (N := N) hr he.1
  have hP := pm_35 (N := N) hgR (by omega) (by omega)
  obtain ⟨hG, hT, hC, hH', hnn⟩ := eR_hp he
  have hfit := fits_E (N := N) (q := 35) he (by omega) (by omega) hN hkt
  have i1 := is_K (N := N) (d := 1) (K := 6) hr (by omega) (by omega) ht (by omega) (by omega)
  have i2 := is_K (N := N) (d := 2) (K := 6) hr (by omega) (by omega) ht (by omega) (by omega)
  by_cases h1 : kV G (gs (t - 1)) = 6
  · by_cases h2 : kV G (gs (t - 2)) = 6
    · rw [if_pos h1] at i1
      rw [if_pos h2] at i2
      have hk : kds G gs t 35 0 := by
        intro j _ hj
        have hj : j < 2 := hj
        rcases (show j = 0 ∨ j = 1 by omega) with rfl | rfl
        · show kV G (gs (t - 2 + 0)) = 6
          rw [show t - 2 + 0 = t - 2 by omega]
          exact h2
        · show kV G (gs (t - 2 + 1)) = 6
          rw [show t - 2 + 1 = t - 1 by omega]
          exact h1
      have hfit := hfit.1 hk M_status (nI p) (nI (p + 2)) M_fuel M_ticks M_depth (I 45) M_done
      obtain ⟨o2, v2, w2⟩ := kV_obj (G := G) (v := gs (t - 2)) (by omega)
      rw [h2] at w2
      obtain ⟨o1, v1, w1⟩ := kV_obj (G := G) (v := gs (t - 1)) (by omega)
      rw [h1] at w1
      refine pq_35 hN he hr hx h35 hkt' v2 v1 w2 w1 hfit ?_
      rw [hsw, hP]
    · rw [if_pos h1] at i1
      rw [if_neg h2] at i2
      refine bad_op (L := L) hN he hr hx (by omega) (by omega) hkt (fun hk => h2 ?_) ?_
      · have h : kV G (gs (t - 2 + 0)) = 6 := hk 0 (Nat.zero_le _) (by decide)
        rw [show t - 2 + 0 = t - 2 by omega] at h
        exact h
      · rw [hsw, hP]
        unfold m_Model_strings
        rw [if_neg (show ¬ nI 35 = 27 by decide), if_neg (show ¬ nI 35 = 28 by decide), if_neg (show ¬ nI 35 = 29 by decide), if_neg (show ¬ nI 35 = 30 by decide), if_neg (show ¬ nI 35 = 31 by decide), if_neg (show ¬ nI 35 = 32 by decide), if_neg (show ¬ nI 35 = 33 by decide), if_neg (show ¬ nI 35 = 34 by decide), if_pos (show nI 35 = 35 from rfl), show m_Model_is N I F 1 6 = some (nI 1) from i1, bind_s, if_neg (show ¬ nI 1 = 0 by decide), show m_Model_is N I F 2 6 = some (nI 0) from i2, bind_s, if_pos (show nI 0 = 0 from rfl)]
        rw [show m_Model_next N I F 2 4 = _ from next_n (st := 4) 2 (by omega) (by omega), bind_s]
  · rw [if_neg h1] at i1
    refine bad_op (L := L) hN he hr hx (by omega) (by omega) hkt (fun hk => h1 ?_) ?_
    · have h : kV G (gs (t - 2 + 1)) = 6 := hk 1 (Nat.zero_le _) (by decide)
      rw [show t - 2 + 1 = t - 1 by omega] at h
      exact h
    · rw [hsw, hP]
      unfold m_Model_strings
      rw [if_neg (show ¬ nI 35 = 27 by decide), if_neg (show ¬ nI 35 = 28 by decide), if_neg (show ¬ nI 35 = 29 by decide), if_neg (show ¬ nI 35 = 30 by decide), if_neg (show ¬ nI 35 = 31 by decide), if_neg (show ¬ nI 35 = 32 by decide), if_neg (show ¬ nI 35 = 33 by decide), if_neg (show ¬ nI 35 = 34 by decide), if_pos (show nI 35 = 35 from rfl), show m_Model_is N I F 1 6 = some (nI 0) from i1, bind_s, if_pos (show nI 0 = 0 from rfl)]
      rw [show m_Model_next N I F 2 4 = _ from next_n (st := 4) 2 (by omega) (by omega), bind_s]
set_option maxRecDepth 4000 in
set_option maxHeartbeats 4000000 in
theorem pr_36 {p L : Nat} {wd : Int32} (hN : 400000 ≤ N) (he : eR nk nm nid G lE gg t gs fr gc hn gb gf gr hF hH hP hD S_top S_frames S_handlers n_S_values f_S_values n_S_bases f_S_bases n_S_floors f_S_floors n_S_returns f_S_returns n_S_closures f_S_closures n_S_handlerFrames f_S_handlerFrames n_S_handlerPlaces f_S_handlerPlaces n_S_handlerHeights f_S_handlerHeights n_S_handlerDepths f_S_handlerDepths H_globalsUsed H_used H_old H_oldLeadsToNew f_H_globals n_H_cells f_H_cells n_H_spare) (hr : rR nk nm nid G lR gg t gs fr gc hn gb gf gr hF hH hP hD I F) (hx : xR nm M_fuel M_ticks H_made M_depth B_names O_size n_O_bytes f_O_bytes n_Q_links f_Q_links n_Q_pairs n_H_cells I F) (h35 : I 35 = nI p) (h43 : I 43 = nI L) (hL : L ≤ 131072) (hkt : gf (fr - 1) + tkn 36 ≤ t) (hsw : sw N I F (nI 36) wd = m_Model_primitive N I F (nI 36)) :
    opR nm n_H_cells I F (potE n_S_values n_S_bases n_S_handlerFrames n_H_cells n_H_spare n_Q_links n_Q_pairs n_O_bytes) (m_Machine_perform N P_size P_constants P_closed P_open O_size S_top S_frames S_handlers H_globalsUsed H_used H_spareUsed H_old H_oldLeadsToNew (nI L) H_every H_fresh H_made (I 44) H_reachedFromGlobals H_reachedInAll H_keptGlobalsUsed H_kept B_names Q_size M_status (nI p) (nI (p + 2)) M_fuel M_ticks M_depth (I 45) M_done n_P_words f_P_words n_P_bytes f_P_bytes n_P_ends f_P_ends n_O_bytes f_O_bytes n_S_values f_S_values n_S_bases f_S_bases n_S_floors f_S_floors n_S_returns f_S_returns n_S_closures f_S_closures n_S_handlerFrames f_S_handlerFrames n_S_handlerPlaces f_S_handlerPlaces n_S_handlerHeights f_S_handlerHeights n_S_handlerDepths f_S_handlerDepths 2049 f_H_globals n_H_cells f_H_cells n_H_spare f_H_spare n_Q_links f_Q_links n_Q_pairs f_Q_pairs (nI 34) (nI 36)) (sw N I F (nI 36) wd) := by
  have hkt' : gf (fr - 1) + 2 ≤ t := hkt
  have ht := he.1.2.2.1
  have hgR := rR_height (N := N) hr he.1
  have hP := pm_36 (N := N) hgR (by omega) (by omega)
  obtain ⟨hG, hT, hC, hH', hnn⟩ := eR_hp he
  have hfit := fits_E (N := N) (q := 36) he (by omega) (by omega) hN hkt
  have i1 := is_K (N := N) (d := 1) (K := 6) hr (by omega) (by omega) ht (by omega) (by omega)
  have i2 := is_K (N := N) (d := 2) (K := 6) hr (by omega) (by omega) ht (by omega) (by omega)
  by_cases h1 : kV G (gs (t - 1)) = 6
  · by_cases h2 : kV G (gs (t - 2)) = 6
    · rw [if_pos h1] at i1
      rw [if_pos h2] at i2
      have hk : kds G gs t 36 0 := by
        intro j _ hj
        have hj : j < 2 := hj
        rcases (show j = 0 ∨ j = 1 by omega) with rfl | rfl
        · show kV G (gs (t - 2 + 0)) = 6
          rw [show t - 2 + 0 = t - 2 by omega]
          exact h2
        · show kV G (gs (t - 2 + 1)) = 6
          rw [show t - 2 + 1 = t - 1 by omega]
          exact h1
      have hfit := hfit.1 hk M_status (nI p) (nI (p + 2)) M_fuel M_ticks M_depth (I 45) M_done
      obtain ⟨o2, v2, w2⟩ := kV_obj (G := G) (v := gs (t - 2)) (by omega)
      rw [h2] at w2
      obtain ⟨o1, v1, w1⟩ := kV_obj (G := G) (v := gs (t - 1)) (by omega)
      rw [h1] at w1
      refine pq_36 hN he hr hx h35 hkt' v2 v1 w2 w1 hfit ?_
      rw [hsw, hP]
    · rw [if_pos h1] at i1
      rw [if_neg h2] at i2
      refine bad_op (L := L) hN he hr hx (by omega) (by omega) hkt (fun hk => h2 ?_) ?_
      · have h : kV G (gs (t - 2 + 0)) = 6 := hk 0 (Nat.zero_le _) (by decide)
        rw [show t - 2 + 0 = t - 2 by omega] at h
        exact h
      · rw [hsw, hP]
        unfold m_Model_strings
        rw [if_neg (show ¬ nI 36 = 27 by decide), if_neg (show ¬ nI 36 = 28 by decide), if_neg (show ¬ nI 36 = 29 by decide), if_neg (show ¬ nI 36 = 30 by decide), if_neg (show ¬ nI 36 = 31 by decide), if_neg (show ¬ nI 36 = 32 by decide), if_neg (show ¬ nI 36 = 33 by decide), if_neg (show ¬ nI 36 = 34 by decide), if_neg (show ¬ nI 36 = 35 by decide), if_pos (show nI 36 = 36 from rfl), show m_Model_is N I F 1 6 = some (nI 1) from i1, bind_s, if_neg (show ¬ nI 1 = 0 by decide), show m_Model_is N I F 2 6 = some (nI 0) from i2, bind_s, if_pos (show nI 0 = 0 from rfl)]
        rw [show m_Model_next N I F 2 4 = _ from next_n (st := 4) 2 (by omega) (by omega), bind_s]
  · rw [if_neg h1] at i1
    refine bad_op (L := L) hN he hr hx (by omega) (by omega) hkt (fun hk => h1 ?_) ?_
    · have h : kV G (gs (t - 2 + 1)) = 6 := hk 1 (Nat.zero_le _) (by decide)
      rw [show t - 2 + 1 = t - 1 by omega] at h
      exact h
    · rw [hsw, hP]
      unfold m_Model_strings
      rw [if_neg (show ¬ nI 36 = 27 by decide), if_neg (show ¬ nI 36 = 28 by decide), if_neg (show ¬ nI 36 = 29 by decide), if_neg (show ¬ nI 36 = 30 by decide), if_neg (show ¬ nI 36 = 31 by decide), if_neg (show ¬ nI 36 = 32 by decide), if_neg (show ¬ nI 36 = 33 by decide), if_neg (show ¬ nI 36 = 34 by decide), if_neg (show ¬ nI 36 = 35 by decide), if_pos (show nI 36 = 36 from rfl), show m_Model_is N I F 1 6 = some (nI 0) from i1, bind_s, if_pos (show nI 0 = 0 from rfl)]
      rw [show m_Model_next N I F 2 4 = _ from next_n (st := 4) 2 (by omega) (by omega), bind_s]
set_option maxRecDepth 4000 in
set_option maxHeartbeats 4000000 in
theorem pr_37 {p L : Nat} {wd : Int32} (hN : 400000 ≤ N) (he : eR nk nm nid G lE gg t gs fr gc hn gb gf gr hF hH hP hD S_top S_frames S_handlers n_S_values f_S_values n_S_bases f_S_bases n_S_floors f_S_floors n_S_returns f_S_returns n_S_closures f_S_closures n_S_handlerFrames f_S_handlerFrames n_S_handlerPlaces f_S_handlerPlaces n_S_handlerHeights f_S_handlerHeights n_S_handlerDepths f_S_handlerDepths H_globalsUsed H_used H_old H_oldLeadsToNew f_H_globals n_H_cells f_H_cells n_H_spare) (hr : rR nk nm nid G lR gg t gs fr gc hn gb gf gr hF hH hP hD I F) (hx : xR nm M_fuel M_ticks H_made M_depth B_names O_size n_O_bytes f_O_bytes n_Q_links f_Q_links n_Q_pairs n_H_cells I F) (h35 : I 35 = nI p) (h43 : I 43 = nI L) (hL : L ≤ 131072) (hkt : gf (fr - 1) + tkn 37 ≤ t) (hsw : sw N I F (nI 37) wd = m_Model_primitive N I F (nI 37)) :
    opR nm n_H_cells I F (potE n_S_values n_S_bases n_S_handlerFrames n_H_cells n_H_spare n_Q_links n_Q_pairs n_O_bytes) (m_Machine_perform N P_size P_constants P_closed P_open O_size S_top S_frames S_handlers H_globalsUsed H_used H_spareUsed H_old H_oldLeadsToNew (nI L) H_every H_fresh H_made (I 44) H_reachedFromGlobals H_reachedInAll H_keptGlobalsUsed H_kept B_names Q_size M_status (nI p) (nI (p + 2)) M_fuel M_ticks M_depth (I 45) M_done n_P_words f_P_words n_P_bytes f_P_bytes n_P_ends f_P_ends n_O_bytes f_O_bytes n_S_values f_S_values n_S_bases f_S_bases n_S_floors f_S_floors n_S_returns f_S_returns n_S_closures f_S_closures n_S_handlerFrames f_S_handlerFrames n_S_handlerPlaces f_S_handlerPlaces n_S_handlerHeights f_S_handlerHeights n_S_handlerDepths f_S_handlerDepths 2049 f_H_globals n_H_cells f_H_cells n_H_spare f_H_spare n_Q_links f_Q_links n_Q_pairs f_Q_pairs (nI 34) (nI 37)) (sw N I F (nI 37) wd) := by
  have hkt' : gf (fr - 1) + 1 ≤ t := hkt
  have ht := he.1.2.2.1
  have hgR := rR_height (N := N) hr he.1
  have hP := pm_37 (N := N) hgR (by omega) (by omega)
  obtain ⟨hG, hT, hC, hH', hnn⟩ := eR_hp he
  have hfit := fits_E (N := N) (q := 37) he (by omega) (by omega) hN hkt
  have i1 := is_K (N := N) (d := 1) (K := 6) hr (by omega) (by omega) ht (by omega) (by omega)
  by_cases h1 : kV G (gs (t - 1)) = 6
  · rw [if_pos h1] at i1
    have hk : kds G gs t 37 0 := by
      intro j _ hj
      have hj : j < 1 := hj
      have hj : j = 0 := by omega
      subst hj
      show kV G (gs (t - 1 + 0)) = 6
      rw [show t - 1 + 0 = t - 1 by omega]
      exact h1
    have hfit := hfit.1 hk M_status (nI p) (nI (p + 2)) M_fuel M_ticks M_depth (I 45) M_done
    obtain ⟨o1, v1, w1⟩ := kV_obj (G := G) (v := gs (t - 1)) (by omega)
    rw [h1] at w1
    refine pq_37 hN he hr hx h35 hkt' v1 w1 hfit ?_
    rw [hsw, hP]
  · rw [if_neg h1] at i1
    refine bad_op (L := L) hN he hr hx (by omega) (by omega) hkt (fun hk => h1 ?_) ?_
    · have h : kV G (gs (t - 1 + 0)) = 6 := hk 0 (Nat.zero_le _) (by decide)
      rw [show t - 1 + 0 = t - 1 by omega] at h
      exact h
    · rw [hsw, hP]
      unfold m_Model_strings
      rw [if_neg (show ¬ nI 37 = 27 by decide), if_neg (show ¬ nI 37 = 28 by decide), if_neg (show ¬ nI 37 = 29 by decide), if_neg (show ¬ nI 37 = 30 by decide), if_neg (show ¬ nI 37 = 31 by decide), if_neg (show ¬ nI 37 = 32 by decide), if_neg (show ¬ nI 37 = 33 by decide), if_neg (show ¬ nI 37 = 34 by decide), if_neg (show ¬ nI 37 = 35 by decide), if_neg (show ¬ nI 37 = 36 by decide), if_pos (show nI 37 = 37 from rfl), show m_Model_is N I F 1 6 = some (nI 0) from i1, bind_s, if_pos (show nI 0 = 0 from rfl)]
      rw [show m_Model_next N I F 2 4 = _ from next_n (st := 4) 2 (by omega) (by omega), bind_s]
set_option maxRecDepth 4000 in
set_option maxHeartbeats 4000000 in
theorem pr_38 {p L : Nat} {wd : Int32} (hN : 400000 ≤ N) (he : eR nk nm nid G lE gg t gs fr gc hn gb gf gr hF hH hP hD S_top S_frames S_handlers n_S_values f_S_values n_S_bases f_S_bases n_S_floors f_S_floors n_S_returns f_S_returns n_S_closures f_S_closures n_S_handlerFrames f_S_handlerFrames n_S_handlerPlaces f_S_handlerPlaces n_S_handlerHeights f_S_handlerHeights n_S_handlerDepths f_S_handlerDepths H_globalsUsed H_used H_old H_oldLeadsToNew f_H_globals n_H_cells f_H_cells n_H_spare) (hr : rR nk nm nid G lR gg t gs fr gc hn gb gf gr hF hH hP hD I F) (hx : xR nm M_fuel M_ticks H_made M_depth B_names O_size n_O_bytes f_O_bytes n_Q_links f_Q_links n_Q_pairs n_H_cells I F) (h35 : I 35 = nI p) (h43 : I 43 = nI L) (hL : L ≤ 131072) (hkt : gf (fr - 1) + tkn 38 ≤ t) (hsw : sw N I F (nI 38) wd = m_Model_primitive N I F (nI 38)) :
    opR nm n_H_cells I F (potE n_S_values n_S_bases n_S_handlerFrames n_H_cells n_H_spare n_Q_links n_Q_pairs n_O_bytes) (m_Machine_perform N P_size P_constants P_closed P_open O_size S_top S_frames S_handlers H_globalsUsed H_used H_spareUsed H_old H_oldLeadsToNew (nI L) H_every H_fresh H_made (I 44) H_reachedFromGlobals H_reachedInAll H_keptGlobalsUsed H_kept B_names Q_size M_status (nI p) (nI (p + 2)) M_fuel M_ticks M_depth (I 45) M_done n_P_words f_P_words n_P_bytes f_P_bytes n_P_ends f_P_ends n_O_bytes f_O_bytes n_S_values f_S_values n_S_bases f_S_bases n_S_floors f_S_floors n_S_returns f_S_returns n_S_closures f_S_closures n_S_handlerFrames f_S_handlerFrames n_S_handlerPlaces f_S_handlerPlaces n_S_handlerHeights f_S_handlerHeights n_S_handlerDepths f_S_handlerDepths 2049 f_H_globals n_H_cells f_H_cells n_H_spare f_H_spare n_Q_links f_Q_links n_Q_pairs f_Q_pairs (nI 34) (nI 38)) (sw N I F (nI 38) wd) := by
  have hkt' : gf (fr - 1) + 1 ≤ t := hkt
  have ht := he.1.2.2.1
  have hgR := rR_height (N := N) hr he.1
  have hP := pm_38 (N := N) hgR (by omega) (by omega)
  obtain ⟨hG, hT, hC, hH', hnn⟩ := eR_hp he
  have hfit := fits_E (N := N) (q := 38) he (by omega) (by omega) hN hkt
  have i1 := isSc_K (N := N) (d := 1) hr (by omega) (by omega) ht
  by_cases h1 : kV G (gs (t - 1)) = 0
  · rw [if_pos h1] at i1
    have hk : kds G gs t 38 0 := by
      intro j _ hj
      have hj : j < 1 := hj
      have hj : j = 0 := by omega
      subst hj
      show kV G (gs (t - 1 + 0)) = 0
      rw [show t - 1 + 0 = t - 1 by omega]
      exact h1
    have hfit := hfit.1 hk M_status (nI p) (nI (p + 2)) M_fuel M_ticks M_depth (I 45) M_done
    obtain ⟨x1, v1⟩ := kV_sc hG (vE he (k := t - 1) (by omega)).2 h1
    refine pq_38 hN he hr hx h35 h43 hL hkt' v1 hfit ?_
    rw [hsw, hP, i1, bind_s, if_neg (show ¬ nI 1 = nI 0 by decide)]
  · rw [if_neg h1] at i1
    refine bad_op (L := L) hN he hr hx (by omega) (by omega) hkt (fun hk => h1 ?_) ?_
    · have h : kV G (gs (t - 1 + 0)) = 0 := hk 0 (Nat.zero_le _) (by decide)
      rw [show t - 1 + 0 = t - 1 by omega] at h
      exact h
    · rw [hsw, hP, i1, bind_s, if_pos (show nI 0 = nI 0 from rfl)]
set_option maxRecDepth 4000 in
set_option maxHeartbeats 4000000 in
theorem pr_39 {p L : Nat} {wd : Int32} (hN : 400000 ≤ N) (he : eR nk nm nid G lE gg t gs fr gc hn gb gf gr hF hH hP hD S_top S_frames S_handlers n_S_values f_S_values n_S_bases f_S_bases n_S_floors f_S_floors n_S_returns f_S_returns n_S_closures f_S_closures n_S_handlerFrames f_S_handlerFrames n_S_handlerPlaces f_S_handlerPlaces n_S_handlerHeights f_S_handlerHeights n_S_handlerDepths f_S_handlerDepths H_globalsUsed H_used H_old H_oldLeadsToNew f_H_globals n_H_cells f_H_cells n_H_spare) (hr : rR nk nm nid G lR gg t gs fr gc hn gb gf gr hF hH hP hD I F) (hx : xR nm M_fuel M_ticks H_made M_depth B_names O_size n_O_bytes f_O_bytes n_Q_links f_Q_links n_Q_pairs n_H_cells I F) (h35 : I 35 = nI p) (h43 : I 43 = nI L) (hL : L ≤ 131072) (hkt : gf (fr - 1) + tkn 39 ≤ t) (hsw : sw N I F (nI 39) wd = m_Model_primitive N I F (nI 39)) :
    opR nm n_H_cells I F (potE n_S_values n_S_bases n_S_handlerFrames n_H_cells n_H_spare n_Q_links n_Q_pairs n_O_bytes) (m_Machine_perform N P_size P_constants P_closed P_open O_size S_top S_frames S_handlers H_globalsUsed H_used H_spareUsed H_old H_oldLeadsToNew (nI L) H_every H_fresh H_made (I 44) H_reachedFromGlobals H_reachedInAll H_keptGlobalsUsed H_kept B_names Q_size M_status (nI p) (nI (p + 2)) M_fuel M_ticks M_depth (I 45) M_done n_P_words f_P_words n_P_bytes f_P_bytes n_P_ends f_P_ends n_O_bytes f_O_bytes n_S_values f_S_values n_S_bases f_S_bases n_S_floors f_S_floors n_S_returns f_S_returns n_S_closures f_S_closures n_S_handlerFrames f_S_handlerFrames n_S_handlerPlaces f_S_handlerPlaces n_S_handlerHeights f_S_handlerHeights n_S_handlerDepths f_S_handlerDepths 2049 f_H_globals n_H_cells f_H_cells n_H_spare f_H_spare n_Q_links f_Q_links n_Q_pairs f_Q_pairs (nI 34) (nI 39)) (sw N I F (nI 39) wd) := by
  have hkt' : gf (fr - 1) + 1 ≤ t := hkt
  have ht := he.1.2.2.1
  have hgR := rR_height (N := N) hr he.1
  have hP := pm_39 (N := N) hgR (by omega) (by omega)
  obtain ⟨hG, hT, hC, hH', hnn⟩ := eR_hp he
  have hfit := fits_E (N := N) (q := 39) he (by omega) (by omega) hN hkt
  have i1 := isSc_K (N := N) (d := 1) hr (by omega) (by omega) ht
  by_cases h1 : kV G (gs (t - 1)) = 0
  · rw [if_pos h1] at i1
    have hk : kds G gs t 39 0 := by
      intro j _ hj
      have hj : j < 1 := hj
      have hj : j = 0 := by omega
      subst hj
      show kV G (gs (t - 1 + 0)) = 0
      rw [show t - 1 + 0 = t - 1 by omega]
      exact h1
    have hfit := hfit.1 hk M_status (nI p) (nI (p + 2)) M_fuel M_ticks M_depth (I 45) M_done
    obtain ⟨x1, v1⟩ := kV_sc hG (vE he (k := t - 1) (by omega)).2 h1
    refine pq_39 he hr hx h35 hkt' v1 hfit ?_
    rw [hsw, hP, i1, bind_s, if_neg (show ¬ nI 1 = nI 0 by decide)]
  · rw [if_neg h1] at i1
    refine bad_op (L := L) hN he hr hx (by omega) (by omega) hkt (fun hk => h1 ?_) ?_
    · have h : kV G (gs (t - 1 + 0)) = 0 := hk 0 (Nat.zero_le _) (by decide)
      rw [show t - 1 + 0 = t - 1 by omega] at h
      exact h
    · rw [hsw, hP, i1, bind_s, if_pos (show nI 0 = nI 0 from rfl)]
set_option maxRecDepth 4000 in
set_option maxHeartbeats 4000000 in
theorem pr_41 {p L : Nat} {wd : Int32} (hN : 400000 ≤ N) (he : eR nk nm nid G lE gg t gs fr gc hn gb gf gr hF hH hP hD S_top S_frames S_handlers n_S_values f_S_values n_S_bases f_S_bases n_S_floors f_S_floors n_S_returns f_S_returns n_S_closures f_S_closures n_S_handlerFrames f_S_handlerFrames n_S_handlerPlaces f_S_handlerPlaces n_S_handlerHeights f_S_handlerHeights n_S_handlerDepths f_S_handlerDepths H_globalsUsed H_used H_old H_oldLeadsToNew f_H_globals n_H_cells f_H_cells n_H_spare) (hr : rR nk nm nid G lR gg t gs fr gc hn gb gf gr hF hH hP hD I F) (hx : xR nm M_fuel M_ticks H_made M_depth B_names O_size n_O_bytes f_O_bytes n_Q_links f_Q_links n_Q_pairs n_H_cells I F) (h35 : I 35 = nI p) (h43 : I 43 = nI L) (hL : L ≤ 131072) (hkt : gf (fr - 1) + tkn 41 ≤ t) (hsw : sw N I F (nI 41) wd = m_Model_primitive N I F (nI 41)) :
    opR nm n_H_cells I F (potE n_S_values n_S_bases n_S_handlerFrames n_H_cells n_H_spare n_Q_links n_Q_pairs n_O_bytes) (m_Machine_perform N P_size P_constants P_closed P_open O_size S_top S_frames S_handlers H_globalsUsed H_used H_spareUsed H_old H_oldLeadsToNew (nI L) H_every H_fresh H_made (I 44) H_reachedFromGlobals H_reachedInAll H_keptGlobalsUsed H_kept B_names Q_size M_status (nI p) (nI (p + 2)) M_fuel M_ticks M_depth (I 45) M_done n_P_words f_P_words n_P_bytes f_P_bytes n_P_ends f_P_ends n_O_bytes f_O_bytes n_S_values f_S_values n_S_bases f_S_bases n_S_floors f_S_floors n_S_returns f_S_returns n_S_closures f_S_closures n_S_handlerFrames f_S_handlerFrames n_S_handlerPlaces f_S_handlerPlaces n_S_handlerHeights f_S_handlerHeights n_S_handlerDepths f_S_handlerDepths 2049 f_H_globals n_H_cells f_H_cells n_H_spare f_H_spare n_Q_links f_Q_links n_Q_pairs f_Q_pairs (nI 34) (nI 41)) (sw N I F (nI 41) wd) := by
  have hkt' : gf (fr - 1) + 1 ≤ t := hkt
  have ht := he.1.2.2.1
  have hgR := rR_height (N := N) hr he.1
  have hP := pm_41 (N := N) hgR (by omega) (by omega)
  obtain ⟨hG, hT, hC, hH', hnn⟩ := eR_hp he
  have hfit := fits_E (N := N) (q := 41) he (by omega) (by omega) hN hkt
  have i1 := is_K (N := N) (d := 1) (K := 6) hr (by omega) (by omega) ht (by omega) (by omega)
  by_cases h1 : kV G (gs (t - 1)) = 6
  · rw [if_pos h1] at i1
    have hk : kds G gs t 41 0 := by
      intro j _ hj
      have hj : j < 1 := hj
      have hj : j = 0 := by omega
      subst hj
      show kV G (gs (t - 1 + 0)) = 6
      rw [show t - 1 + 0 = t - 1 by omega]
      exact h1
    have hfit := hfit.1 hk M_status (nI p) (nI (p + 2)) M_fuel M_ticks M_depth (I 45) M_done
    obtain ⟨o1, v1, w1⟩ := kV_obj (G := G) (v := gs (t - 1)) (by omega)
    rw [h1] at w1
    refine pq_41 hN he hr hx h35 h43 hL hkt' v1 w1 hfit ?_
    rw [hsw, hP]
  · rw [if_neg h1] at i1
    refine bad_op (L := L) hN he hr hx (by omega) (by omega) hkt (fun hk => h1 ?_) ?_
    · have h : kV G (gs (t - 1 + 0)) = 6 := hk 0 (Nat.zero_le _) (by decide)
      rw [show t - 1 + 0 = t - 1 by omega] at h
      exact h
    · rw [hsw, hP]
      unfold m_Model_strings
      rw [if_neg (show ¬ nI 41 = 27 by decide), if_neg (show ¬ nI 41 = 28 by decide), if_neg (show ¬ nI 41 = 29 by decide), if_neg (show ¬ nI 41 = 30 by decide), if_neg (show ¬ nI 41 = 31 by decide), if_neg (show ¬ nI 41 = 32 by decide), if_neg (show ¬ nI 41 = 33 by decide), if_neg (show ¬ nI 41 = 34 by decide), if_neg (show ¬ nI 41 = 35 by decide), if_neg (show ¬ nI 41 = 36 by decide), if_neg (show ¬ nI 41 = 37 by decide), if_neg (show ¬ nI 41 = 38 by decide), if_neg (show ¬ nI 41 = 39 by decide), if_neg (show ¬ nI 41 = 40 by decide), if_pos (show nI 41 = 41 from rfl), show m_Model_is N I F 1 6 = some (nI 0) from i1, bind_s, if_pos (show nI 0 = 0 from rfl)]
      rw [show m_Model_next N I F 2 4 = _ from next_n (st := 4) 2 (by omega) (by omega), bind_s]
theorem pr_40 {p L : Nat} {wd : Int32} (hN : 400000 ≤ N) (he : eR nk nm nid G lE gg t gs fr gc hn gb gf gr hF hH hP hD S_top S_frames S_handlers n_S_values f_S_values n_S_bases f_S_bases n_S_floors f_S_floors n_S_returns f_S_returns n_S_closures f_S_closures n_S_handlerFrames f_S_handlerFrames n_S_handlerPlaces f_S_handlerPlaces n_S_handlerHeights f_S_handlerHeights n_S_handlerDepths f_S_handlerDepths H_globalsUsed H_used H_old H_oldLeadsToNew f_H_globals n_H_cells f_H_cells n_H_spare) (hr : rR nk nm nid G lR gg t gs fr gc hn gb gf gr hF hH hP hD I F) (hx : xR nm M_fuel M_ticks H_made M_depth B_names O_size n_O_bytes f_O_bytes n_Q_links f_Q_links n_Q_pairs n_H_cells I F) (h35 : I 35 = nI p) (h43 : I 43 = nI L) (hL : L ≤ 131072) (hkt : gf (fr - 1) + tkn 40 ≤ t) (hsw : sw N I F (nI 40) wd = m_Model_primitive N I F (nI 40)) :
    opR nm n_H_cells I F (potE n_S_values n_S_bases n_S_handlerFrames n_H_cells n_H_spare n_Q_links n_Q_pairs n_O_bytes) (m_Machine_perform N P_size P_constants P_closed P_open O_size S_top S_frames S_handlers H_globalsUsed H_used H_spareUsed H_old H_oldLeadsToNew (nI L) H_every H_fresh H_made (I 44) H_reachedFromGlobals H_reachedInAll H_keptGlobalsUsed H_kept B_names Q_size M_status (nI p) (nI (p + 2)) M_fuel M_ticks M_depth (I 45) M_done n_P_words f_P_words n_P_bytes f_P_bytes n_P_ends f_P_ends n_O_bytes f_O_bytes n_S_values f_S_values n_S_bases f_S_bases n_S_floors f_S_floors n_S_returns f_S_returns n_S_closures f_S_closures n_S_handlerFrames f_S_handlerFrames n_S_handlerPlaces f_S_handlerPlaces n_S_handlerHeights f_S_handlerHeights n_S_handlerDepths f_S_handlerDepths 2049 f_H_globals n_H_cells f_H_cells n_H_spare f_H_spare n_Q_links f_Q_links n_Q_pairs f_Q_pairs (nI 34) (nI 40)) (sw N I F (nI 40) wd) := by
  have hkt' : gf (fr - 1) + 1 ≤ t := hkt
  have ht := he.1.2.2.1
  have hgR := rR_height (N := N) hr he.1
  have hP := pm_40 (N := N) hgR (by omega) (by omega)
  refine pq_40 hN he hr hx h35 h43 hL hkt' (fits_40 (N := N) he hkt' M_status (nI p) (nI (p + 2)) M_fuel M_ticks M_depth (I 45) M_done) ?_
  rw [hsw, hP]
  unfold m_Model_strings
  rw [if_neg (show ¬ nI 40 = 27 by decide), if_neg (show ¬ nI 40 = 28 by decide), if_neg (show ¬ nI 40 = 29 by decide), if_neg (show ¬ nI 40 = 30 by decide), if_neg (show ¬ nI 40 = 31 by decide), if_neg (show ¬ nI 40 = 32 by decide), if_neg (show ¬ nI 40 = 33 by decide), if_neg (show ¬ nI 40 = 34 by decide), if_neg (show ¬ nI 40 = 35 by decide), if_neg (show ¬ nI 40 = 36 by decide), if_neg (show ¬ nI 40 = 37 by decide), if_neg (show ¬ nI 40 = 38 by decide), if_neg (show ¬ nI 40 = 39 by decide), if_pos (show nI 40 = 40 from rfl)]
  exact bind_3 _
end PS
