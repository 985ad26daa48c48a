/-! One instruction, whatever it is -/
section AO
variable {N : Nat}
variable {nk : Nat → Nat} {nm : Nat} {nid : Nat} {G : Nat → GO} {lE : List Nat} {gg : Nat → AV} {t : Nat} {gs : Nat → AV} {fr : Nat} {gc : Nat → AV} {hn : Nat} {gb : Nat → Nat} {gf : Nat → Nat} {gr : Nat → Int32} {hF : Nat → Nat} {hH : Nat → Nat} {hP : Nat → Int32} {hD : Nat → Int32} {lR : List Nat} {P_size : Int32} {P_constants : Int32} {P_closed : Int32} {P_open : Int32} {O_size : Int32} {S_top : Int32} {S_frames : Int32} {S_handlers : Int32} {H_globalsUsed : Int32} {H_used : Int32} {H_spareUsed : Int32} {H_old : Int32} {H_oldLeadsToNew : Int32} {H_limit : Int32} {H_every : Int32} {H_fresh : Int32} {H_made : Int32} {H_madeLimit : Int32} {H_reachedFromGlobals : Int32} {H_reachedInAll : Int32} {H_keptGlobalsUsed : Int32} {H_kept : Int32} {B_names : Int32} {Q_size : Int32} {M_status : Int32} {M_place : Int32} {M_next : Int32} {M_fuel : Int32} {M_ticks : Int32} {M_depth : Int32} {M_depthLimit : Int32} {M_done : Int32} {n_P_words : Nat} {f_P_words : Nat → Int32} {n_P_bytes : Nat} {f_P_bytes : Nat → Int32} {n_P_ends : Nat} {f_P_ends : Nat → Int32} {n_O_bytes : Nat} {f_O_bytes : Nat → Int32} {n_S_values : Nat} {f_S_values : Nat → Int64} {n_S_bases : Nat} {f_S_bases : Nat → Int32} {n_S_floors : Nat} {f_S_floors : Nat → Int32} {n_S_returns : Nat} {f_S_returns : Nat → Int32} {n_S_closures : Nat} {f_S_closures : Nat → Int64} {n_S_handlerFrames : Nat} {f_S_handlerFrames : Nat → Int32} {n_S_handlerPlaces : Nat} {f_S_handlerPlaces : Nat → Int32} {n_S_handlerHeights : Nat} {f_S_handlerHeights : Nat → Int32} {n_S_handlerDepths : Nat} {f_S_handlerDepths : Nat → Int32} {n_H_globals : Nat} {f_H_globals : Nat → Int64} {n_H_cells : Nat} {f_H_cells : Nat → Int64} {n_H_spare : Nat} {f_H_spare : Nat → Int64} {n_Q_links : Nat} {f_Q_links : Nat → Int32} {n_Q_pairs : Nat} {f_Q_pairs : Nat → Int64} {I : Nat → Int32} {F : Nat → Nat → Int32}
abbrev adF (N : Nat) (L : Nat) (z3 : Int32) (P_size : Int32) (P_constants : Int32) (P_closed : Int32) (P_open : Int32) (O_size : Int32) (S_top : Int32) (S_frames : Int32) (S_handlers : Int32) (H_globalsUsed : Int32) (H_used : Int32) (H_spareUsed : Int32) (H_old : Int32) (H_oldLeadsToNew : Int32) (H_limit : Int32) (H_every : Int32) (H_fresh : Int32) (H_made : Int32) (H_madeLimit : Int32) (H_reachedFromGlobals : Int32) (H_reachedInAll : Int32) (H_keptGlobalsUsed : Int32) (H_kept : Int32) (B_names : Int32) (Q_size : Int32) (M_status : Int32) (M_place : Int32) (M_next : Int32) (M_fuel : Int32) (M_ticks : Int32) (M_depth : Int32) (M_depthLimit : Int32) (M_done : Int32) (n_P_words : Nat) (f_P_words : Nat → Int32) (n_P_bytes : Nat) (f_P_bytes : Nat → Int32) (n_P_ends : Nat) (f_P_ends : Nat → Int32) (n_O_bytes : Nat) (f_O_bytes : Nat → Int32) (n_S_values : Nat) (f_S_values : Nat → Int64) (n_S_bases : Nat) (f_S_bases : Nat → Int32) (n_S_floors : Nat) (f_S_floors : Nat → Int32) (n_S_returns : Nat) (f_S_returns : Nat → Int32) (n_S_closures : Nat) (f_S_closures : Nat → Int64) (n_S_handlerFrames : Nat) (f_S_handlerFrames : Nat → Int32) (n_S_handlerPlaces : Nat) (f_S_handlerPlaces : Nat → Int32) (n_S_handlerHeights : Nat) (f_S_handlerHeights : Nat → Int32) (n_S_handlerDepths : Nat) (f_S_handlerDepths : Nat → Int32) (n_H_globals : Nat) (f_H_globals : Nat → Int64) (n_H_cells : Nat) (f_H_cells : Nat → Int64) (n_H_spare : Nat) (f_H_spare : Nat → Int64) (n_Q_links : Nat) (f_Q_links : Nat → Int32) (n_Q_pairs : Nat) (f_Q_pairs : Nat → Int64) (I : Nat → Int32) (F : Nat → Nat → Int32) (_ : Unit) : ∀ (α : Type), ((Nat → Int64) → (Int32) → (Int32) → (Int32) → (Int32) → (Int32) → (Int32) → (Int32) → (Int32) → (Int32) → (Int32) → (Int32) → (Int32) → (Int32) → (Int32) → (Int32) → (Int32) → (Int32) → (Int32) → (Int32) → (Int32) → (Nat) → (Nat → Int32) → (Nat) → (Nat → Int64) → (Nat) → (Nat → Int64) → (Nat) → (Nat → Int64) → (Nat) → (Nat → Int32) → (Nat) → (Nat → Int32) → (Nat) → (Nat → Int64) → (Nat) → (Nat → Int32) → (Nat) → (Nat → Int32) → (Nat) → (Nat → Int32) → (Nat) → (Nat → Int32) → (Nat) → (Nat → Int32) → (Nat) → (Nat → Int32) → (Nat) → (Nat → Int64) → Option (α × Nat × Nat)) → Option (α × Nat × Nat) := fun α k => lm_Machine_advance_2 N P_size P_constants P_closed P_open (nI L) H_every (I 44) H_keptGlobalsUsed H_kept (I 45) n_P_words f_P_words n_P_bytes f_P_bytes n_P_ends f_P_ends 2049 M_done M_place z3 k f_H_globals Q_size H_fresh H_globalsUsed H_made H_old H_oldLeadsToNew H_reachedFromGlobals H_reachedInAll H_spareUsed H_used M_depth M_fuel M_next M_status M_ticks B_names O_size S_frames S_handlers S_top n_Q_links f_Q_links n_Q_pairs f_Q_pairs n_H_cells f_H_cells n_H_spare f_H_spare n_O_bytes f_O_bytes n_S_bases f_S_bases n_S_closures f_S_closures n_S_floors f_S_floors n_S_handlerDepths f_S_handlerDepths n_S_handlerFrames f_S_handlerFrames n_S_handlerHeights f_S_handlerHeights n_S_handlerPlaces f_S_handlerPlaces n_S_returns f_S_returns n_S_values f_S_values
theorem ao_0 {sz kc pd L p : Nat} {te : Nat → Nat} (hN : 400000 ≤ N) (he : eR nk nm nid G lE gg t gs fr gc hn gb gf gr hF hH hP hD S_top S_frames S_handlers n_S_values f_S_values n_S_bases f_S_bases n_S_floors f_S_floors n_S_returns f_S_returns n_S_closures f_S_closures n_S_handlerFrames f_S_handlerFrames n_S_handlerPlaces f_S_handlerPlaces n_S_handlerHeights f_S_handlerHeights n_S_handlerDepths f_S_handlerDepths H_globalsUsed H_used H_old H_oldLeadsToNew f_H_globals n_H_cells f_H_cells n_H_spare) (hr : rR nk nm nid G lR gg t gs fr gc hn gb gf gr hF hH hP hD I F) (hx : xR nm M_fuel M_ticks H_made M_depth B_names O_size n_O_bytes f_O_bytes n_Q_links f_Q_links n_Q_pairs n_H_cells I F) (hpg : pgR sz kc pd te P_size P_constants P_closed P_open n_P_words f_P_words n_P_bytes f_P_bytes n_P_ends f_P_ends I F) (h43 : I 43 = nI L) (hL : L ≤ 131072) (hnm : nm + 1 < 134217728) (h35 : I 35 = nI p) (hp : p < sz) (h14 : F 14 p = nI 0) (h1 : p + 0 < sz) (h2 : 1 ≤ t - gf (fr - 1)) :
    ∃ z3, m_Machine_operandsHere N P_size P_constants P_closed P_open S_top S_frames S_handlers M_status (nI p) M_next M_fuel M_ticks M_depth (I 45) M_done n_P_words f_P_words n_S_floors f_S_floors = some z3 ∧ stpR nm n_H_cells I F (potE n_S_values n_S_bases n_S_handlerFrames n_H_cells n_H_spare n_Q_links n_Q_pairs n_O_bytes) (adF N L z3 P_size P_constants P_closed P_open O_size S_top S_frames S_handlers H_globalsUsed H_used H_spareUsed H_old H_oldLeadsToNew H_limit H_every H_fresh H_made H_madeLimit H_reachedFromGlobals H_reachedInAll H_keptGlobalsUsed H_kept B_names Q_size M_status (nI p) M_next M_fuel M_ticks M_depth M_depthLimit M_done n_P_words f_P_words n_P_bytes f_P_bytes n_P_ends f_P_ends n_O_bytes f_O_bytes n_S_values f_S_values n_S_bases f_S_bases n_S_floors f_S_floors n_S_returns f_S_returns n_S_closures f_S_closures n_S_handlerFrames f_S_handlerFrames n_S_handlerPlaces f_S_handlerPlaces n_S_handlerHeights f_S_handlerHeights n_S_handlerDepths f_S_handlerDepths n_H_globals f_H_globals n_H_cells f_H_cells n_H_spare f_H_spare n_Q_links f_Q_links n_Q_pairs f_Q_pairs I F ()) (m_Model_instruction N I F) := by
  obtain ⟨g1, g2, g3, g4, g5, g6, g7⟩ := hpg.1
  have hgE := eR_height (N := N) he
  have hgR := rR_height (N := N) hr he.1
  have ht := he.1.2.2.1
  have hgf := he.1.2.2.2.2.1
  have hw : f_P_words p = nI 0 := by rw [g7 p hp]; exact h14
  have hwc : f_P_words (nI p).toNatClampNeg = nI 0 := by rw [q_cl (by omega)]; exact hw
  have zb : ¬ (nI p < 0 ∨ n_P_words ≤ (nI p).toNatClampNeg) := bd_n (by omega) (by omega)
  have hwd := wd_0 (N := N) h35 g2 hp g3 h14
  rw [if_pos (show p + 1 + 0 ≤ sz by omega)] at hwd
  have hwd : m_Model_words N I F = some (nI 1) := hwd
  have hhere := here_y (N := N) (M_depthLimit := I 45) (M_status := M_status) (M_next := M_next) (M_fuel := M_fuel) (M_ticks := M_ticks) (M_depth := M_depth) (M_done := M_done) (P_constants := P_constants) (P_closed := P_closed) (P_open := P_open) (q := 0) g1 rfl hp g4 g6 hw (by omega) hgE (by omega) h1 h2 (by omega)
  have hhere : m_Machine_operandsHere N P_size P_constants P_closed P_open S_top S_frames S_handlers M_status (nI p) M_next M_fuel M_ticks M_depth (I 45) M_done n_P_words f_P_words n_S_floors f_S_floors = some (nI 0) := hhere
  have hnx : nI p + 1 + nI 0 = nI (p + 1) := by rw [nI_1, q_add, show p + 1 + 0 = p + 1 by omega]
  have hi := ins_sw hwd (by decide) h35 (by omega) (fun k => ins1_1) hgR (by rw [h14]; exact needs_q (q := 0) (by omega) (by omega)) (show nI 1 ≤ nI (t - gf (fr - 1)) by rw [q_le_t (by omega) (by omega)]; exact True.intro)
  refine ⟨_, hhere, ?_⟩
  rw [hi]
  exact stp_op (by decide) zb (fun α k => adv3_0) hwc hnx (op_0 hN he hr hx h35 (by omega) h14 (by omega) h43 hL)
theorem ao_1 {sz kc pd L p : Nat} {te : Nat → Nat} (hN : 400000 ≤ N) (he : eR nk nm nid G lE gg t gs fr gc hn gb gf gr hF hH hP hD S_top S_frames S_handlers n_S_values f_S_values n_S_bases f_S_bases n_S_floors f_S_floors n_S_returns f_S_returns n_S_closures f_S_closures n_S_handlerFrames f_S_handlerFrames n_S_handlerPlaces f_S_handlerPlaces n_S_handlerHeights f_S_handlerHeights n_S_handlerDepths f_S_handlerDepths H_globalsUsed H_used H_old H_oldLeadsToNew f_H_globals n_H_cells f_H_cells n_H_spare) (hr : rR nk nm nid G lR gg t gs fr gc hn gb gf gr hF hH hP hD I F) (hx : xR nm M_fuel M_ticks H_made M_depth B_names O_size n_O_bytes f_O_bytes n_Q_links f_Q_links n_Q_pairs n_H_cells I F) (hpg : pgR sz kc pd te P_size P_constants P_closed P_open n_P_words f_P_words n_P_bytes f_P_bytes n_P_ends f_P_ends I F) (h43 : I 43 = nI L) (hL : L ≤ 131072) (hnm : nm + 1 < 134217728) (h35 : I 35 = nI p) (hp : p < sz) (h14 : F 14 p = nI 1) (h1 : p + 1 < sz) (h2 : 0 ≤ t - gf (fr - 1)) :
    ∃ z3, m_Machine_operandsHere N P_size P_constants P_closed P_open S_top S_frames S_handlers M_status (nI p) M_next M_fuel M_ticks M_depth (I 45) M_done n_P_words f_P_words n_S_floors f_S_floors = some z3 ∧ stpR nm n_H_cells I F (potE n_S_values n_S_bases n_S_handlerFrames n_H_cells n_H_spare n_Q_links n_Q_pairs n_O_bytes) (adF N L z3 P_size P_constants P_closed P_open O_size S_top S_frames S_handlers H_globalsUsed H_used H_spareUsed H_old H_oldLeadsToNew H_limit H_every H_fresh H_made H_madeLimit H_reachedFromGlobals H_reachedInAll H_keptGlobalsUsed H_kept B_names Q_size M_status (nI p) M_next M_fuel M_ticks M_depth M_depthLimit M_done n_P_words f_P_words n_P_bytes f_P_bytes n_P_ends f_P_ends n_O_bytes f_O_bytes n_S_values f_S_values n_S_bases f_S_bases n_S_floors f_S_floors n_S_returns f_S_returns n_S_closures f_S_closures n_S_handlerFrames f_S_handlerFrames n_S_handlerPlaces f_S_handlerPlaces n_S_handlerHeights f_S_handlerHeights n_S_handlerDepths f_S_handlerDepths n_H_globals f_H_globals n_H_cells f_H_cells n_H_spare f_H_spare n_Q_links f_Q_links n_Q_pairs f_Q_pairs I F ()) (m_Model_instruction N I F) := by
  obtain ⟨g1, g2, g3, g4, g5, g6, g7⟩ := hpg.1
  have hgE := eR_height (N := N) he
  have hgR := rR_height (N := N) hr he.1
  have ht := he.1.2.2.1
  have hgf := he.1.2.2.2.2.1
  have hw : f_P_words p = nI 1 := by rw [g7 p hp]; exact h14
  have hwc : f_P_words (nI p).toNatClampNeg = nI 1 := by rw [q_cl (by omega)]; exact hw
  have zb : ¬ (nI p < 0 ∨ n_P_words ≤ (nI p).toNatClampNeg) := bd_n (by omega) (by omega)
  have hwd := wd_1 (N := N) h35 g2 hp g3 h14
  rw [if_pos (show p + 1 + 1 ≤ sz by omega)] at hwd
  have hwd : m_Model_words N I F = some (nI 2) := hwd
  have hhere := here_y (N := N) (M_depthLimit := I 45) (M_status := M_status) (M_next := M_next) (M_fuel := M_fuel) (M_ticks := M_ticks) (M_depth := M_depth) (M_done := M_done) (P_constants := P_constants) (P_closed := P_closed) (P_open := P_open) (q := 1) g1 rfl hp g4 g6 hw (by omega) hgE (by omega) h1 h2 (by omega)
  have hhere : m_Machine_operandsHere N P_size P_constants P_closed P_open S_top S_frames S_handlers M_status (nI p) M_next M_fuel M_ticks M_depth (I 45) M_done n_P_words f_P_words n_S_floors f_S_floors = some (nI 1) := hhere
  have hnx : nI p + 1 + nI 1 = nI (p + 2) := by rw [nI_1, q_add, show p + 1 + 1 = p + 2 by omega]
  have ew : f_P_words (p + 1) = F 14 (p + 1) := g7 (p + 1) (by omega)
  have hi := ins_sw hwd (by decide) h35 (by omega) (fun k => ins1_2 h35 (by omega) (by omega) (by omega)) hgR (by rw [h14]; exact needs_q (q := 1) (by omega) (by omega)) (show nI 0 ≤ nI (t - gf (fr - 1)) by rw [q_le_t (by omega) (by omega)]; exact True.intro)
  refine ⟨_, hhere, ?_⟩
  rw [hi]
  exact stp_op (by decide) zb (fun α k => by rw [adv3_1 rfl (by omega) g6 (by omega) (by omega), ew]) hwc hnx (op_1 hN he hr hx h35 (by omega) h14 (by omega) h43 hL)
theorem ao_2 {sz kc pd L p : Nat} {te : Nat → Nat} (hN : 400000 ≤ N) (he : eR nk nm nid G lE gg t gs fr gc hn gb gf gr hF hH hP hD S_top S_frames S_handlers n_S_values f_S_values n_S_bases f_S_bases n_S_floors f_S_floors n_S_returns f_S_returns n_S_closures f_S_closures n_S_handlerFrames f_S_handlerFrames n_S_handlerPlaces f_S_handlerPlaces n_S_handlerHeights f_S_handlerHeights n_S_handlerDepths f_S_handlerDepths H_globalsUsed H_used H_old H_oldLeadsToNew f_H_globals n_H_cells f_H_cells n_H_spare) (hr : rR nk nm nid G lR gg t gs fr gc hn gb gf gr hF hH hP hD I F) (hx : xR nm M_fuel M_ticks H_made M_depth B_names O_size n_O_bytes f_O_bytes n_Q_links f_Q_links n_Q_pairs n_H_cells I F) (hpg : pgR sz kc pd te P_size P_constants P_closed P_open n_P_words f_P_words n_P_bytes f_P_bytes n_P_ends f_P_ends I F) (h43 : I 43 = nI L) (hL : L ≤ 131072) (hnm : nm + 1 < 134217728) (h35 : I 35 = nI p) (hp : p < sz) (h14 : F 14 p = nI 2) (h1 : p + 1 < sz) (h2 : 0 ≤ t - gf (fr - 1)) :
    ∃ z3, m_Machine_operandsHere N P_size P_constants P_closed P_open S_top S_frames S_handlers M_status (nI p) M_next M_fuel M_ticks M_depth (I 45) M_done n_P_words f_P_words n_S_floors f_S_floors = some z3 ∧ stpR nm n_H_cells I F (potE n_S_values n_S_bases n_S_handlerFrames n_H_cells n_H_spare n_Q_links n_Q_pairs n_O_bytes) (adF N L z3 P_size P_constants P_closed P_open O_size S_top S_frames S_handlers H_globalsUsed H_used H_spareUsed H_old H_oldLeadsToNew H_limit H_every H_fresh H_made H_madeLimit H_reachedFromGlobals H_reachedInAll H_keptGlobalsUsed H_kept B_names Q_size M_status (nI p) M_next M_fuel M_ticks M_depth M_depthLimit M_done n_P_words f_P_words n_P_bytes f_P_bytes n_P_ends f_P_ends n_O_bytes f_O_bytes n_S_values f_S_values n_S_bases f_S_bases n_S_floors f_S_floors n_S_returns f_S_returns n_S_closures f_S_closures n_S_handlerFrames f_S_handlerFrames n_S_handlerPlaces f_S_handlerPlaces n_S_handlerHeights f_S_handlerHeights n_S_handlerDepths f_S_handlerDepths n_H_globals f_H_globals n_H_cells f_H_cells n_H_spare f_H_spare n_Q_links f_Q_links n_Q_pairs f_Q_pairs I F ()) (m_Model_instruction N I F) := by
  obtain ⟨g1, g2, g3, g4, g5, g6, g7⟩ := hpg.1
  have hgE := eR_height (N := N) he
  have hgR := rR_height (N := N) hr he.1
  have ht := he.1.2.2.1
  have hgf := he.1.2.2.2.2.1
  have hw : f_P_words p = nI 2 := by rw [g7 p hp]; exact h14
  have hwc : f_P_words (nI p).toNatClampNeg = nI 2 := by rw [q_cl (by omega)]; exact hw
  have zb : ¬ (nI p < 0 ∨ n_P_words ≤ (nI p).toNatClampNeg) := bd_n (by omega) (by omega)
  have hwd := wd_2 (N := N) h35 g2 hp g3 h14
  rw [if_pos (show p + 1 + 1 ≤ sz by omega)] at hwd
  have hwd : m_Model_words N I F = some (nI 2) := hwd
  have hhere := here_y (N := N) (M_depthLimit := I 45) (M_status := M_status) (M_next := M_next) (M_fuel := M_fuel) (M_ticks := M_ticks) (M_depth := M_depth) (M_done := M_done) (P_constants := P_constants) (P_closed := P_closed) (P_open := P_open) (q := 2) g1 rfl hp g4 g6 hw (by omega) hgE (by omega) h1 h2 (by omega)
  have hhere : m_Machine_operandsHere N P_size P_constants P_closed P_open S_top S_frames S_handlers M_status (nI p) M_next M_fuel M_ticks M_depth (I 45) M_done n_P_words f_P_words n_S_floors f_S_floors = some (nI 1) := hhere
  have hnx : nI p + 1 + nI 1 = nI (p + 2) := by rw [nI_1, q_add, show p + 1 + 1 = p + 2 by omega]
  have ew : f_P_words (p + 1) = F 14 (p + 1) := g7 (p + 1) (by omega)
  have hi := ins_sw hwd (by decide) h35 (by omega) (fun k => ins1_2 h35 (by omega) (by omega) (by omega)) hgR (by rw [h14]; exact needs_q (q := 2) (by omega) (by omega)) (show nI 0 ≤ nI (t - gf (fr - 1)) by rw [q_le_t (by omega) (by omega)]; exact True.intro)
  refine ⟨_, hhere, ?_⟩
  rw [hi]
  exact stp_op (by decide) zb (fun α k => by rw [adv3_1 rfl (by omega) g6 (by omega) (by omega), ew]) hwc hnx (op_2 hN he hr hx h35 (by omega) h14 (by omega) h43 hL hpg)
theorem ao_3 {sz kc pd L p : Nat} {te : Nat → Nat} (hN : 400000 ≤ N) (he : eR nk nm nid G lE gg t gs fr gc hn gb gf gr hF hH hP hD S_top S_frames S_handlers n_S_values f_S_values n_S_bases f_S_bases n_S_floors f_S_floors n_S_returns f_S_returns n_S_closures f_S_closures n_S_handlerFrames f_S_handlerFrames n_S_handlerPlaces f_S_handlerPlaces n_S_handlerHeights f_S_handlerHeights n_S_handlerDepths f_S_handlerDepths H_globalsUsed H_used H_old H_oldLeadsToNew f_H_globals n_H_cells f_H_cells n_H_spare) (hr : rR nk nm nid G lR gg t gs fr gc hn gb gf gr hF hH hP hD I F) (hx : xR nm M_fuel M_ticks H_made M_depth B_names O_size n_O_bytes f_O_bytes n_Q_links f_Q_links n_Q_pairs n_H_cells I F) (hpg : pgR sz kc pd te P_size P_constants P_closed P_open n_P_words f_P_words n_P_bytes f_P_bytes n_P_ends f_P_ends I F) (h43 : I 43 = nI L) (hL : L ≤ 131072) (hnm : nm + 1 < 134217728) (h35 : I 35 = nI p) (hp : p < sz) (h14 : F 14 p = nI 3) (h1 : p + 1 < sz) (h2 : 0 ≤ t - gf (fr - 1)) :
    ∃ z3, m_Machine_operandsHere N P_size P_constants P_closed P_open S_top S_frames S_handlers M_status (nI p) M_next M_fuel M_ticks M_depth (I 45) M_done n_P_words f_P_words n_S_floors f_S_floors = some z3 ∧ stpR nm n_H_cells I F (potE n_S_values n_S_bases n_S_handlerFrames n_H_cells n_H_spare n_Q_links n_Q_pairs n_O_bytes) (adF N L z3 P_size P_constants P_closed P_open O_size S_top S_frames S_handlers H_globalsUsed H_used H_spareUsed H_old H_oldLeadsToNew H_limit H_every H_fresh H_made H_madeLimit H_reachedFromGlobals H_reachedInAll H_keptGlobalsUsed H_kept B_names Q_size M_status (nI p) M_next M_fuel M_ticks M_depth M_depthLimit M_done n_P_words f_P_words n_P_bytes f_P_bytes n_P_ends f_P_ends n_O_bytes f_O_bytes n_S_values f_S_values n_S_bases f_S_bases n_S_floors f_S_floors n_S_returns f_S_returns n_S_closures f_S_closures n_S_handlerFrames f_S_handlerFrames n_S_handlerPlaces f_S_handlerPlaces n_S_handlerHeights f_S_handlerHeights n_S_handlerDepths f_S_handlerDepths n_H_globals f_H_globals n_H_cells f_H_cells n_H_spare f_H_spare n_Q_links f_Q_links n_Q_pairs f_Q_pairs I F ()) (m_Model_instruction N I F) := by
  obtain ⟨g1, g2, g3, g4, g5, g6, g7⟩ := hpg.1
  have hgE := eR_height (N := N) he
  have hgR := rR_height (N := N) hr he.1
  have ht := he.1.2.2.1
  have hgf := he.1.2.2.2.2.1
  have hw : f_P_words p = nI 3 := by rw [g7 p hp]; exact h14
  have hwc : f_P_words (nI p).toNatClampNeg = nI 3 := by rw [q_cl (by omega)]; exact hw
  have zb : ¬ (nI p < 0 ∨ n_P_words ≤ (nI p).toNatClampNeg) := bd_n (by omega) (by omega)
  have hwd := wd_3 (N := N) h35 g2 hp g3 h14
  rw [if_pos (show p + 1 + 1 ≤ sz by omega)] at hwd
  have hwd : m_Model_words N I F = some (nI 2) := hwd
  have hhere := here_y (N := N) (M_depthLimit := I 45) (M_status := M_status) (M_next := M_next) (M_fuel := M_fuel) (M_ticks := M_ticks) (M_depth := M_depth) (M_done := M_done) (P_constants := P_constants) (P_closed := P_closed) (P_open := P_open) (q := 3) g1 rfl hp g4 g6 hw (by omega) hgE (by omega) h1 h2 (by omega)
  have hhere : m_Machine_operandsHere N P_size P_constants P_closed P_open S_top S_frames S_handlers M_status (nI p) M_next M_fuel M_ticks M_depth (I 45) M_done n_P_words f_P_words n_S_floors f_S_floors = some (nI 1) := hhere
  have hnx : nI p + 1 + nI 1 = nI (p + 2) := by rw [nI_1, q_add, show p + 1 + 1 = p + 2 by omega]
  have ew : f_P_words (p + 1) = F 14 (p + 1) := g7 (p + 1) (by omega)
  have hi := ins_sw hwd (by decide) h35 (by omega) (fun k => ins1_2 h35 (by omega) (by omega) (by omega)) hgR (by rw [h14]; exact needs_q (q := 3) (by omega) (by omega)) (show nI 0 ≤ nI (t - gf (fr - 1)) by rw [q_le_t (by omega) (by omega)]; exact True.intro)
  refine ⟨_, hhere, ?_⟩
  rw [hi]
  exact stp_op (by decide) zb (fun α k => by rw [adv3_1 rfl (by omega) g6 (by omega) (by omega), ew]) hwc hnx (op_3 hN he hr hx h35 (by omega) h14 (by omega) h43 hL)
theorem ao_4 {sz kc pd L p : Nat} {te : Nat → Nat} (hN : 400000 ≤ N) (he : eR nk nm nid G lE gg t gs fr gc hn gb gf gr hF hH hP hD S_top S_frames S_handlers n_S_values f_S_values n_S_bases f_S_bases n_S_floors f_S_floors n_S_returns f_S_returns n_S_closures f_S_closures n_S_handlerFrames f_S_handlerFrames n_S_handlerPlaces f_S_handlerPlaces n_S_handlerHeights f_S_handlerHeights n_S_handlerDepths f_S_handlerDepths H_globalsUsed H_used H_old H_oldLeadsToNew f_H_globals n_H_cells f_H_cells n_H_spare) (hr : rR nk nm nid G lR gg t gs fr gc hn gb gf gr hF hH hP hD I F) (hx : xR nm M_fuel M_ticks H_made M_depth B_names O_size n_O_bytes f_O_bytes n_Q_links f_Q_links n_Q_pairs n_H_cells I F) (hpg : pgR sz kc pd te P_size P_constants P_closed P_open n_P_words f_P_words n_P_bytes f_P_bytes n_P_ends f_P_ends I F) (h43 : I 43 = nI L) (hL : L ≤ 131072) (hnm : nm + 1 < 134217728) (h35 : I 35 = nI p) (hp : p < sz) (h14 : F 14 p = nI 4) (h1 : p + 1 < sz) (h2 : 1 ≤ t - gf (fr - 1)) :
    ∃ z3, m_Machine_operandsHere N P_size P_constants P_closed P_open S_top S_frames S_handlers M_status (nI p) M_next M_fuel M_ticks M_depth (I 45) M_done n_P_words f_P_words n_S_floors f_S_floors = some z3 ∧ stpR nm n_H_cells I F (potE n_S_values n_S_bases n_S_handlerFrames n_H_cells n_H_spare n_Q_links n_Q_pairs n_O_bytes) (adF N L z3 P_size P_constants P_closed P_open O_size S_top S_frames S_handlers H_globalsUsed H_used H_spareUsed H_old H_oldLeadsToNew H_limit H_every H_fresh H_made H_madeLimit H_reachedFromGlobals H_reachedInAll H_keptGlobalsUsed H_kept B_names Q_size M_status (nI p) M_next M_fuel M_ticks M_depth M_depthLimit M_done n_P_words f_P_words n_P_bytes f_P_bytes n_P_ends f_P_ends n_O_bytes f_O_bytes n_S_values f_S_values n_S_bases f_S_bases n_S_floors f_S_floors n_S_returns f_S_returns n_S_closures f_S_closures n_S_handlerFrames f_S_handlerFrames n_S_handlerPlaces f_S_handlerPlaces n_S_handlerHeights f_S_handlerHeights n_S_handlerDepths f_S_handlerDepths n_H_globals f_H_globals n_H_cells f_H_cells n_H_spare f_H_spare n_Q_links f_Q_links n_Q_pairs f_Q_pairs I F ()) (m_Model_instruction N I F) := by
  obtain ⟨g1, g2, g3, g4, g5, g6, g7⟩ := hpg.1
  have hgE := eR_height (N := N) he
  have hgR := rR_height (N := N) hr he.1
  have ht := he.1.2.2.1
  have hgf := he.1.2.2.2.2.1
  have hw : f_P_words p = nI 4 := by rw [g7 p hp]; exact h14
  have hwc : f_P_words (nI p).toNatClampNeg = nI 4 := by rw [q_cl (by omega)]; exact hw
  have zb : ¬ (nI p < 0 ∨ n_P_words ≤ (nI p).toNatClampNeg) := bd_n (by omega) (by omega)
  have hwd := wd_4 (N := N) h35 g2 hp g3 h14
  rw [if_pos (show p + 1 + 1 ≤ sz by omega)] at hwd
  have hwd : m_Model_words N I F = some (nI 2) := hwd
  have hhere := here_y (N := N) (M_depthLimit := I 45) (M_status := M_status) (M_next := M_next) (M_fuel := M_fuel) (M_ticks := M_ticks) (M_depth := M_depth) (M_done := M_done) (P_constants := P_constants) (P_closed := P_closed) (P_open := P_open) (q := 4) g1 rfl hp g4 g6 hw (by omega) hgE (by omega) h1 h2 (by omega)
  have hhere : m_Machine_operandsHere N P_size P_constants P_closed P_open S_top S_frames S_handlers M_status (nI p) M_next M_fuel M_ticks M_depth (I 45) M_done n_P_words f_P_words n_S_floors f_S_floors = some (nI 1) := hhere
  have hnx : nI p + 1 + nI 1 = nI (p + 2) := by rw [nI_1, q_add, show p + 1 + 1 = p + 2 by omega]
  have ew : f_P_words (p + 1) = F 14 (p + 1) := g7 (p + 1) (by omega)
  have hi := ins_sw hwd (by decide) h35 (by omega) (fun k => ins1_2 h35 (by omega) (by omega) (by omega)) hgR (by rw [h14]; exact needs_q (q := 4) (by omega) (by omega)) (show nI 1 ≤ nI (t - gf (fr - 1)) by rw [q_le_t (by omega) (by omega)]; exact True.intro)
  refine ⟨_, hhere, ?_⟩
  rw [hi]
  exact stp_op (by decide) zb (fun α k => by rw [adv3_1 rfl (by omega) g6 (by omega) (by omega), ew]) hwc hnx (op_4 hN he hr hx h35 (by omega) h14 (by omega) h43 hL)
theorem ao_5 {sz kc pd L p : Nat} {te : Nat → Nat} (hN : 400000 ≤ N) (he : eR nk nm nid G lE gg t gs fr gc hn gb gf gr hF hH hP hD S_top S_frames S_handlers n_S_values f_S_values n_S_bases f_S_bases n_S_floors f_S_floors n_S_returns f_S_returns n_S_closures f_S_closures n_S_handlerFrames f_S_handlerFrames n_S_handlerPlaces f_S_handlerPlaces n_S_handlerHeights f_S_handlerHeights n_S_handlerDepths f_S_handlerDepths H_globalsUsed H_used H_old H_oldLeadsToNew f_H_globals n_H_cells f_H_cells n_H_spare) (hr : rR nk nm nid G lR gg t gs fr gc hn gb gf gr hF hH hP hD I F) (hx : xR nm M_fuel M_ticks H_made M_depth B_names O_size n_O_bytes f_O_bytes n_Q_links f_Q_links n_Q_pairs n_H_cells I F) (hpg : pgR sz kc pd te P_size P_constants P_closed P_open n_P_words f_P_words n_P_bytes f_P_bytes n_P_ends f_P_ends I F) (h43 : I 43 = nI L) (hL : L ≤ 131072) (hnm : nm + 1 < 134217728) (h35 : I 35 = nI p) (hp : p < sz) (h14 : F 14 p = nI 5) (h1 : p + 1 < sz) (h2 : 0 ≤ t - gf (fr - 1)) :
    ∃ z3, m_Machine_operandsHere N P_size P_constants P_closed P_open S_top S_frames S_handlers M_status (nI p) M_next M_fuel M_ticks M_depth (I 45) M_done n_P_words f_P_words n_S_floors f_S_floors = some z3 ∧ stpR nm n_H_cells I F (potE n_S_values n_S_bases n_S_handlerFrames n_H_cells n_H_spare n_Q_links n_Q_pairs n_O_bytes) (adF N L z3 P_size P_constants P_closed P_open O_size S_top S_frames S_handlers H_globalsUsed H_used H_spareUsed H_old H_oldLeadsToNew H_limit H_every H_fresh H_made H_madeLimit H_reachedFromGlobals H_reachedInAll H_keptGlobalsUsed H_kept B_names Q_size M_status (nI p) M_next M_fuel M_ticks M_depth M_depthLimit M_done n_P_words f_P_words n_P_bytes f_P_bytes n_P_ends f_P_ends n_O_bytes f_O_bytes n_S_values f_S_values n_S_bases f_S_bases n_S_floors f_S_floors n_S_returns f_S_returns n_S_closures f_S_closures n_S_handlerFrames f_S_handlerFrames n_S_handlerPlaces f_S_handlerPlaces n_S_handlerHeights f_S_handlerHeights n_S_handlerDepths f_S_handlerDepths n_H_globals f_H_globals n_H_cells f_H_cells n_H_spare f_H_spare n_Q_links f_Q_links n_Q_pairs f_Q_pairs I F ()) (m_Model_instruction N I F) := by
  obtain ⟨g1, g2, g3, g4, g5, g6, g7⟩ := hpg.1
  have hgE := eR_height (N := N) he
  have hgR := rR_height (N := N) hr he.1
  have ht := he.1.2.2.1
  have hgf := he.1.2.2.2.2.1
  have hw : f_P_words p = nI 5 := by rw [g7 p hp]; exact h14
  have hwc : f_P_words (nI p).toNatClampNeg = nI 5 := by rw [q_cl (by omega)]; exact hw
  have zb : ¬ (nI p < 0 ∨ n_P_words ≤ (nI p).toNatClampNeg) := bd_n (by omega) (by omega)
  have hwd := wd_5 (N := N) h35 g2 hp g3 h14
  rw [if_pos (show p + 1 + 1 ≤ sz by omega)] at hwd
  have hwd : m_Model_words N I F = some (nI 2) := hwd
  have hhere := here_y (N := N) (M_depthLimit := I 45) (M_status := M_status) (M_next := M_next) (M_fuel := M_fuel) (M_ticks := M_ticks) (M_depth := M_depth) (M_done := M_done) (P_constants := P_constants) (P_closed := P_closed) (P_open := P_open) (q := 5) g1 rfl hp g4 g6 hw (by omega) hgE (by omega) h1 h2 (by omega)
  have hhere : m_Machine_operandsHere N P_size P_constants P_closed P_open S_top S_frames S_handlers M_status (nI p) M_next M_fuel M_ticks M_depth (I 45) M_done n_P_words f_P_words n_S_floors f_S_floors = some (nI 1) := hhere
  have hnx : nI p + 1 + nI 1 = nI (p + 2) := by rw [nI_1, q_add, show p + 1 + 1 = p + 2 by omega]
  have ew : f_P_words (p + 1) = F 14 (p + 1) := g7 (p + 1) (by omega)
  have hi := ins_sw hwd (by decide) h35 (by omega) (fun k => ins1_2 h35 (by omega) (by omega) (by omega)) hgR (by rw [h14]; exact needs_q (q := 5) (by omega) (by omega)) (show nI 0 ≤ nI (t - gf (fr - 1)) by rw [q_le_t (by omega) (by omega)]; exact True.intro)
  refine ⟨_, hhere, ?_⟩
  rw [hi]
  exact stp_op (by decide) zb (fun α k => by rw [adv3_1 rfl (by omega) g6 (by omega) (by omega), ew]) hwc hnx (op_5 hN he hr hx h35 (by omega) h14 (by omega) h43 hL)
theorem ao_6 {sz kc pd L p : Nat} {te : Nat → Nat} (hN : 400000 ≤ N) (he : eR nk nm nid G lE gg t gs fr gc hn gb gf gr hF hH hP hD S_top S_frames S_handlers n_S_values f_S_values n_S_bases f_S_bases n_S_floors f_S_floors n_S_returns f_S_returns n_S_closures f_S_closures n_S_handlerFrames f_S_handlerFrames n_S_handlerPlaces f_S_handlerPlaces n_S_handlerHeights f_S_handlerHeights n_S_handlerDepths f_S_handlerDepths H_globalsUsed H_used H_old H_oldLeadsToNew f_H_globals n_H_cells f_H_cells n_H_spare) (hr : rR nk nm nid G lR gg t gs fr gc hn gb gf gr hF hH hP hD I F) (hx : xR nm M_fuel M_ticks H_made M_depth B_names O_size n_O_bytes f_O_bytes n_Q_links f_Q_links n_Q_pairs n_H_cells I F) (hpg : pgR sz kc pd te P_size P_constants P_closed P_open n_P_words f_P_words n_P_bytes f_P_bytes n_P_ends f_P_ends I F) (h43 : I 43 = nI L) (hL : L ≤ 131072) (hnm : nm + 1 < 134217728) (h35 : I 35 = nI p) (hp : p < sz) (h14 : F 14 p = nI 6) (h1 : p + 1 < sz) (h2 : 0 ≤ t - gf (fr - 1)) :
    ∃ z3, m_Machine_operandsHere N P_size P_constants P_closed P_open S_top S_frames S_handlers M_status (nI p) M_next M_fuel M_ticks M_depth (I 45) M_done n_P_words f_P_words n_S_floors f_S_floors = some z3 ∧ stpR nm n_H_cells I F (potE n_S_values n_S_bases n_S_handlerFrames n_H_cells n_H_spare n_Q_links n_Q_pairs n_O_bytes) (adF N L z3 P_size P_constants P_closed P_open O_size S_top S_frames S_handlers H_globalsUsed H_used H_spareUsed H_old H_oldLeadsToNew H_limit H_every H_fresh H_made H_madeLimit H_reachedFromGlobals H_reachedInAll H_keptGlobalsUsed H_kept B_names Q_size M_status (nI p) M_next M_fuel M_ticks M_depth M_depthLimit M_done n_P_words f_P_words n_P_bytes f_P_bytes n_P_ends f_P_ends n_O_bytes f_O_bytes n_S_values f_S_values n_S_bases f_S_bases n_S_floors f_S_floors n_S_returns f_S_returns n_S_closures f_S_closures n_S_handlerFrames f_S_handlerFrames n_S_handlerPlaces f_S_handlerPlaces n_S_handlerHeights f_S_handlerHeights n_S_handlerDepths f_S_handlerDepths n_H_globals f_H_globals n_H_cells f_H_cells n_H_spare f_H_spare n_Q_links f_Q_links n_Q_pairs f_Q_pairs I F ()) (m_Model_instruction N I F) := by
  obtain ⟨g1, g2, g3, g4, g5, g6, g7⟩ := hpg.1
  have hgE := eR_height (N := N) he
  have hgR := rR_height (N := N) hr he.1
  have ht := he.1.2.2.1
  have hgf := he.1.2.2.2.2.1
  have hw : f_P_words p = nI 6 := by rw [g7 p hp]; exact h14
  have hwc : f_P_words (nI p).toNatClampNeg = nI 6 := by rw [q_cl (by omega)]; exact hw
  have zb : ¬ (nI p < 0 ∨ n_P_words ≤ (nI p).toNatClampNeg) := bd_n (by omega) (by omega)
  have hwd := wd_6 (N := N) h35 g2 hp g3 h14
  rw [if_pos (show p + 1 + 1 ≤ sz by omega)] at hwd
  have hwd : m_Model_words N I F = some (nI 2) := hwd
  have hhere := here_y (N := N) (M_depthLimit := I 45) (M_status := M_status) (M_next := M_next) (M_fuel := M_fuel) (M_ticks := M_ticks) (M_depth := M_depth) (M_done := M_done) (P_constants := P_constants) (P_closed := P_closed) (P_open := P_open) (q := 6) g1 rfl hp g4 g6 hw (by omega) hgE (by omega) h1 h2 (by omega)
  have hhere : m_Machine_operandsHere N P_size P_constants P_closed P_open S_top S_frames S_handlers M_status (nI p) M_next M_fuel M_ticks M_depth (I 45) M_done n_P_words f_P_words n_S_floors f_S_floors = some (nI 1) := hhere
  have hnx : nI p + 1 + nI 1 = nI (p + 2) := by rw [nI_1, q_add, show p + 1 + 1 = p + 2 by omega]
  have ew : f_P_words (p + 1) = F 14 (p + 1) := g7 (p + 1) (by omega)
  have hi := ins_sw hwd (by decide) h35 (by omega) (fun k => ins1_2 h35 (by omega) (by omega) (by omega)) hgR (by rw [h14]; exact needs_q (q := 6) (by omega) (by omega)) (show nI 0 ≤ nI (t - gf (fr - 1)) by rw [q_le_t (by omega) (by omega)]; exact True.intro)
  refine ⟨_, hhere, ?_⟩
  rw [hi]
  exact stp_op (by decide) zb (fun α k => by rw [adv3_1 rfl (by omega) g6 (by omega) (by omega), ew]) hwc hnx (op_6 hN he hr hx h35 (by omega) h14 (by omega) h43 hL)
theorem ao_7 {sz kc pd L p : Nat} {te : Nat → Nat} (hN : 400000 ≤ N) (he : eR nk nm nid G lE gg t gs fr gc hn gb gf gr hF hH hP hD S_top S_frames S_handlers n_S_values f_S_values n_S_bases f_S_bases n_S_floors f_S_floors n_S_returns f_S_returns n_S_closures f_S_closures n_S_handlerFrames f_S_handlerFrames n_S_handlerPlaces f_S_handlerPlaces n_S_handlerHeights f_S_handlerHeights n_S_handlerDepths f_S_handlerDepths H_globalsUsed H_used H_old H_oldLeadsToNew f_H_globals n_H_cells f_H_cells n_H_spare) (hr : rR nk nm nid G lR gg t gs fr gc hn gb gf gr hF hH hP hD I F) (hx : xR nm M_fuel M_ticks H_made M_depth B_names O_size n_O_bytes f_O_bytes n_Q_links f_Q_links n_Q_pairs n_H_cells I F) (hpg : pgR sz kc pd te P_size P_constants P_closed P_open n_P_words f_P_words n_P_bytes f_P_bytes n_P_ends f_P_ends I F) (h43 : I 43 = nI L) (hL : L ≤ 131072) (hnm : nm + 1 < 134217728) (h35 : I 35 = nI p) (hp : p < sz) (h14 : F 14 p = nI 7) (h1 : p + 1 < sz) (h2 : 1 ≤ t - gf (fr - 1)) :
    ∃ z3, m_Machine_operandsHere N P_size P_constants P_closed P_open S_top S_frames S_handlers M_status (nI p) M_next M_fuel M_ticks M_depth (I 45) M_done n_P_words f_P_words n_S_floors f_S_floors = some z3 ∧ stpR nm n_H_cells I F (potE n_S_values n_S_bases n_S_handlerFrames n_H_cells n_H_spare n_Q_links n_Q_pairs n_O_bytes) (adF N L z3 P_size P_constants P_closed P_open O_size S_top S_frames S_handlers H_globalsUsed H_used H_spareUsed H_old H_oldLeadsToNew H_limit H_every H_fresh H_made H_madeLimit H_reachedFromGlobals H_reachedInAll H_keptGlobalsUsed H_kept B_names Q_size M_status (nI p) M_next M_fuel M_ticks M_depth M_depthLimit M_done n_P_words f_P_words n_P_bytes f_P_bytes n_P_ends f_P_ends n_O_bytes f_O_bytes n_S_values f_S_values n_S_bases f_S_bases n_S_floors f_S_floors n_S_returns f_S_returns n_S_closures f_S_closures n_S_handlerFrames f_S_handlerFrames n_S_handlerPlaces f_S_handlerPlaces n_S_handlerHeights f_S_handlerHeights n_S_handlerDepths f_S_handlerDepths n_H_globals f_H_globals n_H_cells f_H_cells n_H_spare f_H_spare n_Q_links f_Q_links n_Q_pairs f_Q_pairs I F ()) (m_Model_instruction N I F) := by
  obtain ⟨g1, g2, g3, g4, g5, g6, g7⟩ := hpg.1
  have hgE := eR_height (N := N) he
  have hgR := rR_height (N := N) hr he.1
  have ht := he.1.2.2.1
  have hgf := he.1.2.2.2.2.1
  have hw : f_P_words p = nI 7 := by rw [g7 p hp]; exact h14
  have hwc : f_P_words (nI p).toNatClampNeg = nI 7 := by rw [q_cl (by omega)]; exact hw
  have zb : ¬ (nI p < 0 ∨ n_P_words ≤ (nI p).toNatClampNeg) := bd_n (by omega) (by omega)
  have hwd := wd_7 (N := N) h35 g2 hp g3 h14
  rw [if_pos (show p + 1 + 1 ≤ sz by omega)] at hwd
  have hwd : m_Model_words N I F = some (nI 2) := hwd
  have hhere := here_y (N := N) (M_depthLimit := I 45) (M_status := M_status) (M_next := M_next) (M_fuel := M_fuel) (M_ticks := M_ticks) (M_depth := M_depth) (M_done := M_done) (P_constants := P_constants) (P_closed := P_closed) (P_open := P_open) (q := 7) g1 rfl hp g4 g6 hw (by omega) hgE (by omega) h1 h2 (by omega)
  have hhere : m_Machine_operandsHere N P_size P_constants P_closed P_open S_top S_frames S_handlers M_status (nI p) M_next M_fuel M_ticks M_depth (I 45) M_done n_P_words f_P_words n_S_floors f_S_floors = some (nI 1) := hhere
  have hnx : nI p + 1 + nI 1 = nI (p + 2) := by rw [nI_1, q_add, show p + 1 + 1 = p + 2 by omega]
  have ew : f_P_words (p + 1) = F 14 (p + 1) := g7 (p + 1) (by omega)
  have hi := ins_sw hwd (by decide) h35 (by omega) (fun k => ins1_2 h35 (by omega) (by omega) (by omega)) hgR (by rw [h14]; exact needs_q (q := 7) (by omega) (by omega)) (show nI 1 ≤ nI (t - gf (fr - 1)) by rw [q_le_t (by omega) (by omega)]; exact True.intro)
  refine ⟨_, hhere, ?_⟩
  rw [hi]
  exact stp_op (by decide) zb (fun α k => by rw [adv3_1 rfl (by omega) g6 (by omega) (by omega), ew]) hwc hnx (op_7 hN he hr hx h35 (by omega) h14 (by omega) h43 hL)
theorem ao_8 {sz kc pd L p : Nat} {te : Nat → Nat} (hN : 400000 ≤ N) (he : eR nk nm nid G lE gg t gs fr gc hn gb gf gr hF hH hP hD S_top S_frames S_handlers n_S_values f_S_values n_S_bases f_S_bases n_S_floors f_S_floors n_S_returns f_S_returns n_S_closures f_S_closures n_S_handlerFrames f_S_handlerFrames n_S_handlerPlaces f_S_handlerPlaces n_S_handlerHeights f_S_handlerHeights n_S_handlerDepths f_S_handlerDepths H_globalsUsed H_used H_old H_oldLeadsToNew f_H_globals n_H_cells f_H_cells n_H_spare) (hr : rR nk nm nid G lR gg t gs fr gc hn gb gf gr hF hH hP hD I F) (hx : xR nm M_fuel M_ticks H_made M_depth B_names O_size n_O_bytes f_O_bytes n_Q_links f_Q_links n_Q_pairs n_H_cells I F) (hpg : pgR sz kc pd te P_size P_constants P_closed P_open n_P_words f_P_words n_P_bytes f_P_bytes n_P_ends f_P_ends I F) (h43 : I 43 = nI L) (hL : L ≤ 131072) (hnm : nm + 1 < 134217728) (h35 : I 35 = nI p) (hp : p < sz) (h14 : F 14 p = nI 8) (h1 : p + 0 < sz) (h2 : 1 ≤ t - gf (fr - 1)) :
    ∃ z3, m_Machine_operandsHere N P_size P_constants P_closed P_open S_top S_frames S_handlers M_status (nI p) M_next M_fuel M_ticks M_depth (I 45) M_done n_P_words f_P_words n_S_floors f_S_floors = some z3 ∧ stpR nm n_H_cells I F (potE n_S_values n_S_bases n_S_handlerFrames n_H_cells n_H_spare n_Q_links n_Q_pairs n_O_bytes) (adF N L z3 P_size P_constants P_closed P_open O_size S_top S_frames S_handlers H_globalsUsed H_used H_spareUsed H_old H_oldLeadsToNew H_limit H_every H_fresh H_made H_madeLimit H_reachedFromGlobals H_reachedInAll H_keptGlobalsUsed H_kept B_names Q_size M_status (nI p) M_next M_fuel M_ticks M_depth M_depthLimit M_done n_P_words f_P_words n_P_bytes f_P_bytes n_P_ends f_P_ends n_O_bytes f_O_bytes n_S_values f_S_values n_S_bases f_S_bases n_S_floors f_S_floors n_S_returns f_S_returns n_S_closures f_S_closures n_S_handlerFrames f_S_handlerFrames n_S_handlerPlaces f_S_handlerPlaces n_S_handlerHeights f_S_handlerHeights n_S_handlerDepths f_S_handlerDepths n_H_globals f_H_globals n_H_cells f_H_cells n_H_spare f_H_spare n_Q_links f_Q_links n_Q_pairs f_Q_pairs I F ()) (m_Model_instruction N I F) := by
  obtain ⟨g1, g2, g3, g4, g5, g6, g7⟩ := hpg.1
  have hgE := eR_height (N := N) he
  have hgR := rR_height (N := N) hr he.1
  have ht := he.1.2.2.1
  have hgf := he.1.2.2.2.2.1
  have hw : f_P_words p = nI 8 := by rw [g7 p hp]; exact h14
  have hwc : f_P_words (nI p).toNatClampNeg = nI 8 := by rw [q_cl (by omega)]; exact hw
  have zb : ¬ (nI p < 0 ∨ n_P_words ≤ (nI p).toNatClampNeg) := bd_n (by omega) (by omega)
  have hwd := wd_8 (N := N) h35 g2 hp g3 h14
  rw [if_pos (show p + 1 + 0 ≤ sz by omega)] at hwd
  have hwd : m_Model_words N I F = some (nI 1) := hwd
  have hhere := here_y (N := N) (M_depthLimit := I 45) (M_status := M_status) (M_next := M_next) (M_fuel := M_fuel) (M_ticks := M_ticks) (M_depth := M_depth) (M_done := M_done) (P_constants := P_constants) (P_closed := P_closed) (P_open := P_open) (q := 8) g1 rfl hp g4 g6 hw (by omega) hgE (by omega) h1 h2 (by omega)
  have hhere : m_Machine_operandsHere N P_size P_constants P_closed P_open S_top S_frames S_handlers M_status (nI p) M_next M_fuel M_ticks M_depth (I 45) M_done n_P_words f_P_words n_S_floors f_S_floors = some (nI 0) := hhere
  have hnx : nI p + 1 + nI 0 = nI (p + 1) := by rw [nI_1, q_add, show p + 1 + 0 = p + 1 by omega]
  have hi := ins_sw hwd (by decide) h35 (by omega) (fun k => ins1_1) hgR (by rw [h14]; exact needs_q (q := 8) (by omega) (by omega)) (show nI 1 ≤ nI (t - gf (fr - 1)) by rw [q_le_t (by omega) (by omega)]; exact True.intro)
  refine ⟨_, hhere, ?_⟩
  rw [hi]
  exact stp_op (by decide) zb (fun α k => adv3_0) hwc hnx (op_8 hN he hr hx h35 (by omega) h14 (by omega) h43 hL)
theorem ao_9 {sz kc pd L p : Nat} {te : Nat → Nat} (hN : 400000 ≤ N) (he : eR nk nm nid G lE gg t gs fr gc hn gb gf gr hF hH hP hD S_top S_frames S_handlers n_S_values f_S_values n_S_bases f_S_bases n_S_floors f_S_floors n_S_returns f_S_returns n_S_closures f_S_closures n_S_handlerFrames f_S_handlerFrames n_S_handlerPlaces f_S_handlerPlaces n_S_handlerHeights f_S_handlerHeights n_S_handlerDepths f_S_handlerDepths H_globalsUsed H_used H_old H_oldLeadsToNew f_H_globals n_H_cells f_H_cells n_H_spare) (hr : rR nk nm nid G lR gg t gs fr gc hn gb gf gr hF hH hP hD I F) (hx : xR nm M_fuel M_ticks H_made M_depth B_names O_size n_O_bytes f_O_bytes n_Q_links f_Q_links n_Q_pairs n_H_cells I F) (hpg : pgR sz kc pd te P_size P_constants P_closed P_open n_P_words f_P_words n_P_bytes f_P_bytes n_P_ends f_P_ends I F) (h43 : I 43 = nI L) (hL : L ≤ 131072) (hnm : nm + 1 < 134217728) (h35 : I 35 = nI p) (hp : p < sz) (h14 : F 14 p = nI 9) (h1 : p + 0 < sz) (h2 : 1 ≤ t - gf (fr - 1)) :
    ∃ z3, m_Machine_operandsHere N P_size P_constants P_closed P_open S_top S_frames S_handlers M_status (nI p) M_next M_fuel M_ticks M_depth (I 45) M_done n_P_words f_P_words n_S_floors f_S_floors = some z3 ∧ stpR nm n_H_cells I F (potE n_S_values n_S_bases n_S_handlerFrames n_H_cells n_H_spare n_Q_links n_Q_pairs n_O_bytes) (adF N L z3 P_size P_constants P_closed P_open O_size S_top S_frames S_handlers H_globalsUsed H_used H_spareUsed H_old H_oldLeadsToNew H_limit H_every H_fresh H_made H_madeLimit H_reachedFromGlobals H_reachedInAll H_keptGlobalsUsed H_kept B_names Q_size M_status (nI p) M_next M_fuel M_ticks M_depth M_depthLimit M_done n_P_words f_P_words n_P_bytes f_P_bytes n_P_ends f_P_ends n_O_bytes f_O_bytes n_S_values f_S_values n_S_bases f_S_bases n_S_floors f_S_floors n_S_returns f_S_returns n_S_closures f_S_closures n_S_handlerFrames f_S_handlerFrames n_S_handlerPlaces f_S_handlerPlaces n_S_handlerHeights f_S_handlerHeights n_S_handlerDepths f_S_handlerDepths n_H_globals f_H_globals n_H_cells f_H_cells n_H_spare f_H_spare n_Q_links f_Q_links n_Q_pairs f_Q_pairs I F ()) (m_Model_instruction N I F) := by
  obtain ⟨g1, g2, g3, g4, g5, g6, g7⟩ := hpg.1
  have hgE := eR_height (N := N) he
  have hgR := rR_height (N := N) hr he.1
  have ht := he.1.2.2.1
  have hgf := he.1.2.2.2.2.1
  have hw : f_P_words p = nI 9 := by rw [g7 p hp]; exact h14
  have hwc : f_P_words (nI p).toNatClampNeg = nI 9 := by rw [q_cl (by omega)]; exact hw
  have zb : ¬ (nI p < 0 ∨ n_P_words ≤ (nI p).toNatClampNeg) := bd_n (by omega) (by omega)
  have hwd := wd_9 (N := N) h35 g2 hp g3 h14
  rw [if_pos (show p + 1 + 0 ≤ sz by omega)] at hwd
  have hwd : m_Model_words N I F = some (nI 1) := hwd
  have hhere := here_y (N := N) (M_depthLimit := I 45) (M_status := M_status) (M_next := M_next) (M_fuel := M_fuel) (M_ticks := M_ticks) (M_depth := M_depth) (M_done := M_done) (P_constants := P_constants) (P_closed := P_closed) (P_open := P_open) (q := 9) g1 rfl hp g4 g6 hw (by omega) hgE (by omega) h1 h2 (by omega)
  have hhere : m_Machine_operandsHere N P_size P_constants P_closed P_open S_top S_frames S_handlers M_status (nI p) M_next M_fuel M_ticks M_depth (I 45) M_done n_P_words f_P_words n_S_floors f_S_floors = some (nI 0) := hhere
  have hnx : nI p + 1 + nI 0 = nI (p + 1) := by rw [nI_1, q_add, show p + 1 + 0 = p + 1 by omega]
  have hi := ins_sw hwd (by decide) h35 (by omega) (fun k => ins1_1) hgR (by rw [h14]; exact needs_q (q := 9) (by omega) (by omega)) (show nI 1 ≤ nI (t - gf (fr - 1)) by rw [q_le_t (by omega) (by omega)]; exact True.intro)
  refine ⟨_, hhere, ?_⟩
  rw [hi]
  exact stp_op (by decide) zb (fun α k => adv3_0) hwc hnx (op_9 hN he hr hx h35 (by omega) h14 (by omega) h43 hL)
theorem ao_10 {sz kc pd L p : Nat} {te : Nat → Nat} (hN : 400000 ≤ N) (he : eR nk nm nid G lE gg t gs fr gc hn gb gf gr hF hH hP hD S_top S_frames S_handlers n_S_values f_S_values n_S_bases f_S_bases n_S_floors f_S_floors n_S_returns f_S_returns n_S_closures f_S_closures n_S_handlerFrames f_S_handlerFrames n_S_handlerPlaces f_S_handlerPlaces n_S_handlerHeights f_S_handlerHeights n_S_handlerDepths f_S_handlerDepths H_globalsUsed H_used H_old H_oldLeadsToNew f_H_globals n_H_cells f_H_cells n_H_spare) (hr : rR nk nm nid G lR gg t gs fr gc hn gb gf gr hF hH hP hD I F) (hx : xR nm M_fuel M_ticks H_made M_depth B_names O_size n_O_bytes f_O_bytes n_Q_links f_Q_links n_Q_pairs n_H_cells I F) (hpg : pgR sz kc pd te P_size P_constants P_closed P_open n_P_words f_P_words n_P_bytes f_P_bytes n_P_ends f_P_ends I F) (h43 : I 43 = nI L) (hL : L ≤ 131072) (hnm : nm + 1 < 134217728) (h35 : I 35 = nI p) (hp : p < sz) (h14 : F 14 p = nI 10) (h1 : p + 1 < sz) (h2 : 0 ≤ t - gf (fr - 1)) :
    ∃ z3, m_Machine_operandsHere N P_size P_constants P_closed P_open S_top S_frames S_handlers M_status (nI p) M_next M_fuel M_ticks M_depth (I 45) M_done n_P_words f_P_words n_S_floors f_S_floors = some z3 ∧ stpR nm n_H_cells I F (potE n_S_values n_S_bases n_S_handlerFrames n_H_cells n_H_spare n_Q_links n_Q_pairs n_O_bytes) (adF N L z3 P_size P_constants P_closed P_open O_size S_top S_frames S_handlers H_globalsUsed H_used H_spareUsed H_old H_oldLeadsToNew H_limit H_every H_fresh H_made H_madeLimit H_reachedFromGlobals H_reachedInAll H_keptGlobalsUsed H_kept B_names Q_size M_status (nI p) M_next M_fuel M_ticks M_depth M_depthLimit M_done n_P_words f_P_words n_P_bytes f_P_bytes n_P_ends f_P_ends n_O_bytes f_O_bytes n_S_values f_S_values n_S_bases f_S_bases n_S_floors f_S_floors n_S_returns f_S_returns n_S_closures f_S_closures n_S_handlerFrames f_S_handlerFrames n_S_handlerPlaces f_S_handlerPlaces n_S_handlerHeights f_S_handlerHeights n_S_handlerDepths f_S_handlerDepths n_H_globals f_H_globals n_H_cells f_H_cells n_H_spare f_H_spare n_Q_links f_Q_links n_Q_pairs f_Q_pairs I F ()) (m_Model_instruction N I F) := by
  obtain ⟨g1, g2, g3, g4, g5, g6, g7⟩ := hpg.1
  have hgE := eR_height (N := N) he
  have hgR := rR_height (N := N) hr he.1
  have ht := he.1.2.2.1
  have hgf := he.1.2.2.2.2.1
  have hw : f_P_words p = nI 10 := by rw [g7 p hp]; exact h14
  have hwc : f_P_words (nI p).toNatClampNeg = nI 10 := by rw [q_cl (by omega)]; exact hw
  have zb : ¬ (nI p < 0 ∨ n_P_words ≤ (nI p).toNatClampNeg) := bd_n (by omega) (by omega)
  have hwd := wd_10 (N := N) h35 g2 hp g3 h14
  rw [if_pos (show p + 1 + 1 ≤ sz by omega)] at hwd
  have hwd : m_Model_words N I F = some (nI 2) := hwd
  have hhere := here_y (N := N) (M_depthLimit := I 45) (M_status := M_status) (M_next := M_next) (M_fuel := M_fuel) (M_ticks := M_ticks) (M_depth := M_depth) (M_done := M_done) (P_constants := P_constants) (P_closed := P_closed) (P_open := P_open) (q := 10) g1 rfl hp g4 g6 hw (by omega) hgE (by omega) h1 h2 (by omega)
  have hhere : m_Machine_operandsHere N P_size P_constants P_closed P_open S_top S_frames S_handlers M_status (nI p) M_next M_fuel M_ticks M_depth (I 45) M_done n_P_words f_P_words n_S_floors f_S_floors = some (nI 1) := hhere
  have hnx : nI p + 1 + nI 1 = nI (p + 2) := by rw [nI_1, q_add, show p + 1 + 1 = p + 2 by omega]
  have ew : f_P_words (p + 1) = F 14 (p + 1) := g7 (p + 1) (by omega)
  by_cases hle : F 14 (p + 1) ≤ nI (t - gf (fr - 1))
  · have hi := ins_sw hwd (by decide) h35 (by omega) (fun k => ins1_2 h35 (by omega) (by omega) (by omega)) hgR (by rw [h14]; exact needs_10) hle
    refine ⟨_, hhere, ?_⟩
    rw [hi]
    refine stp_op (by decide) zb (fun α k => by rw [adv3_1 rfl (by omega) g6 (by omega) (by omega), ew]) hwc hnx (op_10 hN he hr hx h35 (by omega) h14 (by omega) h43 hL (fun j hj hj2 => ?_))
    rw [hj] at hle
    by_cases hc : gf (fr - 1) + j ≤ t
    · exact hc
    · rw [q_le_f (by omega) (by omega)] at hle
      exact hle.elim
  · have hi := ins_low hwd (by decide) h35 (by omega) (fun k => ins1_2 h35 (by omega) (by omega) (by omega)) hgR (by rw [h14]; exact needs_10) hle
    have hnn : ¬ F 14 (p + 1) < nI 0 := fun h => hle (Int32.le_of_lt (Int32.lt_of_lt_of_le h (by rw [q_le_t (by omega) (by omega)]; exact True.intro)))
    obtain ⟨j, hj, hj2⟩ := nI_of hnn
    rw [hj2] at hle ew
    have hnt : ¬ gf (fr - 1) + j ≤ t := fun h => hle (by rw [q_le_t (by omega) (by omega)]; exact True.intro)
    refine ⟨_, hhere, ?_⟩
    rw [hi]
    exact stp_op (by decide) zb (fun α k => by rw [adv3_1 rfl (by omega) g6 (by omega) (by omega), ew]) hwc hnx (opR_same (M_next := nI (p + 2)) (st := 4) (by omega) he hr hx (op_10F he hj hnt) rfl)
theorem ao_11 {sz kc pd L p : Nat} {te : Nat → Nat} (hN : 400000 ≤ N) (he : eR nk nm nid G lE gg t gs fr gc hn gb gf gr hF hH hP hD S_top S_frames S_handlers n_S_values f_S_values n_S_bases f_S_bases n_S_floors f_S_floors n_S_returns f_S_returns n_S_closures f_S_closures n_S_handlerFrames f_S_handlerFrames n_S_handlerPlaces f_S_handlerPlaces n_S_handlerHeights f_S_handlerHeights n_S_handlerDepths f_S_handlerDepths H_globalsUsed H_used H_old H_oldLeadsToNew f_H_globals n_H_cells f_H_cells n_H_spare) (hr : rR nk nm nid G lR gg t gs fr gc hn gb gf gr hF hH hP hD I F) (hx : xR nm M_fuel M_ticks H_made M_depth B_names O_size n_O_bytes f_O_bytes n_Q_links f_Q_links n_Q_pairs n_H_cells I F) (hpg : pgR sz kc pd te P_size P_constants P_closed P_open n_P_words f_P_words n_P_bytes f_P_bytes n_P_ends f_P_ends I F) (h43 : I 43 = nI L) (hL : L ≤ 131072) (hnm : nm + 1 < 134217728) (h35 : I 35 = nI p) (hp : p < sz) (h14 : F 14 p = nI 11) (h1 : p + 1 < sz) (h2 : 1 ≤ t - gf (fr - 1)) :
    ∃ z3, m_Machine_operandsHere N P_size P_constants P_closed P_open S_top S_frames S_handlers M_status (nI p) M_next M_fuel M_ticks M_depth (I 45) M_done n_P_words f_P_words n_S_floors f_S_floors = some z3 ∧ stpR nm n_H_cells I F (potE n_S_values n_S_bases n_S_handlerFrames n_H_cells n_H_spare n_Q_links n_Q_pairs n_O_bytes) (adF N L z3 P_size P_constants P_closed P_open O_size S_top S_frames S_handlers H_globalsUsed H_used H_spareUsed H_old H_oldLeadsToNew H_limit H_every H_fresh H_made H_madeLimit H_reachedFromGlobals H_reachedInAll H_keptGlobalsUsed H_kept B_names Q_size M_status (nI p) M_next M_fuel M_ticks M_depth M_depthLimit M_done n_P_words f_P_words n_P_bytes f_P_bytes n_P_ends f_P_ends n_O_bytes f_O_bytes n_S_values f_S_values n_S_bases f_S_bases n_S_floors f_S_floors n_S_returns f_S_returns n_S_closures f_S_closures n_S_handlerFrames f_S_handlerFrames n_S_handlerPlaces f_S_handlerPlaces n_S_handlerHeights f_S_handlerHeights n_S_handlerDepths f_S_handlerDepths n_H_globals f_H_globals n_H_cells f_H_cells n_H_spare f_H_spare n_Q_links f_Q_links n_Q_pairs f_Q_pairs I F ()) (m_Model_instruction N I F) := by
  obtain ⟨g1, g2, g3, g4, g5, g6, g7⟩ := hpg.1
  have hgE := eR_height (N := N) he
  have hgR := rR_height (N := N) hr he.1
  have ht := he.1.2.2.1
  have hgf := he.1.2.2.2.2.1
  have hw : f_P_words p = nI 11 := by rw [g7 p hp]; exact h14
  have hwc : f_P_words (nI p).toNatClampNeg = nI 11 := by rw [q_cl (by omega)]; exact hw
  have zb : ¬ (nI p < 0 ∨ n_P_words ≤ (nI p).toNatClampNeg) := bd_n (by omega) (by omega)
  have hwd := wd_11 (N := N) h35 g2 hp g3 h14
  rw [if_pos (show p + 1 + 1 ≤ sz by omega)] at hwd
  have hwd : m_Model_words N I F = some (nI 2) := hwd
  have hhere := here_y (N := N) (M_depthLimit := I 45) (M_status := M_status) (M_next := M_next) (M_fuel := M_fuel) (M_ticks := M_ticks) (M_depth := M_depth) (M_done := M_done) (P_constants := P_constants) (P_closed := P_closed) (P_open := P_open) (q := 11) g1 rfl hp g4 g6 hw (by omega) hgE (by omega) h1 h2 (by omega)
  have hhere : m_Machine_operandsHere N P_size P_constants P_closed P_open S_top S_frames S_handlers M_status (nI p) M_next M_fuel M_ticks M_depth (I 45) M_done n_P_words f_P_words n_S_floors f_S_floors = some (nI 1) := hhere
  have hnx : nI p + 1 + nI 1 = nI (p + 2) := by rw [nI_1, q_add, show p + 1 + 1 = p + 2 by omega]
  have ew : f_P_words (p + 1) = F 14 (p + 1) := g7 (p + 1) (by omega)
  have hi := ins_sw hwd (by decide) h35 (by omega) (fun k => ins1_2 h35 (by omega) (by omega) (by omega)) hgR (by rw [h14]; exact needs_q (q := 11) (by omega) (by omega)) (show nI 1 ≤ nI (t - gf (fr - 1)) by rw [q_le_t (by omega) (by omega)]; exact True.intro)
  refine ⟨_, hhere, ?_⟩
  rw [hi]
  exact stp_op (by decide) zb (fun α k => by rw [adv3_1 rfl (by omega) g6 (by omega) (by omega), ew]) hwc hnx (op_11 hN he hr hx h35 (by omega) h14 (by omega) h43 hL)
theorem ao_12 {sz kc pd L p : Nat} {te : Nat → Nat} (hN : 400000 ≤ N) (he : eR nk nm nid G lE gg t gs fr gc hn gb gf gr hF hH hP hD S_top S_frames S_handlers n_S_values f_S_values n_S_bases f_S_bases n_S_floors f_S_floors n_S_returns f_S_returns n_S_closures f_S_closures n_S_handlerFrames f_S_handlerFrames n_S_handlerPlaces f_S_handlerPlaces n_S_handlerHeights f_S_handlerHeights n_S_handlerDepths f_S_handlerDepths H_globalsUsed H_used H_old H_oldLeadsToNew f_H_globals n_H_cells f_H_cells n_H_spare) (hr : rR nk nm nid G lR gg t gs fr gc hn gb gf gr hF hH hP hD I F) (hx : xR nm M_fuel M_ticks H_made M_depth B_names O_size n_O_bytes f_O_bytes n_Q_links f_Q_links n_Q_pairs n_H_cells I F) (hpg : pgR sz kc pd te P_size P_constants P_closed P_open n_P_words f_P_words n_P_bytes f_P_bytes n_P_ends f_P_ends I F) (h43 : I 43 = nI L) (hL : L ≤ 131072) (hnm : nm + 1 < 134217728) (h35 : I 35 = nI p) (hp : p < sz) (h14 : F 14 p = nI 12) (h1 : p + 1 < sz) (h2 : 1 ≤ t - gf (fr - 1)) :
    ∃ z3, m_Machine_operandsHere N P_size P_constants P_closed P_open S_top S_frames S_handlers M_status (nI p) M_next M_fuel M_ticks M_depth (I 45) M_done n_P_words f_P_words n_S_floors f_S_floors = some z3 ∧ stpR nm n_H_cells I F (potE n_S_values n_S_bases n_S_handlerFrames n_H_cells n_H_spare n_Q_links n_Q_pairs n_O_bytes) (adF N L z3 P_size P_constants P_closed P_open O_size S_top S_frames S_handlers H_globalsUsed H_used H_spareUsed H_old H_oldLeadsToNew H_limit H_every H_fresh H_made H_madeLimit H_reachedFromGlobals H_reachedInAll H_keptGlobalsUsed H_kept B_names Q_size M_status (nI p) M_next M_fuel M_ticks M_depth M_depthLimit M_done n_P_words f_P_words n_P_bytes f_P_bytes n_P_ends f_P_ends n_O_bytes f_O_bytes n_S_values f_S_values n_S_bases f_S_bases n_S_floors f_S_floors n_S_returns f_S_returns n_S_closures f_S_closures n_S_handlerFrames f_S_handlerFrames n_S_handlerPlaces f_S_handlerPlaces n_S_handlerHeights f_S_handlerHeights n_S_handlerDepths f_S_handlerDepths n_H_globals f_H_globals n_H_cells f_H_cells n_H_spare f_H_spare n_Q_links f_Q_links n_Q_pairs f_Q_pairs I F ()) (m_Model_instruction N I F) := by
  obtain ⟨g1, g2, g3, g4, g5, g6, g7⟩ := hpg.1
  have hgE := eR_height (N := N) he
  have hgR := rR_height (N := N) hr he.1
  have ht := he.1.2.2.1
  have hgf := he.1.2.2.2.2.1
  have hw : f_P_words p = nI 12 := by rw [g7 p hp]; exact h14
  have hwc : f_P_words (nI p).toNatClampNeg = nI 12 := by rw [q_cl (by omega)]; exact hw
  have zb : ¬ (nI p < 0 ∨ n_P_words ≤ (nI p).toNatClampNeg) := bd_n (by omega) (by omega)
  have hwd := wd_12 (N := N) h35 g2 hp g3 h14
  rw [if_pos (show p + 1 + 1 ≤ sz by omega)] at hwd
  have hwd : m_Model_words N I F = some (nI 2) := hwd
  have hhere := here_y (N := N) (M_depthLimit := I 45) (M_status := M_status) (M_next := M_next) (M_fuel := M_fuel) (M_ticks := M_ticks) (M_depth := M_depth) (M_done := M_done) (P_constants := P_constants) (P_closed := P_closed) (P_open := P_open) (q := 12) g1 rfl hp g4 g6 hw (by omega) hgE (by omega) h1 h2 (by omega)
  have hhere : m_Machine_operandsHere N P_size P_constants P_closed P_open S_top S_frames S_handlers M_status (nI p) M_next M_fuel M_ticks M_depth (I 45) M_done n_P_words f_P_words n_S_floors f_S_floors = some (nI 1) := hhere
  have hnx : nI p + 1 + nI 1 = nI (p + 2) := by rw [nI_1, q_add, show p + 1 + 1 = p + 2 by omega]
  have ew : f_P_words (p + 1) = F 14 (p + 1) := g7 (p + 1) (by omega)
  have hi := ins_sw hwd (by decide) h35 (by omega) (fun k => ins1_2 h35 (by omega) (by omega) (by omega)) hgR (by rw [h14]; exact needs_q (q := 12) (by omega) (by omega)) (show nI 1 ≤ nI (t - gf (fr - 1)) by rw [q_le_t (by omega) (by omega)]; exact True.intro)
  refine ⟨_, hhere, ?_⟩
  rw [hi]
  exact stp_op (by decide) zb (fun α k => by rw [adv3_1 rfl (by omega) g6 (by omega) (by omega), ew]) hwc hnx (op_12 hN he hr hx h35 (by omega) h14 (by omega) h43 hL)
theorem ao_13 {sz kc pd L p : Nat} {te : Nat → Nat} (hN : 400000 ≤ N) (he : eR nk nm nid G lE gg t gs fr gc hn gb gf gr hF hH hP hD S_top S_frames S_handlers n_S_values f_S_values n_S_bases f_S_bases n_S_floors f_S_floors n_S_returns f_S_returns n_S_closures f_S_closures n_S_handlerFrames f_S_handlerFrames n_S_handlerPlaces f_S_handlerPlaces n_S_handlerHeights f_S_handlerHeights n_S_handlerDepths f_S_handlerDepths H_globalsUsed H_used H_old H_oldLeadsToNew f_H_globals n_H_cells f_H_cells n_H_spare) (hr : rR nk nm nid G lR gg t gs fr gc hn gb gf gr hF hH hP hD I F) (hx : xR nm M_fuel M_ticks H_made M_depth B_names O_size n_O_bytes f_O_bytes n_Q_links f_Q_links n_Q_pairs n_H_cells I F) (hpg : pgR sz kc pd te P_size P_constants P_closed P_open n_P_words f_P_words n_P_bytes f_P_bytes n_P_ends f_P_ends I F) (h43 : I 43 = nI L) (hL : L ≤ 131072) (hnm : nm + 1 < 134217728) (h35 : I 35 = nI p) (hp : p < sz) (h14 : F 14 p = nI 13) (h1 : p + 0 < sz) (h2 : 1 ≤ t - gf (fr - 1)) :
    ∃ z3, m_Machine_operandsHere N P_size P_constants P_closed P_open S_top S_frames S_handlers M_status (nI p) M_next M_fuel M_ticks M_depth (I 45) M_done n_P_words f_P_words n_S_floors f_S_floors = some z3 ∧ stpR nm n_H_cells I F (potE n_S_values n_S_bases n_S_handlerFrames n_H_cells n_H_spare n_Q_links n_Q_pairs n_O_bytes) (adF N L z3 P_size P_constants P_closed P_open O_size S_top S_frames S_handlers H_globalsUsed H_used H_spareUsed H_old H_oldLeadsToNew H_limit H_every H_fresh H_made H_madeLimit H_reachedFromGlobals H_reachedInAll H_keptGlobalsUsed H_kept B_names Q_size M_status (nI p) M_next M_fuel M_ticks M_depth M_depthLimit M_done n_P_words f_P_words n_P_bytes f_P_bytes n_P_ends f_P_ends n_O_bytes f_O_bytes n_S_values f_S_values n_S_bases f_S_bases n_S_floors f_S_floors n_S_returns f_S_returns n_S_closures f_S_closures n_S_handlerFrames f_S_handlerFrames n_S_handlerPlaces f_S_handlerPlaces n_S_handlerHeights f_S_handlerHeights n_S_handlerDepths f_S_handlerDepths n_H_globals f_H_globals n_H_cells f_H_cells n_H_spare f_H_spare n_Q_links f_Q_links n_Q_pairs f_Q_pairs I F ()) (m_Model_instruction N I F) := by
  obtain ⟨g1, g2, g3, g4, g5, g6, g7⟩ := hpg.1
  have hgE := eR_height (N := N) he
  have hgR := rR_height (N := N) hr he.1
  have ht := he.1.2.2.1
  have hgf := he.1.2.2.2.2.1
  have hw : f_P_words p = nI 13 := by rw [g7 p hp]; exact h14
  have hwc : f_P_words (nI p).toNatClampNeg = nI 13 := by rw [q_cl (by omega)]; exact hw
  have zb : ¬ (nI p < 0 ∨ n_P_words ≤ (nI p).toNatClampNeg) := bd_n (by omega) (by omega)
  have hwd := wd_13 (N := N) h35 g2 hp g3 h14
  rw [if_pos (show p + 1 + 0 ≤ sz by omega)] at hwd
  have hwd : m_Model_words N I F = some (nI 1) := hwd
  have hhere := here_y (N := N) (M_depthLimit := I 45) (M_status := M_status) (M_next := M_next) (M_fuel := M_fuel) (M_ticks := M_ticks) (M_depth := M_depth) (M_done := M_done) (P_constants := P_constants) (P_closed := P_closed) (P_open := P_open) (q := 13) g1 rfl hp g4 g6 hw (by omega) hgE (by omega) h1 h2 (by omega)
  have hhere : m_Machine_operandsHere N P_size P_constants P_closed P_open S_top S_frames S_handlers M_status (nI p) M_next M_fuel M_ticks M_depth (I 45) M_done n_P_words f_P_words n_S_floors f_S_floors = some (nI 0) := hhere
  have hnx : nI p + 1 + nI 0 = nI (p + 1) := by rw [nI_1, q_add, show p + 1 + 0 = p + 1 by omega]
  have hi := ins_sw hwd (by decide) h35 (by omega) (fun k => ins1_1) hgR (by rw [h14]; exact needs_q (q := 13) (by omega) (by omega)) (show nI 1 ≤ nI (t - gf (fr - 1)) by rw [q_le_t (by omega) (by omega)]; exact True.intro)
  refine ⟨_, hhere, ?_⟩
  rw [hi]
  exact stp_op (by decide) zb (fun α k => adv3_0) hwc hnx (op_13 hN he hr hx h35 (by omega) h14 (by omega) h43 hL)
theorem ao_14 {sz kc pd L p : Nat} {te : Nat → Nat} (hN : 400000 ≤ N) (he : eR nk nm nid G lE gg t gs fr gc hn gb gf gr hF hH hP hD S_top S_frames S_handlers n_S_values f_S_values n_S_bases f_S_bases n_S_floors f_S_floors n_S_returns f_S_returns n_S_closures f_S_closures n_S_handlerFrames f_S_handlerFrames n_S_handlerPlaces f_S_handlerPlaces n_S_handlerHeights f_S_handlerHeights n_S_handlerDepths f_S_handlerDepths H_globalsUsed H_used H_old H_oldLeadsToNew f_H_globals n_H_cells f_H_cells n_H_spare) (hr : rR nk nm nid G lR gg t gs fr gc hn gb gf gr hF hH hP hD I F) (hx : xR nm M_fuel M_ticks H_made M_depth B_names O_size n_O_bytes f_O_bytes n_Q_links f_Q_links n_Q_pairs n_H_cells I F) (hpg : pgR sz kc pd te P_size P_constants P_closed P_open n_P_words f_P_words n_P_bytes f_P_bytes n_P_ends f_P_ends I F) (h43 : I 43 = nI L) (hL : L ≤ 131072) (hnm : nm + 1 < 134217728) (h35 : I 35 = nI p) (hp : p < sz) (h14 : F 14 p = nI 14) (h1 : p + 0 < sz) (h2 : 1 ≤ t - gf (fr - 1)) :
    ∃ z3, m_Machine_operandsHere N P_size P_constants P_closed P_open S_top S_frames S_handlers M_status (nI p) M_next M_fuel M_ticks M_depth (I 45) M_done n_P_words f_P_words n_S_floors f_S_floors = some z3 ∧ stpR nm n_H_cells I F (potE n_S_values n_S_bases n_S_handlerFrames n_H_cells n_H_spare n_Q_links n_Q_pairs n_O_bytes) (adF N L z3 P_size P_constants P_closed P_open O_size S_top S_frames S_handlers H_globalsUsed H_used H_spareUsed H_old H_oldLeadsToNew H_limit H_every H_fresh H_made H_madeLimit H_reachedFromGlobals H_reachedInAll H_keptGlobalsUsed H_kept B_names Q_size M_status (nI p) M_next M_fuel M_ticks M_depth M_depthLimit M_done n_P_words f_P_words n_P_bytes f_P_bytes n_P_ends f_P_ends n_O_bytes f_O_bytes n_S_values f_S_values n_S_bases f_S_bases n_S_floors f_S_floors n_S_returns f_S_returns n_S_closures f_S_closures n_S_handlerFrames f_S_handlerFrames n_S_handlerPlaces f_S_handlerPlaces n_S_handlerHeights f_S_handlerHeights n_S_handlerDepths f_S_handlerDepths n_H_globals f_H_globals n_H_cells f_H_cells n_H_spare f_H_spare n_Q_links f_Q_links n_Q_pairs f_Q_pairs I F ()) (m_Model_instruction N I F) := by
  obtain ⟨g1, g2, g3, g4, g5, g6, g7⟩ := hpg.1
  have hgE := eR_height (N := N) he
  have hgR := rR_height (N := N) hr he.1
  have ht := he.1.2.2.1
  have hgf := he.1.2.2.2.2.1
  have hw : f_P_words p = nI 14 := by rw [g7 p hp]; exact h14
  have hwc : f_P_words (nI p).toNatClampNeg = nI 14 := by rw [q_cl (by omega)]; exact hw
  have zb : ¬ (nI p < 0 ∨ n_P_words ≤ (nI p).toNatClampNeg) := bd_n (by omega) (by omega)
  have hwd := wd_14 (N := N) h35 g2 hp g3 h14
  rw [if_pos (show p + 1 + 0 ≤ sz by omega)] at hwd
  have hwd : m_Model_words N I F = some (nI 1) := hwd
  have hhere := here_y (N := N) (M_depthLimit := I 45) (M_status := M_status) (M_next := M_next) (M_fuel := M_fuel) (M_ticks := M_ticks) (M_depth := M_depth) (M_done := M_done) (P_constants := P_constants) (P_closed := P_closed) (P_open := P_open) (q := 14) g1 rfl hp g4 g6 hw (by omega) hgE (by omega) h1 h2 (by omega)
  have hhere : m_Machine_operandsHere N P_size P_constants P_closed P_open S_top S_frames S_handlers M_status (nI p) M_next M_fuel M_ticks M_depth (I 45) M_done n_P_words f_P_words n_S_floors f_S_floors = some (nI 0) := hhere
  have hnx : nI p + 1 + nI 0 = nI (p + 1) := by rw [nI_1, q_add, show p + 1 + 0 = p + 1 by omega]
  have hi := ins_sw hwd (by decide) h35 (by omega) (fun k => ins1_1) hgR (by rw [h14]; exact needs_q (q := 14) (by omega) (by omega)) (show nI 1 ≤ nI (t - gf (fr - 1)) by rw [q_le_t (by omega) (by omega)]; exact True.intro)
  refine ⟨_, hhere, ?_⟩
  rw [hi]
  exact stp_op (by decide) zb (fun α k => adv3_0) hwc hnx (op_14 hN he hr hx h35 (by omega) h14 (by omega) h43 hL)
theorem ao_15 {sz kc pd L p : Nat} {te : Nat → Nat} (hN : 400000 ≤ N) (he : eR nk nm nid G lE gg t gs fr gc hn gb gf gr hF hH hP hD S_top S_frames S_handlers n_S_values f_S_values n_S_bases f_S_bases n_S_floors f_S_floors n_S_returns f_S_returns n_S_closures f_S_closures n_S_handlerFrames f_S_handlerFrames n_S_handlerPlaces f_S_handlerPlaces n_S_handlerHeights f_S_handlerHeights n_S_handlerDepths f_S_handlerDepths H_globalsUsed H_used H_old H_oldLeadsToNew f_H_globals n_H_cells f_H_cells n_H_spare) (hr : rR nk nm nid G lR gg t gs fr gc hn gb gf gr hF hH hP hD I F) (hx : xR nm M_fuel M_ticks H_made M_depth B_names O_size n_O_bytes f_O_bytes n_Q_links f_Q_links n_Q_pairs n_H_cells I F) (hpg : pgR sz kc pd te P_size P_constants P_closed P_open n_P_words f_P_words n_P_bytes f_P_bytes n_P_ends f_P_ends I F) (h43 : I 43 = nI L) (hL : L ≤ 131072) (hnm : nm + 1 < 134217728) (h35 : I 35 = nI p) (hp : p < sz) (h14 : F 14 p = nI 15) (h1 : p + 2 < sz) (h2 : 0 ≤ t - gf (fr - 1)) :
    ∃ z3, m_Machine_operandsHere N P_size P_constants P_closed P_open S_top S_frames S_handlers M_status (nI p) M_next M_fuel M_ticks M_depth (I 45) M_done n_P_words f_P_words n_S_floors f_S_floors = some z3 ∧ stpR nm n_H_cells I F (potE n_S_values n_S_bases n_S_handlerFrames n_H_cells n_H_spare n_Q_links n_Q_pairs n_O_bytes) (adF N L z3 P_size P_constants P_closed P_open O_size S_top S_frames S_handlers H_globalsUsed H_used H_spareUsed H_old H_oldLeadsToNew H_limit H_every H_fresh H_made H_madeLimit H_reachedFromGlobals H_reachedInAll H_keptGlobalsUsed H_kept B_names Q_size M_status (nI p) M_next M_fuel M_ticks M_depth M_depthLimit M_done n_P_words f_P_words n_P_bytes f_P_bytes n_P_ends f_P_ends n_O_bytes f_O_bytes n_S_values f_S_values n_S_bases f_S_bases n_S_floors f_S_floors n_S_returns f_S_returns n_S_closures f_S_closures n_S_handlerFrames f_S_handlerFrames n_S_handlerPlaces f_S_handlerPlaces n_S_handlerHeights f_S_handlerHeights n_S_handlerDepths f_S_handlerDepths n_H_globals f_H_globals n_H_cells f_H_cells n_H_spare f_H_spare n_Q_links f_Q_links n_Q_pairs f_Q_pairs I F ()) (m_Model_instruction N I F) := by
  obtain ⟨g1, g2, g3, g4, g5, g6, g7⟩ := hpg.1
  have hgE := eR_height (N := N) he
  have hgR := rR_height (N := N) hr he.1
  have ht := he.1.2.2.1
  have hgf := he.1.2.2.2.2.1
  have hw : f_P_words p = nI 15 := by rw [g7 p hp]; exact h14
  have hwc : f_P_words (nI p).toNatClampNeg = nI 15 := by rw [q_cl (by omega)]; exact hw
  have zb : ¬ (nI p < 0 ∨ n_P_words ≤ (nI p).toNatClampNeg) := bd_n (by omega) (by omega)
  have hwd := wd_15 (N := N) h35 g2 hp g3 h14
  rw [if_pos (show p + 1 + 2 ≤ sz by omega)] at hwd
  have hwd : m_Model_words N I F = some (nI 3) := hwd
  have hhere := here_y (N := N) (M_depthLimit := I 45) (M_status := M_status) (M_next := M_next) (M_fuel := M_fuel) (M_ticks := M_ticks) (M_depth := M_depth) (M_done := M_done) (P_constants := P_constants) (P_closed := P_closed) (P_open := P_open) (q := 15) g1 rfl hp g4 g6 hw (by omega) hgE (by omega) h1 h2 (by omega)
  have hhere : m_Machine_operandsHere N P_size P_constants P_closed P_open S_top S_frames S_handlers M_status (nI p) M_next M_fuel M_ticks M_depth (I 45) M_done n_P_words f_P_words n_S_floors f_S_floors = some (nI 2) := hhere
  have hnx : nI p + 1 + nI 2 = nI (p + 3) := by rw [nI_1, q_add, show p + 1 + 2 = p + 3 by omega]
  have ew : f_P_words (p + 1) = F 14 (p + 1) := g7 (p + 1) (by omega)
  have hi := ins_sw hwd (by decide) h35 (by omega) (fun k => ins1_2 h35 (by omega) (by omega) (by omega)) hgR (by rw [h14]; exact needs_q (q := 15) (by omega) (by omega)) (show nI 0 ≤ nI (t - gf (fr - 1)) by rw [q_le_t (by omega) (by omega)]; exact True.intro)
  refine ⟨_, hhere, ?_⟩
  rw [hi]
  exact stp_op (by decide) zb (fun α k => by rw [adv3_1 rfl (by omega) g6 (by omega) (by omega), ew]) hwc hnx (op_15 hN he hr hx h35 (by omega) h14 (by omega) h43 hL ⟨by omega, g7 (p + 2) (by omega)⟩ (by omega))
theorem ao_16 {sz kc pd L p : Nat} {te : Nat → Nat} (hN : 400000 ≤ N) (he : eR nk nm nid G lE gg t gs fr gc hn gb gf gr hF hH hP hD S_top S_frames S_handlers n_S_values f_S_values n_S_bases f_S_bases n_S_floors f_S_floors n_S_returns f_S_returns n_S_closures f_S_closures n_S_handlerFrames f_S_handlerFrames n_S_handlerPlaces f_S_handlerPlaces n_S_handlerHeights f_S_handlerHeights n_S_handlerDepths f_S_handlerDepths H_globalsUsed H_used H_old H_oldLeadsToNew f_H_globals n_H_cells f_H_cells n_H_spare) (hr : rR nk nm nid G lR gg t gs fr gc hn gb gf gr hF hH hP hD I F) (hx : xR nm M_fuel M_ticks H_made M_depth B_names O_size n_O_bytes f_O_bytes n_Q_links f_Q_links n_Q_pairs n_H_cells I F) (hpg : pgR sz kc pd te P_size P_constants P_closed P_open n_P_words f_P_words n_P_bytes f_P_bytes n_P_ends f_P_ends I F) (h43 : I 43 = nI L) (hL : L ≤ 131072) (hnm : nm + 1 < 134217728) (h35 : I 35 = nI p) (hp : p < sz) (h14 : F 14 p = nI 16) (h1 : p + 1 < sz) (h2 : 2 ≤ t - gf (fr - 1)) :
    ∃ z3, m_Machine_operandsHere N P_size P_constants P_closed P_open S_top S_frames S_handlers M_status (nI p) M_next M_fuel M_ticks M_depth (I 45) M_done n_P_words f_P_words n_S_floors f_S_floors = some z3 ∧ stpR nm n_H_cells I F (potE n_S_values n_S_bases n_S_handlerFrames n_H_cells n_H_spare n_Q_links n_Q_pairs n_O_bytes) (adF N L z3 P_size P_constants P_closed P_open O_size S_top S_frames S_handlers H_globalsUsed H_used H_spareUsed H_old H_oldLeadsToNew H_limit H_every H_fresh H_made H_madeLimit H_reachedFromGlobals H_reachedInAll H_keptGlobalsUsed H_kept B_names Q_size M_status (nI p) M_next M_fuel M_ticks M_depth M_depthLimit M_done n_P_words f_P_words n_P_bytes f_P_bytes n_P_ends f_P_ends n_O_bytes f_O_bytes n_S_values f_S_values n_S_bases f_S_bases n_S_floors f_S_floors n_S_returns f_S_returns n_S_closures f_S_closures n_S_handlerFrames f_S_handlerFrames n_S_handlerPlaces f_S_handlerPlaces n_S_handlerHeights f_S_handlerHeights n_S_handlerDepths f_S_handlerDepths n_H_globals f_H_globals n_H_cells f_H_cells n_H_spare f_H_spare n_Q_links f_Q_links n_Q_pairs f_Q_pairs I F ()) (m_Model_instruction N I F) := by
  obtain ⟨g1, g2, g3, g4, g5, g6, g7⟩ := hpg.1
  have hgE := eR_height (N := N) he
  have hgR := rR_height (N := N) hr he.1
  have ht := he.1.2.2.1
  have hgf := he.1.2.2.2.2.1
  have hw : f_P_words p = nI 16 := by rw [g7 p hp]; exact h14
  have hwc : f_P_words (nI p).toNatClampNeg = nI 16 := by rw [q_cl (by omega)]; exact hw
  have zb : ¬ (nI p < 0 ∨ n_P_words ≤ (nI p).toNatClampNeg) := bd_n (by omega) (by omega)
  have hwd := wd_16 (N := N) h35 g2 hp g3 h14
  rw [if_pos (show p + 1 + 1 ≤ sz by omega)] at hwd
  have hwd : m_Model_words N I F = some (nI 2) := hwd
  have hhere := here_y (N := N) (M_depthLimit := I 45) (M_status := M_status) (M_next := M_next) (M_fuel := M_fuel) (M_ticks := M_ticks) (M_depth := M_depth) (M_done := M_done) (P_constants := P_constants) (P_closed := P_closed) (P_open := P_open) (q := 16) g1 rfl hp g4 g6 hw (by omega) hgE (by omega) h1 h2 (by omega)
  have hhere : m_Machine_operandsHere N P_size P_constants P_closed P_open S_top S_frames S_handlers M_status (nI p) M_next M_fuel M_ticks M_depth (I 45) M_done n_P_words f_P_words n_S_floors f_S_floors = some (nI 1) := hhere
  have hnx : nI p + 1 + nI 1 = nI (p + 2) := by rw [nI_1, q_add, show p + 1 + 1 = p + 2 by omega]
  have ew : f_P_words (p + 1) = F 14 (p + 1) := g7 (p + 1) (by omega)
  have hi := ins_sw hwd (by decide) h35 (by omega) (fun k => ins1_2 h35 (by omega) (by omega) (by omega)) hgR (by rw [h14]; exact needs_q (q := 16) (by omega) (by omega)) (show nI 2 ≤ nI (t - gf (fr - 1)) by rw [q_le_t (by omega) (by omega)]; exact True.intro)
  refine ⟨_, hhere, ?_⟩
  rw [hi]
  exact stp_op (by decide) zb (fun α k => by rw [adv3_1 rfl (by omega) g6 (by omega) (by omega), ew]) hwc hnx (op_16 hN he hr hx h35 (by omega) h14 (by omega) h43 hL)
theorem ao_17 {sz kc pd L p : Nat} {te : Nat → Nat} (hN : 400000 ≤ N) (he : eR nk nm nid G lE gg t gs fr gc hn gb gf gr hF hH hP hD S_top S_frames S_handlers n_S_values f_S_values n_S_bases f_S_bases n_S_floors f_S_floors n_S_returns f_S_returns n_S_closures f_S_closures n_S_handlerFrames f_S_handlerFrames n_S_handlerPlaces f_S_handlerPlaces n_S_handlerHeights f_S_handlerHeights n_S_handlerDepths f_S_handlerDepths H_globalsUsed H_used H_old H_oldLeadsToNew f_H_globals n_H_cells f_H_cells n_H_spare) (hr : rR nk nm nid G lR gg t gs fr gc hn gb gf gr hF hH hP hD I F) (hx : xR nm M_fuel M_ticks H_made M_depth B_names O_size n_O_bytes f_O_bytes n_Q_links f_Q_links n_Q_pairs n_H_cells I F) (hpg : pgR sz kc pd te P_size P_constants P_closed P_open n_P_words f_P_words n_P_bytes f_P_bytes n_P_ends f_P_ends I F) (h43 : I 43 = nI L) (hL : L ≤ 131072) (hnm : nm + 1 < 134217728) (h35 : I 35 = nI p) (hp : p < sz) (h14 : F 14 p = nI 17) (h1 : p + 0 < sz) (h2 : 2 ≤ t - gf (fr - 1)) :
    ∃ z3, m_Machine_operandsHere N P_size P_constants P_closed P_open S_top S_frames S_handlers M_status (nI p) M_next M_fuel M_ticks M_depth (I 45) M_done n_P_words f_P_words n_S_floors f_S_floors = some z3 ∧ stpR nm n_H_cells I F (potE n_S_values n_S_bases n_S_handlerFrames n_H_cells n_H_spare n_Q_links n_Q_pairs n_O_bytes) (adF N L z3 P_size P_constants P_closed P_open O_size S_top S_frames S_handlers H_globalsUsed H_used H_spareUsed H_old H_oldLeadsToNew H_limit H_every H_fresh H_made H_madeLimit H_reachedFromGlobals H_reachedInAll H_keptGlobalsUsed H_kept B_names Q_size M_status (nI p) M_next M_fuel M_ticks M_depth M_depthLimit M_done n_P_words f_P_words n_P_bytes f_P_bytes n_P_ends f_P_ends n_O_bytes f_O_bytes n_S_values f_S_values n_S_bases f_S_bases n_S_floors f_S_floors n_S_returns f_S_returns n_S_closures f_S_closures n_S_handlerFrames f_S_handlerFrames n_S_handlerPlaces f_S_handlerPlaces n_S_handlerHeights f_S_handlerHeights n_S_handlerDepths f_S_handlerDepths n_H_globals f_H_globals n_H_cells f_H_cells n_H_spare f_H_spare n_Q_links f_Q_links n_Q_pairs f_Q_pairs I F ()) (m_Model_instruction N I F) := by
  obtain ⟨g1, g2, g3, g4, g5, g6, g7⟩ := hpg.1
  have hgE := eR_height (N := N) he
  have hgR := rR_height (N := N) hr he.1
  have ht := he.1.2.2.1
  have hgf := he.1.2.2.2.2.1
  have hw : f_P_words p = nI 17 := by rw [g7 p hp]; exact h14
  have hwc : f_P_words (nI p).toNatClampNeg = nI 17 := by rw [q_cl (by omega)]; exact hw
  have zb : ¬ (nI p < 0 ∨ n_P_words ≤ (nI p).toNatClampNeg) := bd_n (by omega) (by omega)
  have hwd := wd_17 (N := N) h35 g2 hp g3 h14
  rw [if_pos (show p + 1 + 0 ≤ sz by omega)] at hwd
  have hwd : m_Model_words N I F = some (nI 1) := hwd
  have hhere := here_y (N := N) (M_depthLimit := I 45) (M_status := M_status) (M_next := M_next) (M_fuel := M_fuel) (M_ticks := M_ticks) (M_depth := M_depth) (M_done := M_done) (P_constants := P_constants) (P_closed := P_closed) (P_open := P_open) (q := 17) g1 rfl hp g4 g6 hw (by omega) hgE (by omega) h1 h2 (by omega)
  have hhere : m_Machine_operandsHere N P_size P_constants P_closed P_open S_top S_frames S_handlers M_status (nI p) M_next M_fuel M_ticks M_depth (I 45) M_done n_P_words f_P_words n_S_floors f_S_floors = some (nI 0) := hhere
  have hnx : nI p + 1 + nI 0 = nI (p + 1) := by rw [nI_1, q_add, show p + 1 + 0 = p + 1 by omega]
  have hi := ins_sw hwd (by decide) h35 (by omega) (fun k => ins1_1) hgR (by rw [h14]; exact needs_q (q := 17) (by omega) (by omega)) (show nI 2 ≤ nI (t - gf (fr - 1)) by rw [q_le_t (by omega) (by omega)]; exact True.intro)
  refine ⟨_, hhere, ?_⟩
  rw [hi]
  exact stp_op (by decide) zb (fun α k => adv3_0) hwc hnx (op_17 hN he hr hx h35 (by omega) h14 (by omega) h43 hL)
theorem ao_18 {sz kc pd L p : Nat} {te : Nat → Nat} (hN : 400000 ≤ N) (he : eR nk nm nid G lE gg t gs fr gc hn gb gf gr hF hH hP hD S_top S_frames S_handlers n_S_values f_S_values n_S_bases f_S_bases n_S_floors f_S_floors n_S_returns f_S_returns n_S_closures f_S_closures n_S_handlerFrames f_S_handlerFrames n_S_handlerPlaces f_S_handlerPlaces n_S_handlerHeights f_S_handlerHeights n_S_handlerDepths f_S_handlerDepths H_globalsUsed H_used H_old H_oldLeadsToNew f_H_globals n_H_cells f_H_cells n_H_spare) (hr : rR nk nm nid G lR gg t gs fr gc hn gb gf gr hF hH hP hD I F) (hx : xR nm M_fuel M_ticks H_made M_depth B_names O_size n_O_bytes f_O_bytes n_Q_links f_Q_links n_Q_pairs n_H_cells I F) (hpg : pgR sz kc pd te P_size P_constants P_closed P_open n_P_words f_P_words n_P_bytes f_P_bytes n_P_ends f_P_ends I F) (h43 : I 43 = nI L) (hL : L ≤ 131072) (hnm : nm + 1 < 134217728) (h35 : I 35 = nI p) (hp : p < sz) (h14 : F 14 p = nI 18) (h1 : p + 0 < sz) (h2 : 2 ≤ t - gf (fr - 1)) :
    ∃ z3, m_Machine_operandsHere N P_size P_constants P_closed P_open S_top S_frames S_handlers M_status (nI p) M_next M_fuel M_ticks M_depth (I 45) M_done n_P_words f_P_words n_S_floors f_S_floors = some z3 ∧ stpR nm n_H_cells I F (potE n_S_values n_S_bases n_S_handlerFrames n_H_cells n_H_spare n_Q_links n_Q_pairs n_O_bytes) (adF N L z3 P_size P_constants P_closed P_open O_size S_top S_frames S_handlers H_globalsUsed H_used H_spareUsed H_old H_oldLeadsToNew H_limit H_every H_fresh H_made H_madeLimit H_reachedFromGlobals H_reachedInAll H_keptGlobalsUsed H_kept B_names Q_size M_status (nI p) M_next M_fuel M_ticks M_depth M_depthLimit M_done n_P_words f_P_words n_P_bytes f_P_bytes n_P_ends f_P_ends n_O_bytes f_O_bytes n_S_values f_S_values n_S_bases f_S_bases n_S_floors f_S_floors n_S_returns f_S_returns n_S_closures f_S_closures n_S_handlerFrames f_S_handlerFrames n_S_handlerPlaces f_S_handlerPlaces n_S_handlerHeights f_S_handlerHeights n_S_handlerDepths f_S_handlerDepths n_H_globals f_H_globals n_H_cells f_H_cells n_H_spare f_H_spare n_Q_links f_Q_links n_Q_pairs f_Q_pairs I F ()) (m_Model_instruction N I F) := by
  obtain ⟨g1, g2, g3, g4, g5, g6, g7⟩ := hpg.1
  have hgE := eR_height (N := N) he
  have hgR := rR_height (N := N) hr he.1
  have ht := he.1.2.2.1
  have hgf := he.1.2.2.2.2.1
  have hw : f_P_words p = nI 18 := by rw [g7 p hp]; exact h14
  have hwc : f_P_words (nI p).toNatClampNeg = nI 18 := by rw [q_cl (by omega)]; exact hw
  have zb : ¬ (nI p < 0 ∨ n_P_words ≤ (nI p).toNatClampNeg) := bd_n (by omega) (by omega)
  have hwd := wd_18 (N := N) h35 g2 hp g3 h14
  rw [if_pos (show p + 1 + 0 ≤ sz by omega)] at hwd
  have hwd : m_Model_words N I F = some (nI 1) := hwd
  have hhere := here_y (N := N) (M_depthLimit := I 45) (M_status := M_status) (M_next := M_next) (M_fuel := M_fuel) (M_ticks := M_ticks) (M_depth := M_depth) (M_done := M_done) (P_constants := P_constants) (P_closed := P_closed) (P_open := P_open) (q := 18) g1 rfl hp g4 g6 hw (by omega) hgE (by omega) h1 h2 (by omega)
  have hhere : m_Machine_operandsHere N P_size P_constants P_closed P_open S_top S_frames S_handlers M_status (nI p) M_next M_fuel M_ticks M_depth (I 45) M_done n_P_words f_P_words n_S_floors f_S_floors = some (nI 0) := hhere
  have hnx : nI p + 1 + nI 0 = nI (p + 1) := by rw [nI_1, q_add, show p + 1 + 0 = p + 1 by omega]
  have hi := ins_sw hwd (by decide) h35 (by omega) (fun k => ins1_1) hgR (by rw [h14]; exact needs_q (q := 18) (by omega) (by omega)) (show nI 2 ≤ nI (t - gf (fr - 1)) by rw [q_le_t (by omega) (by omega)]; exact True.intro)
  refine ⟨_, hhere, ?_⟩
  rw [hi]
  exact stp_op (by decide) zb (fun α k => adv3_0) hwc hnx (op_18 hN he hr hx h35 (by omega) h14 (by omega) h43 hL)
theorem ao_19 {sz kc pd L p : Nat} {te : Nat → Nat} (hN : 400000 ≤ N) (he : eR nk nm nid G lE gg t gs fr gc hn gb gf gr hF hH hP hD S_top S_frames S_handlers n_S_values f_S_values n_S_bases f_S_bases n_S_floors f_S_floors n_S_returns f_S_returns n_S_closures f_S_closures n_S_handlerFrames f_S_handlerFrames n_S_handlerPlaces f_S_handlerPlaces n_S_handlerHeights f_S_handlerHeights n_S_handlerDepths f_S_handlerDepths H_globalsUsed H_used H_old H_oldLeadsToNew f_H_globals n_H_cells f_H_cells n_H_spare) (hr : rR nk nm nid G lR gg t gs fr gc hn gb gf gr hF hH hP hD I F) (hx : xR nm M_fuel M_ticks H_made M_depth B_names O_size n_O_bytes f_O_bytes n_Q_links f_Q_links n_Q_pairs n_H_cells I F) (hpg : pgR sz kc pd te P_size P_constants P_closed P_open n_P_words f_P_words n_P_bytes f_P_bytes n_P_ends f_P_ends I F) (h43 : I 43 = nI L) (hL : L ≤ 131072) (hnm : nm + 1 < 134217728) (h35 : I 35 = nI p) (hp : p < sz) (h14 : F 14 p = nI 19) (h1 : p + 0 < sz) (h2 : 1 ≤ t - gf (fr - 1)) :
    ∃ z3, m_Machine_operandsHere N P_size P_constants P_closed P_open S_top S_frames S_handlers M_status (nI p) M_next M_fuel M_ticks M_depth (I 45) M_done n_P_words f_P_words n_S_floors f_S_floors = some z3 ∧ stpR nm n_H_cells I F (potE n_S_values n_S_bases n_S_handlerFrames n_H_cells n_H_spare n_Q_links n_Q_pairs n_O_bytes) (adF N L z3 P_size P_constants P_closed P_open O_size S_top S_frames S_handlers H_globalsUsed H_used H_spareUsed H_old H_oldLeadsToNew H_limit H_every H_fresh H_made H_madeLimit H_reachedFromGlobals H_reachedInAll H_keptGlobalsUsed H_kept B_names Q_size M_status (nI p) M_next M_fuel M_ticks M_depth M_depthLimit M_done n_P_words f_P_words n_P_bytes f_P_bytes n_P_ends f_P_ends n_O_bytes f_O_bytes n_S_values f_S_values n_S_bases f_S_bases n_S_floors f_S_floors n_S_returns f_S_returns n_S_closures f_S_closures n_S_handlerFrames f_S_handlerFrames n_S_handlerPlaces f_S_handlerPlaces n_S_handlerHeights f_S_handlerHeights n_S_handlerDepths f_S_handlerDepths n_H_globals f_H_globals n_H_cells f_H_cells n_H_spare f_H_spare n_Q_links f_Q_links n_Q_pairs f_Q_pairs I F ()) (m_Model_instruction N I F) := by
  obtain ⟨g1, g2, g3, g4, g5, g6, g7⟩ := hpg.1
  have hgE := eR_height (N := N) he
  have hgR := rR_height (N := N) hr he.1
  have ht := he.1.2.2.1
  have hgf := he.1.2.2.2.2.1
  have hw : f_P_words p = nI 19 := by rw [g7 p hp]; exact h14
  have hwc : f_P_words (nI p).toNatClampNeg = nI 19 := by rw [q_cl (by omega)]; exact hw
  have zb : ¬ (nI p < 0 ∨ n_P_words ≤ (nI p).toNatClampNeg) := bd_n (by omega) (by omega)
  have hwd := wd_19 (N := N) h35 g2 hp g3 h14
  rw [if_pos (show p + 1 + 0 ≤ sz by omega)] at hwd
  have hwd : m_Model_words N I F = some (nI 1) := hwd
  have hhere := here_y (N := N) (M_depthLimit := I 45) (M_status := M_status) (M_next := M_next) (M_fuel := M_fuel) (M_ticks := M_ticks) (M_depth := M_depth) (M_done := M_done) (P_constants := P_constants) (P_closed := P_closed) (P_open := P_open) (q := 19) g1 rfl hp g4 g6 hw (by omega) hgE (by omega) h1 h2 (by omega)
  have hhere : m_Machine_operandsHere N P_size P_constants P_closed P_open S_top S_frames S_handlers M_status (nI p) M_next M_fuel M_ticks M_depth (I 45) M_done n_P_words f_P_words n_S_floors f_S_floors = some (nI 0) := hhere
  have hnx : nI p + 1 + nI 0 = nI (p + 1) := by rw [nI_1, q_add, show p + 1 + 0 = p + 1 by omega]
  have hi := ins_sw hwd (by decide) h35 (by omega) (fun k => ins1_1) hgR (by rw [h14]; exact needs_q (q := 19) (by omega) (by omega)) (show nI 1 ≤ nI (t - gf (fr - 1)) by rw [q_le_t (by omega) (by omega)]; exact True.intro)
  refine ⟨_, hhere, ?_⟩
  rw [hi]
  exact stp_op (by decide) zb (fun α k => adv3_0) hwc hnx (op_19 hN he hr hx h35 (by omega) h14 (by omega) h43 hL)
theorem ao_20 {sz kc pd L p : Nat} {te : Nat → Nat} (hN : 400000 ≤ N) (he : eR nk nm nid G lE gg t gs fr gc hn gb gf gr hF hH hP hD S_top S_frames S_handlers n_S_values f_S_values n_S_bases f_S_bases n_S_floors f_S_floors n_S_returns f_S_returns n_S_closures f_S_closures n_S_handlerFrames f_S_handlerFrames n_S_handlerPlaces f_S_handlerPlaces n_S_handlerHeights f_S_handlerHeights n_S_handlerDepths f_S_handlerDepths H_globalsUsed H_used H_old H_oldLeadsToNew f_H_globals n_H_cells f_H_cells n_H_spare) (hr : rR nk nm nid G lR gg t gs fr gc hn gb gf gr hF hH hP hD I F) (hx : xR nm M_fuel M_ticks H_made M_depth B_names O_size n_O_bytes f_O_bytes n_Q_links f_Q_links n_Q_pairs n_H_cells I F) (hpg : pgR sz kc pd te P_size P_constants P_closed P_open n_P_words f_P_words n_P_bytes f_P_bytes n_P_ends f_P_ends I F) (h43 : I 43 = nI L) (hL : L ≤ 131072) (hnm : nm + 1 < 134217728) (h35 : I 35 = nI p) (hp : p < sz) (h14 : F 14 p = nI 20) (h1 : p + 1 < sz) (h2 : 0 ≤ t - gf (fr - 1)) :
    ∃ z3, m_Machine_operandsHere N P_size P_constants P_closed P_open S_top S_frames S_handlers M_status (nI p) M_next M_fuel M_ticks M_depth (I 45) M_done n_P_words f_P_words n_S_floors f_S_floors = some z3 ∧ stpR nm n_H_cells I F (potE n_S_values n_S_bases n_S_handlerFrames n_H_cells n_H_spare n_Q_links n_Q_pairs n_O_bytes) (adF N L z3 P_size P_constants P_closed P_open O_size S_top S_frames S_handlers H_globalsUsed H_used H_spareUsed H_old H_oldLeadsToNew H_limit H_every H_fresh H_made H_madeLimit H_reachedFromGlobals H_reachedInAll H_keptGlobalsUsed H_kept B_names Q_size M_status (nI p) M_next M_fuel M_ticks M_depth M_depthLimit M_done n_P_words f_P_words n_P_bytes f_P_bytes n_P_ends f_P_ends n_O_bytes f_O_bytes n_S_values f_S_values n_S_bases f_S_bases n_S_floors f_S_floors n_S_returns f_S_returns n_S_closures f_S_closures n_S_handlerFrames f_S_handlerFrames n_S_handlerPlaces f_S_handlerPlaces n_S_handlerHeights f_S_handlerHeights n_S_handlerDepths f_S_handlerDepths n_H_globals f_H_globals n_H_cells f_H_cells n_H_spare f_H_spare n_Q_links f_Q_links n_Q_pairs f_Q_pairs I F ()) (m_Model_instruction N I F) := by
  obtain ⟨g1, g2, g3, g4, g5, g6, g7⟩ := hpg.1
  have hgE := eR_height (N := N) he
  have hgR := rR_height (N := N) hr he.1
  have ht := he.1.2.2.1
  have hgf := he.1.2.2.2.2.1
  have hw : f_P_words p = nI 20 := by rw [g7 p hp]; exact h14
  have hwc : f_P_words (nI p).toNatClampNeg = nI 20 := by rw [q_cl (by omega)]; exact hw
  have zb : ¬ (nI p < 0 ∨ n_P_words ≤ (nI p).toNatClampNeg) := bd_n (by omega) (by omega)
  have hwd := wd_20 (N := N) h35 g2 hp g3 h14
  rw [if_pos (show p + 1 + 1 ≤ sz by omega)] at hwd
  have hwd : m_Model_words N I F = some (nI 2) := hwd
  have hhere := here_y (N := N) (M_depthLimit := I 45) (M_status := M_status) (M_next := M_next) (M_fuel := M_fuel) (M_ticks := M_ticks) (M_depth := M_depth) (M_done := M_done) (P_constants := P_constants) (P_closed := P_closed) (P_open := P_open) (q := 20) g1 rfl hp g4 g6 hw (by omega) hgE (by omega) h1 h2 (by omega)
  have hhere : m_Machine_operandsHere N P_size P_constants P_closed P_open S_top S_frames S_handlers M_status (nI p) M_next M_fuel M_ticks M_depth (I 45) M_done n_P_words f_P_words n_S_floors f_S_floors = some (nI 1) := hhere
  have hnx : nI p + 1 + nI 1 = nI (p + 2) := by rw [nI_1, q_add, show p + 1 + 1 = p + 2 by omega]
  have ew : f_P_words (p + 1) = F 14 (p + 1) := g7 (p + 1) (by omega)
  have hi := ins_sw hwd (by decide) h35 (by omega) (fun k => ins1_2 h35 (by omega) (by omega) (by omega)) hgR (by rw [h14]; exact needs_q (q := 20) (by omega) (by omega)) (show nI 0 ≤ nI (t - gf (fr - 1)) by rw [q_le_t (by omega) (by omega)]; exact True.intro)
  refine ⟨_, hhere, ?_⟩
  rw [hi]
  exact stp_op (by decide) zb (fun α k => by rw [adv3_1 rfl (by omega) g6 (by omega) (by omega), ew]) hwc hnx (op_20 hN he hr hx h35 (by omega) h14 (by omega) h43 hL)
theorem ao_21 {sz kc pd L p : Nat} {te : Nat → Nat} (hN : 400000 ≤ N) (he : eR nk nm nid G lE gg t gs fr gc hn gb gf gr hF hH hP hD S_top S_frames S_handlers n_S_values f_S_values n_S_bases f_S_bases n_S_floors f_S_floors n_S_returns f_S_returns n_S_closures f_S_closures n_S_handlerFrames f_S_handlerFrames n_S_handlerPlaces f_S_handlerPlaces n_S_handlerHeights f_S_handlerHeights n_S_handlerDepths f_S_handlerDepths H_globalsUsed H_used H_old H_oldLeadsToNew f_H_globals n_H_cells f_H_cells n_H_spare) (hr : rR nk nm nid G lR gg t gs fr gc hn gb gf gr hF hH hP hD I F) (hx : xR nm M_fuel M_ticks H_made M_depth B_names O_size n_O_bytes f_O_bytes n_Q_links f_Q_links n_Q_pairs n_H_cells I F) (hpg : pgR sz kc pd te P_size P_constants P_closed P_open n_P_words f_P_words n_P_bytes f_P_bytes n_P_ends f_P_ends I F) (h43 : I 43 = nI L) (hL : L ≤ 131072) (hnm : nm + 1 < 134217728) (h35 : I 35 = nI p) (hp : p < sz) (h14 : F 14 p = nI 21) (h1 : p + 1 < sz) (h2 : 1 ≤ t - gf (fr - 1)) :
    ∃ z3, m_Machine_operandsHere N P_size P_constants P_closed P_open S_top S_frames S_handlers M_status (nI p) M_next M_fuel M_ticks M_depth (I 45) M_done n_P_words f_P_words n_S_floors f_S_floors = some z3 ∧ stpR nm n_H_cells I F (potE n_S_values n_S_bases n_S_handlerFrames n_H_cells n_H_spare n_Q_links n_Q_pairs n_O_bytes) (adF N L z3 P_size P_constants P_closed P_open O_size S_top S_frames S_handlers H_globalsUsed H_used H_spareUsed H_old H_oldLeadsToNew H_limit H_every H_fresh H_made H_madeLimit H_reachedFromGlobals H_reachedInAll H_keptGlobalsUsed H_kept B_names Q_size M_status (nI p) M_next M_fuel M_ticks M_depth M_depthLimit M_done n_P_words f_P_words n_P_bytes f_P_bytes n_P_ends f_P_ends n_O_bytes f_O_bytes n_S_values f_S_values n_S_bases f_S_bases n_S_floors f_S_floors n_S_returns f_S_returns n_S_closures f_S_closures n_S_handlerFrames f_S_handlerFrames n_S_handlerPlaces f_S_handlerPlaces n_S_handlerHeights f_S_handlerHeights n_S_handlerDepths f_S_handlerDepths n_H_globals f_H_globals n_H_cells f_H_cells n_H_spare f_H_spare n_Q_links f_Q_links n_Q_pairs f_Q_pairs I F ()) (m_Model_instruction N I F) := by
  obtain ⟨g1, g2, g3, g4, g5, g6, g7⟩ := hpg.1
  have hgE := eR_height (N := N) he
  have hgR := rR_height (N := N) hr he.1
  have ht := he.1.2.2.1
  have hgf := he.1.2.2.2.2.1
  have hw : f_P_words p = nI 21 := by rw [g7 p hp]; exact h14
  have hwc : f_P_words (nI p).toNatClampNeg = nI 21 := by rw [q_cl (by omega)]; exact hw
  have zb : ¬ (nI p < 0 ∨ n_P_words ≤ (nI p).toNatClampNeg) := bd_n (by omega) (by omega)
  have hwd := wd_21 (N := N) h35 g2 hp g3 h14
  rw [if_pos (show p + 1 + 1 ≤ sz by omega)] at hwd
  have hwd : m_Model_words N I F = some (nI 2) := hwd
  have hhere := here_y (N := N) (M_depthLimit := I 45) (M_status := M_status) (M_next := M_next) (M_fuel := M_fuel) (M_ticks := M_ticks) (M_depth := M_depth) (M_done := M_done) (P_constants := P_constants) (P_closed := P_closed) (P_open := P_open) (q := 21) g1 rfl hp g4 g6 hw (by omega) hgE (by omega) h1 h2 (by omega)
  have hhere : m_Machine_operandsHere N P_size P_constants P_closed P_open S_top S_frames S_handlers M_status (nI p) M_next M_fuel M_ticks M_depth (I 45) M_done n_P_words f_P_words n_S_floors f_S_floors = some (nI 1) := hhere
  have hnx : nI p + 1 + nI 1 = nI (p + 2) := by rw [nI_1, q_add, show p + 1 + 1 = p + 2 by omega]
  have ew : f_P_words (p + 1) = F 14 (p + 1) := g7 (p + 1) (by omega)
  have hi := ins_sw hwd (by decide) h35 (by omega) (fun k => ins1_2 h35 (by omega) (by omega) (by omega)) hgR (by rw [h14]; exact needs_q (q := 21) (by omega) (by omega)) (show nI 1 ≤ nI (t - gf (fr - 1)) by rw [q_le_t (by omega) (by omega)]; exact True.intro)
  refine ⟨_, hhere, ?_⟩
  rw [hi]
  exact stp_op (by decide) zb (fun α k => by rw [adv3_1 rfl (by omega) g6 (by omega) (by omega), ew]) hwc hnx (op_21 hN he hr hx h35 (by omega) h14 (by omega) h43 hL rfl)
theorem ao_23 {sz kc pd L p : Nat} {te : Nat → Nat} (hN : 400000 ≤ N) (he : eR nk nm nid G lE gg t gs fr gc hn gb gf gr hF hH hP hD S_top S_frames S_handlers n_S_values f_S_values n_S_bases f_S_bases n_S_floors f_S_floors n_S_returns f_S_returns n_S_closures f_S_closures n_S_handlerFrames f_S_handlerFrames n_S_handlerPlaces f_S_handlerPlaces n_S_handlerHeights f_S_handlerHeights n_S_handlerDepths f_S_handlerDepths H_globalsUsed H_used H_old H_oldLeadsToNew f_H_globals n_H_cells f_H_cells n_H_spare) (hr : rR nk nm nid G lR gg t gs fr gc hn gb gf gr hF hH hP hD I F) (hx : xR nm M_fuel M_ticks H_made M_depth B_names O_size n_O_bytes f_O_bytes n_Q_links f_Q_links n_Q_pairs n_H_cells I F) (hpg : pgR sz kc pd te P_size P_constants P_closed P_open n_P_words f_P_words n_P_bytes f_P_bytes n_P_ends f_P_ends I F) (h43 : I 43 = nI L) (hL : L ≤ 131072) (hnm : nm + 1 < 134217728) (h35 : I 35 = nI p) (hp : p < sz) (h14 : F 14 p = nI 23) (h1 : p + 0 < sz) (h2 : 1 ≤ t - gf (fr - 1)) :
    ∃ z3, m_Machine_operandsHere N P_size P_constants P_closed P_open S_top S_frames S_handlers M_status (nI p) M_next M_fuel M_ticks M_depth (I 45) M_done n_P_words f_P_words n_S_floors f_S_floors = some z3 ∧ stpR nm n_H_cells I F (potE n_S_values n_S_bases n_S_handlerFrames n_H_cells n_H_spare n_Q_links n_Q_pairs n_O_bytes) (adF N L z3 P_size P_constants P_closed P_open O_size S_top S_frames S_handlers H_globalsUsed H_used H_spareUsed H_old H_oldLeadsToNew H_limit H_every H_fresh H_made H_madeLimit H_reachedFromGlobals H_reachedInAll H_keptGlobalsUsed H_kept B_names Q_size M_status (nI p) M_next M_fuel M_ticks M_depth M_depthLimit M_done n_P_words f_P_words n_P_bytes f_P_bytes n_P_ends f_P_ends n_O_bytes f_O_bytes n_S_values f_S_values n_S_bases f_S_bases n_S_floors f_S_floors n_S_returns f_S_returns n_S_closures f_S_closures n_S_handlerFrames f_S_handlerFrames n_S_handlerPlaces f_S_handlerPlaces n_S_handlerHeights f_S_handlerHeights n_S_handlerDepths f_S_handlerDepths n_H_globals f_H_globals n_H_cells f_H_cells n_H_spare f_H_spare n_Q_links f_Q_links n_Q_pairs f_Q_pairs I F ()) (m_Model_instruction N I F) := by
  obtain ⟨g1, g2, g3, g4, g5, g6, g7⟩ := hpg.1
  have hgE := eR_height (N := N) he
  have hgR := rR_height (N := N) hr he.1
  have ht := he.1.2.2.1
  have hgf := he.1.2.2.2.2.1
  have hw : f_P_words p = nI 23 := by rw [g7 p hp]; exact h14
  have hwc : f_P_words (nI p).toNatClampNeg = nI 23 := by rw [q_cl (by omega)]; exact hw
  have zb : ¬ (nI p < 0 ∨ n_P_words ≤ (nI p).toNatClampNeg) := bd_n (by omega) (by omega)
  have hwd := wd_23 (N := N) h35 g2 hp g3 h14
  rw [if_pos (show p + 1 + 0 ≤ sz by omega)] at hwd
  have hwd : m_Model_words N I F = some (nI 1) := hwd
  have hhere := here_y (N := N) (M_depthLimit := I 45) (M_status := M_status) (M_next := M_next) (M_fuel := M_fuel) (M_ticks := M_ticks) (M_depth := M_depth) (M_done := M_done) (P_constants := P_constants) (P_closed := P_closed) (P_open := P_open) (q := 23) g1 rfl hp g4 g6 hw (by omega) hgE (by omega) h1 h2 (by omega)
  have hhere : m_Machine_operandsHere N P_size P_constants P_closed P_open S_top S_frames S_handlers M_status (nI p) M_next M_fuel M_ticks M_depth (I 45) M_done n_P_words f_P_words n_S_floors f_S_floors = some (nI 0) := hhere
  have hnx : nI p + 1 + nI 0 = nI (p + 1) := by rw [nI_1, q_add, show p + 1 + 0 = p + 1 by omega]
  have hi := ins_sw hwd (by decide) h35 (by omega) (fun k => ins1_1) hgR (by rw [h14]; exact needs_q (q := 23) (by omega) (by omega)) (show nI 1 ≤ nI (t - gf (fr - 1)) by rw [q_le_t (by omega) (by omega)]; exact True.intro)
  refine ⟨_, hhere, ?_⟩
  rw [hi]
  exact stp_op (by decide) zb (fun α k => adv3_0) hwc hnx (op_23 hN he hr hx h35 (by omega) h14 (by omega) h43 hL)
theorem ao_24 {sz kc pd L p : Nat} {te : Nat → Nat} (hN : 400000 ≤ N) (he : eR nk nm nid G lE gg t gs fr gc hn gb gf gr hF hH hP hD S_top S_frames S_handlers n_S_values f_S_values n_S_bases f_S_bases n_S_floors f_S_floors n_S_returns f_S_returns n_S_closures f_S_closures n_S_handlerFrames f_S_handlerFrames n_S_handlerPlaces f_S_handlerPlaces n_S_handlerHeights f_S_handlerHeights n_S_handlerDepths f_S_handlerDepths H_globalsUsed H_used H_old H_oldLeadsToNew f_H_globals n_H_cells f_H_cells n_H_spare) (hr : rR nk nm nid G lR gg t gs fr gc hn gb gf gr hF hH hP hD I F) (hx : xR nm M_fuel M_ticks H_made M_depth B_names O_size n_O_bytes f_O_bytes n_Q_links f_Q_links n_Q_pairs n_H_cells I F) (hpg : pgR sz kc pd te P_size P_constants P_closed P_open n_P_words f_P_words n_P_bytes f_P_bytes n_P_ends f_P_ends I F) (h43 : I 43 = nI L) (hL : L ≤ 131072) (hnm : nm + 1 < 134217728) (h35 : I 35 = nI p) (hp : p < sz) (h14 : F 14 p = nI 24) (h1 : p + 0 < sz) (h2 : 1 ≤ t - gf (fr - 1)) :
    ∃ z3, m_Machine_operandsHere N P_size P_constants P_closed P_open S_top S_frames S_handlers M_status (nI p) M_next M_fuel M_ticks M_depth (I 45) M_done n_P_words f_P_words n_S_floors f_S_floors = some z3 ∧ stpR nm n_H_cells I F (potE n_S_values n_S_bases n_S_handlerFrames n_H_cells n_H_spare n_Q_links n_Q_pairs n_O_bytes) (adF N L z3 P_size P_constants P_closed P_open O_size S_top S_frames S_handlers H_globalsUsed H_used H_spareUsed H_old H_oldLeadsToNew H_limit H_every H_fresh H_made H_madeLimit H_reachedFromGlobals H_reachedInAll H_keptGlobalsUsed H_kept B_names Q_size M_status (nI p) M_next M_fuel M_ticks M_depth M_depthLimit M_done n_P_words f_P_words n_P_bytes f_P_bytes n_P_ends f_P_ends n_O_bytes f_O_bytes n_S_values f_S_values n_S_bases f_S_bases n_S_floors f_S_floors n_S_returns f_S_returns n_S_closures f_S_closures n_S_handlerFrames f_S_handlerFrames n_S_handlerPlaces f_S_handlerPlaces n_S_handlerHeights f_S_handlerHeights n_S_handlerDepths f_S_handlerDepths n_H_globals f_H_globals n_H_cells f_H_cells n_H_spare f_H_spare n_Q_links f_Q_links n_Q_pairs f_Q_pairs I F ()) (m_Model_instruction N I F) := by
  obtain ⟨g1, g2, g3, g4, g5, g6, g7⟩ := hpg.1
  have hgE := eR_height (N := N) he
  have hgR := rR_height (N := N) hr he.1
  have ht := he.1.2.2.1
  have hgf := he.1.2.2.2.2.1
  have hw : f_P_words p = nI 24 := by rw [g7 p hp]; exact h14
  have hwc : f_P_words (nI p).toNatClampNeg = nI 24 := by rw [q_cl (by omega)]; exact hw
  have zb : ¬ (nI p < 0 ∨ n_P_words ≤ (nI p).toNatClampNeg) := bd_n (by omega) (by omega)
  have hwd := wd_24 (N := N) h35 g2 hp g3 h14
  rw [if_pos (show p + 1 + 0 ≤ sz by omega)] at hwd
  have hwd : m_Model_words N I F = some (nI 1) := hwd
  have hhere := here_y (N := N) (M_depthLimit := I 45) (M_status := M_status) (M_next := M_next) (M_fuel := M_fuel) (M_ticks := M_ticks) (M_depth := M_depth) (M_done := M_done) (P_constants := P_constants) (P_closed := P_closed) (P_open := P_open) (q := 24) g1 rfl hp g4 g6 hw (by omega) hgE (by omega) h1 h2 (by omega)
  have hhere : m_Machine_operandsHere N P_size P_constants P_closed P_open S_top S_frames S_handlers M_status (nI p) M_next M_fuel M_ticks M_depth (I 45) M_done n_P_words f_P_words n_S_floors f_S_floors = some (nI 0) := hhere
  have hnx : nI p + 1 + nI 0 = nI (p + 1) := by rw [nI_1, q_add, show p + 1 + 0 = p + 1 by omega]
  have hi := ins_sw hwd (by decide) h35 (by omega) (fun k => ins1_1) hgR (by rw [h14]; exact needs_q (q := 24) (by omega) (by omega)) (show nI 1 ≤ nI (t - gf (fr - 1)) by rw [q_le_t (by omega) (by omega)]; exact True.intro)
  refine ⟨_, hhere, ?_⟩
  rw [hi]
  exact stp_op (by decide) zb (fun α k => adv3_0) hwc hnx (op_24 hN he hr hx h35 (by omega) h14 (by omega) h43 hL)
theorem ao_25 {sz kc pd L p : Nat} {te : Nat → Nat} (hN : 400000 ≤ N) (he : eR nk nm nid G lE gg t gs fr gc hn gb gf gr hF hH hP hD S_top S_frames S_handlers n_S_values f_S_values n_S_bases f_S_bases n_S_floors f_S_floors n_S_returns f_S_returns n_S_closures f_S_closures n_S_handlerFrames f_S_handlerFrames n_S_handlerPlaces f_S_handlerPlaces n_S_handlerHeights f_S_handlerHeights n_S_handlerDepths f_S_handlerDepths H_globalsUsed H_used H_old H_oldLeadsToNew f_H_globals n_H_cells f_H_cells n_H_spare) (hr : rR nk nm nid G lR gg t gs fr gc hn gb gf gr hF hH hP hD I F) (hx : xR nm M_fuel M_ticks H_made M_depth B_names O_size n_O_bytes f_O_bytes n_Q_links f_Q_links n_Q_pairs n_H_cells I F) (hpg : pgR sz kc pd te P_size P_constants P_closed P_open n_P_words f_P_words n_P_bytes f_P_bytes n_P_ends f_P_ends I F) (h43 : I 43 = nI L) (hL : L ≤ 131072) (hnm : nm + 1 < 134217728) (h35 : I 35 = nI p) (hp : p < sz) (h14 : F 14 p = nI 25) (h1 : p + 0 < sz) (h2 : 2 ≤ t - gf (fr - 1)) :
    ∃ z3, m_Machine_operandsHere N P_size P_constants P_closed P_open S_top S_frames S_handlers M_status (nI p) M_next M_fuel M_ticks M_depth (I 45) M_done n_P_words f_P_words n_S_floors f_S_floors = some z3 ∧ stpR nm n_H_cells I F (potE n_S_values n_S_bases n_S_handlerFrames n_H_cells n_H_spare n_Q_links n_Q_pairs n_O_bytes) (adF N L z3 P_size P_constants P_closed P_open O_size S_top S_frames S_handlers H_globalsUsed H_used H_spareUsed H_old H_oldLeadsToNew H_limit H_every H_fresh H_made H_madeLimit H_reachedFromGlobals H_reachedInAll H_keptGlobalsUsed H_kept B_names Q_size M_status (nI p) M_next M_fuel M_ticks M_depth M_depthLimit M_done n_P_words f_P_words n_P_bytes f_P_bytes n_P_ends f_P_ends n_O_bytes f_O_bytes n_S_values f_S_values n_S_bases f_S_bases n_S_floors f_S_floors n_S_returns f_S_returns n_S_closures f_S_closures n_S_handlerFrames f_S_handlerFrames n_S_handlerPlaces f_S_handlerPlaces n_S_handlerHeights f_S_handlerHeights n_S_handlerDepths f_S_handlerDepths n_H_globals f_H_globals n_H_cells f_H_cells n_H_spare f_H_spare n_Q_links f_Q_links n_Q_pairs f_Q_pairs I F ()) (m_Model_instruction N I F) := by
  obtain ⟨g1, g2, g3, g4, g5, g6, g7⟩ := hpg.1
  have hgE := eR_height (N := N) he
  have hgR := rR_height (N := N) hr he.1
  have ht := he.1.2.2.1
  have hgf := he.1.2.2.2.2.1
  have hw : f_P_words p = nI 25 := by rw [g7 p hp]; exact h14
  have hwc : f_P_words (nI p).toNatClampNeg = nI 25 := by rw [q_cl (by omega)]; exact hw
  have zb : ¬ (nI p < 0 ∨ n_P_words ≤ (nI p).toNatClampNeg) := bd_n (by omega) (by omega)
  have hwd := wd_25 (N := N) h35 g2 hp g3 h14
  rw [if_pos (show p + 1 + 0 ≤ sz by omega)] at hwd
  have hwd : m_Model_words N I F = some (nI 1) := hwd
  have hhere := here_y (N := N) (M_depthLimit := I 45) (M_status := M_status) (M_next := M_next) (M_fuel := M_fuel) (M_ticks := M_ticks) (M_depth := M_depth) (M_done := M_done) (P_constants := P_constants) (P_closed := P_closed) (P_open := P_open) (q := 25) g1 rfl hp g4 g6 hw (by omega) hgE (by omega) h1 h2 (by omega)
  have hhere : m_Machine_operandsHere N P_size P_constants P_closed P_open S_top S_frames S_handlers M_status (nI p) M_next M_fuel M_ticks M_depth (I 45) M_done n_P_words f_P_words n_S_floors f_S_floors = some (nI 0) := hhere
  have hnx : nI p + 1 + nI 0 = nI (p + 1) := by rw [nI_1, q_add, show p + 1 + 0 = p + 1 by omega]
  have hi := ins_sw hwd (by decide) h35 (by omega) (fun k => ins1_1) hgR (by rw [h14]; exact needs_q (q := 25) (by omega) (by omega)) (show nI 2 ≤ nI (t - gf (fr - 1)) by rw [q_le_t (by omega) (by omega)]; exact True.intro)
  refine ⟨_, hhere, ?_⟩
  rw [hi]
  exact stp_op (by decide) zb (fun α k => adv3_0) hwc hnx (op_25 hN he hr hx h35 (by omega) h14 (by omega) h43 hL)
theorem ao_26 {sz kc pd L p : Nat} {te : Nat → Nat} (hN : 400000 ≤ N) (he : eR nk nm nid G lE gg t gs fr gc hn gb gf gr hF hH hP hD S_top S_frames S_handlers n_S_values f_S_values n_S_bases f_S_bases n_S_floors f_S_floors n_S_returns f_S_returns n_S_closures f_S_closures n_S_handlerFrames f_S_handlerFrames n_S_handlerPlaces f_S_handlerPlaces n_S_handlerHeights f_S_handlerHeights n_S_handlerDepths f_S_handlerDepths H_globalsUsed H_used H_old H_oldLeadsToNew f_H_globals n_H_cells f_H_cells n_H_spare) (hr : rR nk nm nid G lR gg t gs fr gc hn gb gf gr hF hH hP hD I F) (hx : xR nm M_fuel M_ticks H_made M_depth B_names O_size n_O_bytes f_O_bytes n_Q_links f_Q_links n_Q_pairs n_H_cells I F) (hpg : pgR sz kc pd te P_size P_constants P_closed P_open n_P_words f_P_words n_P_bytes f_P_bytes n_P_ends f_P_ends I F) (h43 : I 43 = nI L) (hL : L ≤ 131072) (hnm : nm + 1 < 134217728) (h35 : I 35 = nI p) (hp : p < sz) (h14 : F 14 p = nI 26) (h1 : p + 1 < sz) (h2 : 0 ≤ t - gf (fr - 1)) :
    ∃ z3, m_Machine_operandsHere N P_size P_constants P_closed P_open S_top S_frames S_handlers M_status (nI p) M_next M_fuel M_ticks M_depth (I 45) M_done n_P_words f_P_words n_S_floors f_S_floors = some z3 ∧ stpR nm n_H_cells I F (potE n_S_values n_S_bases n_S_handlerFrames n_H_cells n_H_spare n_Q_links n_Q_pairs n_O_bytes) (adF N L z3 P_size P_constants P_closed P_open O_size S_top S_frames S_handlers H_globalsUsed H_used H_spareUsed H_old H_oldLeadsToNew H_limit H_every H_fresh H_made H_madeLimit H_reachedFromGlobals H_reachedInAll H_keptGlobalsUsed H_kept B_names Q_size M_status (nI p) M_next M_fuel M_ticks M_depth M_depthLimit M_done n_P_words f_P_words n_P_bytes f_P_bytes n_P_ends f_P_ends n_O_bytes f_O_bytes n_S_values f_S_values n_S_bases f_S_bases n_S_floors f_S_floors n_S_returns f_S_returns n_S_closures f_S_closures n_S_handlerFrames f_S_handlerFrames n_S_handlerPlaces f_S_handlerPlaces n_S_handlerHeights f_S_handlerHeights n_S_handlerDepths f_S_handlerDepths n_H_globals f_H_globals n_H_cells f_H_cells n_H_spare f_H_spare n_Q_links f_Q_links n_Q_pairs f_Q_pairs I F ()) (m_Model_instruction N I F) := by
  obtain ⟨g1, g2, g3, g4, g5, g6, g7⟩ := hpg.1
  have hgE := eR_height (N := N) he
  have hgR := rR_height (N := N) hr he.1
  have ht := he.1.2.2.1
  have hgf := he.1.2.2.2.2.1
  have hw : f_P_words p = nI 26 := by rw [g7 p hp]; exact h14
  have hwc : f_P_words (nI p).toNatClampNeg = nI 26 := by rw [q_cl (by omega)]; exact hw
  have zb : ¬ (nI p < 0 ∨ n_P_words ≤ (nI p).toNatClampNeg) := bd_n (by omega) (by omega)
  have hwd := wd_26 (N := N) h35 g2 hp g3 h14
  rw [if_pos (show p + 1 + 1 ≤ sz by omega)] at hwd
  have hwd : m_Model_words N I F = some (nI 2) := hwd
  have hhere := here_y (N := N) (M_depthLimit := I 45) (M_status := M_status) (M_next := M_next) (M_fuel := M_fuel) (M_ticks := M_ticks) (M_depth := M_depth) (M_done := M_done) (P_constants := P_constants) (P_closed := P_closed) (P_open := P_open) (q := 26) g1 rfl hp g4 g6 hw (by omega) hgE (by omega) h1 h2 (by omega)
  have hhere : m_Machine_operandsHere N P_size P_constants P_closed P_open S_top S_frames S_handlers M_status (nI p) M_next M_fuel M_ticks M_depth (I 45) M_done n_P_words f_P_words n_S_floors f_S_floors = some (nI 1) := hhere
  have hnx : nI p + 1 + nI 1 = nI (p + 2) := by rw [nI_1, q_add, show p + 1 + 1 = p + 2 by omega]
  have ew : f_P_words (p + 1) = F 14 (p + 1) := g7 (p + 1) (by omega)
  have hi := ins_sw hwd (by decide) h35 (by omega) (fun k => ins1_2 h35 (by omega) (by omega) (by omega)) hgR (by rw [h14]; exact needs_q (q := 26) (by omega) (by omega)) (show nI 0 ≤ nI (t - gf (fr - 1)) by rw [q_le_t (by omega) (by omega)]; exact True.intro)
  refine ⟨_, hhere, ?_⟩
  rw [hi]
  exact stp_op (by decide) zb (fun α k => by rw [adv3_1 rfl (by omega) g6 (by omega) (by omega), ew]) hwc hnx (op_26 hN he hr hx h35 (by omega) h14 (by omega) h43 hL)
theorem ao_27 {sz kc pd L p : Nat} {te : Nat → Nat} (hN : 400000 ≤ N) (he : eR nk nm nid G lE gg t gs fr gc hn gb gf gr hF hH hP hD S_top S_frames S_handlers n_S_values f_S_values n_S_bases f_S_bases n_S_floors f_S_floors n_S_returns f_S_returns n_S_closures f_S_closures n_S_handlerFrames f_S_handlerFrames n_S_handlerPlaces f_S_handlerPlaces n_S_handlerHeights f_S_handlerHeights n_S_handlerDepths f_S_handlerDepths H_globalsUsed H_used H_old H_oldLeadsToNew f_H_globals n_H_cells f_H_cells n_H_spare) (hr : rR nk nm nid G lR gg t gs fr gc hn gb gf gr hF hH hP hD I F) (hx : xR nm M_fuel M_ticks H_made M_depth B_names O_size n_O_bytes f_O_bytes n_Q_links f_Q_links n_Q_pairs n_H_cells I F) (hpg : pgR sz kc pd te P_size P_constants P_closed P_open n_P_words f_P_words n_P_bytes f_P_bytes n_P_ends f_P_ends I F) (h43 : I 43 = nI L) (hL : L ≤ 131072) (hnm : nm + 1 < 134217728) (h35 : I 35 = nI p) (hp : p < sz) (h14 : F 14 p = nI 27) (h1 : p + 0 < sz) (h2 : 0 ≤ t - gf (fr - 1)) :
    ∃ z3, m_Machine_operandsHere N P_size P_constants P_closed P_open S_top S_frames S_handlers M_status (nI p) M_next M_fuel M_ticks M_depth (I 45) M_done n_P_words f_P_words n_S_floors f_S_floors = some z3 ∧ stpR nm n_H_cells I F (potE n_S_values n_S_bases n_S_handlerFrames n_H_cells n_H_spare n_Q_links n_Q_pairs n_O_bytes) (adF N L z3 P_size P_constants P_closed P_open O_size S_top S_frames S_handlers H_globalsUsed H_used H_spareUsed H_old H_oldLeadsToNew H_limit H_every H_fresh H_made H_madeLimit H_reachedFromGlobals H_reachedInAll H_keptGlobalsUsed H_kept B_names Q_size M_status (nI p) M_next M_fuel M_ticks M_depth M_depthLimit M_done n_P_words f_P_words n_P_bytes f_P_bytes n_P_ends f_P_ends n_O_bytes f_O_bytes n_S_values f_S_values n_S_bases f_S_bases n_S_floors f_S_floors n_S_returns f_S_returns n_S_closures f_S_closures n_S_handlerFrames f_S_handlerFrames n_S_handlerPlaces f_S_handlerPlaces n_S_handlerHeights f_S_handlerHeights n_S_handlerDepths f_S_handlerDepths n_H_globals f_H_globals n_H_cells f_H_cells n_H_spare f_H_spare n_Q_links f_Q_links n_Q_pairs f_Q_pairs I F ()) (m_Model_instruction N I F) := by
  obtain ⟨g1, g2, g3, g4, g5, g6, g7⟩ := hpg.1
  have hgE := eR_height (N := N) he
  have hgR := rR_height (N := N) hr he.1
  have ht := he.1.2.2.1
  have hgf := he.1.2.2.2.2.1
  have hw : f_P_words p = nI 27 := by rw [g7 p hp]; exact h14
  have hwc : f_P_words (nI p).toNatClampNeg = nI 27 := by rw [q_cl (by omega)]; exact hw
  have zb : ¬ (nI p < 0 ∨ n_P_words ≤ (nI p).toNatClampNeg) := bd_n (by omega) (by omega)
  have hwd := wd_27 (N := N) h35 g2 hp g3 h14
  rw [if_pos (show p + 1 + 0 ≤ sz by omega)] at hwd
  have hwd : m_Model_words N I F = some (nI 1) := hwd
  have hhere := here_y (N := N) (M_depthLimit := I 45) (M_status := M_status) (M_next := M_next) (M_fuel := M_fuel) (M_ticks := M_ticks) (M_depth := M_depth) (M_done := M_done) (P_constants := P_constants) (P_closed := P_closed) (P_open := P_open) (q := 27) g1 rfl hp g4 g6 hw (by omega) hgE (by omega) h1 h2 (by omega)
  have hhere : m_Machine_operandsHere N P_size P_constants P_closed P_open S_top S_frames S_handlers M_status (nI p) M_next M_fuel M_ticks M_depth (I 45) M_done n_P_words f_P_words n_S_floors f_S_floors = some (nI 0) := hhere
  have hnx : nI p + 1 + nI 0 = nI (p + 1) := by rw [nI_1, q_add, show p + 1 + 0 = p + 1 by omega]
  have hi := ins_sw hwd (by decide) h35 (by omega) (fun k => ins1_1) hgR (by rw [h14]; exact needs_q (q := 27) (by omega) (by omega)) (show nI 0 ≤ nI (t - gf (fr - 1)) by rw [q_le_t (by omega) (by omega)]; exact True.intro)
  refine ⟨_, hhere, ?_⟩
  rw [hi]
  exact stp_op (by decide) zb (fun α k => adv3_0) hwc hnx (op_27 hN he hr hx h35 (by omega) h14 (by omega) h43 hL)
theorem ao_28 {sz kc pd L p : Nat} {te : Nat → Nat} (hN : 400000 ≤ N) (he : eR nk nm nid G lE gg t gs fr gc hn gb gf gr hF hH hP hD S_top S_frames S_handlers n_S_values f_S_values n_S_bases f_S_bases n_S_floors f_S_floors n_S_returns f_S_returns n_S_closures f_S_closures n_S_handlerFrames f_S_handlerFrames n_S_handlerPlaces f_S_handlerPlaces n_S_handlerHeights f_S_handlerHeights n_S_handlerDepths f_S_handlerDepths H_globalsUsed H_used H_old H_oldLeadsToNew f_H_globals n_H_cells f_H_cells n_H_spare) (hr : rR nk nm nid G lR gg t gs fr gc hn gb gf gr hF hH hP hD I F) (hx : xR nm M_fuel M_ticks H_made M_depth B_names O_size n_O_bytes f_O_bytes n_Q_links f_Q_links n_Q_pairs n_H_cells I F) (hpg : pgR sz kc pd te P_size P_constants P_closed P_open n_P_words f_P_words n_P_bytes f_P_bytes n_P_ends f_P_ends I F) (h43 : I 43 = nI L) (hL : L ≤ 131072) (hnm : nm + 1 < 134217728) (h35 : I 35 = nI p) (hp : p < sz) (h14 : F 14 p = nI 28) (h1 : p + 0 < sz) (h2 : 1 ≤ t - gf (fr - 1)) :
    ∃ z3, m_Machine_operandsHere N P_size P_constants P_closed P_open S_top S_frames S_handlers M_status (nI p) M_next M_fuel M_ticks M_depth (I 45) M_done n_P_words f_P_words n_S_floors f_S_floors = some z3 ∧ stpR nm n_H_cells I F (potE n_S_values n_S_bases n_S_handlerFrames n_H_cells n_H_spare n_Q_links n_Q_pairs n_O_bytes) (adF N L z3 P_size P_constants P_closed P_open O_size S_top S_frames S_handlers H_globalsUsed H_used H_spareUsed H_old H_oldLeadsToNew H_limit H_every H_fresh H_made H_madeLimit H_reachedFromGlobals H_reachedInAll H_keptGlobalsUsed H_kept B_names Q_size M_status (nI p) M_next M_fuel M_ticks M_depth M_depthLimit M_done n_P_words f_P_words n_P_bytes f_P_bytes n_P_ends f_P_ends n_O_bytes f_O_bytes n_S_values f_S_values n_S_bases f_S_bases n_S_floors f_S_floors n_S_returns f_S_returns n_S_closures f_S_closures n_S_handlerFrames f_S_handlerFrames n_S_handlerPlaces f_S_handlerPlaces n_S_handlerHeights f_S_handlerHeights n_S_handlerDepths f_S_handlerDepths n_H_globals f_H_globals n_H_cells f_H_cells n_H_spare f_H_spare n_Q_links f_Q_links n_Q_pairs f_Q_pairs I F ()) (m_Model_instruction N I F) := by
  obtain ⟨g1, g2, g3, g4, g5, g6, g7⟩ := hpg.1
  have hgE := eR_height (N := N) he
  have hgR := rR_height (N := N) hr he.1
  have ht := he.1.2.2.1
  have hgf := he.1.2.2.2.2.1
  have hw : f_P_words p = nI 28 := by rw [g7 p hp]; exact h14
  have hwc : f_P_words (nI p).toNatClampNeg = nI 28 := by rw [q_cl (by omega)]; exact hw
  have zb : ¬ (nI p < 0 ∨ n_P_words ≤ (nI p).toNatClampNeg) := bd_n (by omega) (by omega)
  have hwd := wd_28 (N := N) h35 g2 hp g3 h14
  rw [if_pos (show p + 1 + 0 ≤ sz by omega)] at hwd
  have hwd : m_Model_words N I F = some (nI 1) := hwd
  have hhere := here_y (N := N) (M_depthLimit := I 45) (M_status := M_status) (M_next := M_next) (M_fuel := M_fuel) (M_ticks := M_ticks) (M_depth := M_depth) (M_done := M_done) (P_constants := P_constants) (P_closed := P_closed) (P_open := P_open) (q := 28) g1 rfl hp g4 g6 hw (by omega) hgE (by omega) h1 h2 (by omega)
  have hhere : m_Machine_operandsHere N P_size P_constants P_closed P_open S_top S_frames S_handlers M_status (nI p) M_next M_fuel M_ticks M_depth (I 45) M_done n_P_words f_P_words n_S_floors f_S_floors = some (nI 0) := hhere
  have hnx : nI p + 1 + nI 0 = nI (p + 1) := by rw [nI_1, q_add, show p + 1 + 0 = p + 1 by omega]
  have hi := ins_sw hwd (by decide) h35 (by omega) (fun k => ins1_1) hgR (by rw [h14]; exact needs_q (q := 28) (by omega) (by omega)) (show nI 1 ≤ nI (t - gf (fr - 1)) by rw [q_le_t (by omega) (by omega)]; exact True.intro)
  refine ⟨_, hhere, ?_⟩
  rw [hi]
  exact stp_op (by decide) zb (fun α k => adv3_0) hwc hnx (op_28 hN he hr hx h35 (by omega) h14 (by omega) h43 hL)
theorem ao_29 {sz kc pd L p : Nat} {te : Nat → Nat} (hN : 400000 ≤ N) (he : eR nk nm nid G lE gg t gs fr gc hn gb gf gr hF hH hP hD S_top S_frames S_handlers n_S_values f_S_values n_S_bases f_S_bases n_S_floors f_S_floors n_S_returns f_S_returns n_S_closures f_S_closures n_S_handlerFrames f_S_handlerFrames n_S_handlerPlaces f_S_handlerPlaces n_S_handlerHeights f_S_handlerHeights n_S_handlerDepths f_S_handlerDepths H_globalsUsed H_used H_old H_oldLeadsToNew f_H_globals n_H_cells f_H_cells n_H_spare) (hr : rR nk nm nid G lR gg t gs fr gc hn gb gf gr hF hH hP hD I F) (hx : xR nm M_fuel M_ticks H_made M_depth B_names O_size n_O_bytes f_O_bytes n_Q_links f_Q_links n_Q_pairs n_H_cells I F) (hpg : pgR sz kc pd te P_size P_constants P_closed P_open n_P_words f_P_words n_P_bytes f_P_bytes n_P_ends f_P_ends I F) (h43 : I 43 = nI L) (hL : L ≤ 131072) (hnm : nm + 1 < 134217728) (h35 : I 35 = nI p) (hp : p < sz) (h14 : F 14 p = nI 29) (h1 : p + 1 < sz) (h2 : 0 ≤ t - gf (fr - 1)) :
    ∃ z3, m_Machine_operandsHere N P_size P_constants P_closed P_open S_top S_frames S_handlers M_status (nI p) M_next M_fuel M_ticks M_depth (I 45) M_done n_P_words f_P_words n_S_floors f_S_floors = some z3 ∧ stpR nm n_H_cells I F (potE n_S_values n_S_bases n_S_handlerFrames n_H_cells n_H_spare n_Q_links n_Q_pairs n_O_bytes) (adF N L z3 P_size P_constants P_closed P_open O_size S_top S_frames S_handlers H_globalsUsed H_used H_spareUsed H_old H_oldLeadsToNew H_limit H_every H_fresh H_made H_madeLimit H_reachedFromGlobals H_reachedInAll H_keptGlobalsUsed H_kept B_names Q_size M_status (nI p) M_next M_fuel M_ticks M_depth M_depthLimit M_done n_P_words f_P_words n_P_bytes f_P_bytes n_P_ends f_P_ends n_O_bytes f_O_bytes n_S_values f_S_values n_S_bases f_S_bases n_S_floors f_S_floors n_S_returns f_S_returns n_S_closures f_S_closures n_S_handlerFrames f_S_handlerFrames n_S_handlerPlaces f_S_handlerPlaces n_S_handlerHeights f_S_handlerHeights n_S_handlerDepths f_S_handlerDepths n_H_globals f_H_globals n_H_cells f_H_cells n_H_spare f_H_spare n_Q_links f_Q_links n_Q_pairs f_Q_pairs I F ()) (m_Model_instruction N I F) := by
  obtain ⟨g1, g2, g3, g4, g5, g6, g7⟩ := hpg.1
  have hgE := eR_height (N := N) he
  have hgR := rR_height (N := N) hr he.1
  have ht := he.1.2.2.1
  have hgf := he.1.2.2.2.2.1
  have hw : f_P_words p = nI 29 := by rw [g7 p hp]; exact h14
  have hwc : f_P_words (nI p).toNatClampNeg = nI 29 := by rw [q_cl (by omega)]; exact hw
  have zb : ¬ (nI p < 0 ∨ n_P_words ≤ (nI p).toNatClampNeg) := bd_n (by omega) (by omega)
  have hwd := wd_29 (N := N) h35 g2 hp g3 h14
  rw [if_pos (show p + 1 + 1 ≤ sz by omega)] at hwd
  have hwd : m_Model_words N I F = some (nI 2) := hwd
  have hhere := here_y (N := N) (M_depthLimit := I 45) (M_status := M_status) (M_next := M_next) (M_fuel := M_fuel) (M_ticks := M_ticks) (M_depth := M_depth) (M_done := M_done) (P_constants := P_constants) (P_closed := P_closed) (P_open := P_open) (q := 29) g1 rfl hp g4 g6 hw (by omega) hgE (by omega) h1 h2 (by omega)
  have hhere : m_Machine_operandsHere N P_size P_constants P_closed P_open S_top S_frames S_handlers M_status (nI p) M_next M_fuel M_ticks M_depth (I 45) M_done n_P_words f_P_words n_S_floors f_S_floors = some (nI 1) := hhere
  have hnx : nI p + 1 + nI 1 = nI (p + 2) := by rw [nI_1, q_add, show p + 1 + 1 = p + 2 by omega]
  have ew : f_P_words (p + 1) = F 14 (p + 1) := g7 (p + 1) (by omega)
  have hi := ins_sw hwd (by decide) h35 (by omega) (fun k => ins1_2 h35 (by omega) (by omega) (by omega)) hgR (by rw [h14]; exact needs_q (q := 29) (by omega) (by omega)) (show nI 0 ≤ nI (t - gf (fr - 1)) by rw [q_le_t (by omega) (by omega)]; exact True.intro)
  refine ⟨_, hhere, ?_⟩
  rw [hi]
  exact stp_op (by decide) zb (fun α k => by rw [adv3_1 rfl (by omega) g6 (by omega) (by omega), ew]) hwc hnx (op_29 hN he hr hx h35 (by omega) h14 (by omega) h43 hL hnm)
theorem ao_30 {sz kc pd L p : Nat} {te : Nat → Nat} (hN : 400000 ≤ N) (he : eR nk nm nid G lE gg t gs fr gc hn gb gf gr hF hH hP hD S_top S_frames S_handlers n_S_values f_S_values n_S_bases f_S_bases n_S_floors f_S_floors n_S_returns f_S_returns n_S_closures f_S_closures n_S_handlerFrames f_S_handlerFrames n_S_handlerPlaces f_S_handlerPlaces n_S_handlerHeights f_S_handlerHeights n_S_handlerDepths f_S_handlerDepths H_globalsUsed H_used H_old H_oldLeadsToNew f_H_globals n_H_cells f_H_cells n_H_spare) (hr : rR nk nm nid G lR gg t gs fr gc hn gb gf gr hF hH hP hD I F) (hx : xR nm M_fuel M_ticks H_made M_depth B_names O_size n_O_bytes f_O_bytes n_Q_links f_Q_links n_Q_pairs n_H_cells I F) (hpg : pgR sz kc pd te P_size P_constants P_closed P_open n_P_words f_P_words n_P_bytes f_P_bytes n_P_ends f_P_ends I F) (h43 : I 43 = nI L) (hL : L ≤ 131072) (hnm : nm + 1 < 134217728) (h35 : I 35 = nI p) (hp : p < sz) (h14 : F 14 p = nI 30) (h1 : p + 0 < sz) (h2 : 2 ≤ t - gf (fr - 1)) :
    ∃ z3, m_Machine_operandsHere N P_size P_constants P_closed P_open S_top S_frames S_handlers M_status (nI p) M_next M_fuel M_ticks M_depth (I 45) M_done n_P_words f_P_words n_S_floors f_S_floors = some z3 ∧ stpR nm n_H_cells I F (potE n_S_values n_S_bases n_S_handlerFrames n_H_cells n_H_spare n_Q_links n_Q_pairs n_O_bytes) (adF N L z3 P_size P_constants P_closed P_open O_size S_top S_frames S_handlers H_globalsUsed H_used H_spareUsed H_old H_oldLeadsToNew H_limit H_every H_fresh H_made H_madeLimit H_reachedFromGlobals H_reachedInAll H_keptGlobalsUsed H_kept B_names Q_size M_status (nI p) M_next M_fuel M_ticks M_depth M_depthLimit M_done n_P_words f_P_words n_P_bytes f_P_bytes n_P_ends f_P_ends n_O_bytes f_O_bytes n_S_values f_S_values n_S_bases f_S_bases n_S_floors f_S_floors n_S_returns f_S_returns n_S_closures f_S_closures n_S_handlerFrames f_S_handlerFrames n_S_handlerPlaces f_S_handlerPlaces n_S_handlerHeights f_S_handlerHeights n_S_handlerDepths f_S_handlerDepths n_H_globals f_H_globals n_H_cells f_H_cells n_H_spare f_H_spare n_Q_links f_Q_links n_Q_pairs f_Q_pairs I F ()) (m_Model_instruction N I F) := by
  obtain ⟨g1, g2, g3, g4, g5, g6, g7⟩ := hpg.1
  have hgE := eR_height (N := N) he
  have hgR := rR_height (N := N) hr he.1
  have ht := he.1.2.2.1
  have hgf := he.1.2.2.2.2.1
  have hw : f_P_words p = nI 30 := by rw [g7 p hp]; exact h14
  have hwc : f_P_words (nI p).toNatClampNeg = nI 30 := by rw [q_cl (by omega)]; exact hw
  have zb : ¬ (nI p < 0 ∨ n_P_words ≤ (nI p).toNatClampNeg) := bd_n (by omega) (by omega)
  have hwd := wd_30 (N := N) h35 g2 hp g3 h14
  rw [if_pos (show p + 1 + 0 ≤ sz by omega)] at hwd
  have hwd : m_Model_words N I F = some (nI 1) := hwd
  have hhere := here_y (N := N) (M_depthLimit := I 45) (M_status := M_status) (M_next := M_next) (M_fuel := M_fuel) (M_ticks := M_ticks) (M_depth := M_depth) (M_done := M_done) (P_constants := P_constants) (P_closed := P_closed) (P_open := P_open) (q := 30) g1 rfl hp g4 g6 hw (by omega) hgE (by omega) h1 h2 (by omega)
  have hhere : m_Machine_operandsHere N P_size P_constants P_closed P_open S_top S_frames S_handlers M_status (nI p) M_next M_fuel M_ticks M_depth (I 45) M_done n_P_words f_P_words n_S_floors f_S_floors = some (nI 0) := hhere
  have hnx : nI p + 1 + nI 0 = nI (p + 1) := by rw [nI_1, q_add, show p + 1 + 0 = p + 1 by omega]
  have hi := ins_sw hwd (by decide) h35 (by omega) (fun k => ins1_1) hgR (by rw [h14]; exact needs_q (q := 30) (by omega) (by omega)) (show nI 2 ≤ nI (t - gf (fr - 1)) by rw [q_le_t (by omega) (by omega)]; exact True.intro)
  refine ⟨_, hhere, ?_⟩
  rw [hi]
  exact stp_op (by decide) zb (fun α k => adv3_0) hwc hnx (op_30 hN he hr hx h35 (by omega) h14 (by omega) h43 hL)
theorem ao_31 {sz kc pd L p : Nat} {te : Nat → Nat} (hN : 400000 ≤ N) (he : eR nk nm nid G lE gg t gs fr gc hn gb gf gr hF hH hP hD S_top S_frames S_handlers n_S_values f_S_values n_S_bases f_S_bases n_S_floors f_S_floors n_S_returns f_S_returns n_S_closures f_S_closures n_S_handlerFrames f_S_handlerFrames n_S_handlerPlaces f_S_handlerPlaces n_S_handlerHeights f_S_handlerHeights n_S_handlerDepths f_S_handlerDepths H_globalsUsed H_used H_old H_oldLeadsToNew f_H_globals n_H_cells f_H_cells n_H_spare) (hr : rR nk nm nid G lR gg t gs fr gc hn gb gf gr hF hH hP hD I F) (hx : xR nm M_fuel M_ticks H_made M_depth B_names O_size n_O_bytes f_O_bytes n_Q_links f_Q_links n_Q_pairs n_H_cells I F) (hpg : pgR sz kc pd te P_size P_constants P_closed P_open n_P_words f_P_words n_P_bytes f_P_bytes n_P_ends f_P_ends I F) (h43 : I 43 = nI L) (hL : L ≤ 131072) (hnm : nm + 1 < 134217728) (h35 : I 35 = nI p) (hp : p < sz) (h14 : F 14 p = nI 31) (h1 : p + 0 < sz) (h2 : 1 ≤ t - gf (fr - 1)) :
    ∃ z3, m_Machine_operandsHere N P_size P_constants P_closed P_open S_top S_frames S_handlers M_status (nI p) M_next M_fuel M_ticks M_depth (I 45) M_done n_P_words f_P_words n_S_floors f_S_floors = some z3 ∧ stpR nm n_H_cells I F (potE n_S_values n_S_bases n_S_handlerFrames n_H_cells n_H_spare n_Q_links n_Q_pairs n_O_bytes) (adF N L z3 P_size P_constants P_closed P_open O_size S_top S_frames S_handlers H_globalsUsed H_used H_spareUsed H_old H_oldLeadsToNew H_limit H_every H_fresh H_made H_madeLimit H_reachedFromGlobals H_reachedInAll H_keptGlobalsUsed H_kept B_names Q_size M_status (nI p) M_next M_fuel M_ticks M_depth M_depthLimit M_done n_P_words f_P_words n_P_bytes f_P_bytes n_P_ends f_P_ends n_O_bytes f_O_bytes n_S_values f_S_values n_S_bases f_S_bases n_S_floors f_S_floors n_S_returns f_S_returns n_S_closures f_S_closures n_S_handlerFrames f_S_handlerFrames n_S_handlerPlaces f_S_handlerPlaces n_S_handlerHeights f_S_handlerHeights n_S_handlerDepths f_S_handlerDepths n_H_globals f_H_globals n_H_cells f_H_cells n_H_spare f_H_spare n_Q_links f_Q_links n_Q_pairs f_Q_pairs I F ()) (m_Model_instruction N I F) := by
  obtain ⟨g1, g2, g3, g4, g5, g6, g7⟩ := hpg.1
  have hgE := eR_height (N := N) he
  have hgR := rR_height (N := N) hr he.1
  have ht := he.1.2.2.1
  have hgf := he.1.2.2.2.2.1
  have hw : f_P_words p = nI 31 := by rw [g7 p hp]; exact h14
  have hwc : f_P_words (nI p).toNatClampNeg = nI 31 := by rw [q_cl (by omega)]; exact hw
  have zb : ¬ (nI p < 0 ∨ n_P_words ≤ (nI p).toNatClampNeg) := bd_n (by omega) (by omega)
  have hwd := wd_31 (N := N) h35 g2 hp g3 h14
  rw [if_pos (show p + 1 + 0 ≤ sz by omega)] at hwd
  have hwd : m_Model_words N I F = some (nI 1) := hwd
  have hhere := here_y (N := N) (M_depthLimit := I 45) (M_status := M_status) (M_next := M_next) (M_fuel := M_fuel) (M_ticks := M_ticks) (M_depth := M_depth) (M_done := M_done) (P_constants := P_constants) (P_closed := P_closed) (P_open := P_open) (q := 31) g1 rfl hp g4 g6 hw (by omega) hgE (by omega) h1 h2 (by omega)
  have hhere : m_Machine_operandsHere N P_size P_constants P_closed P_open S_top S_frames S_handlers M_status (nI p) M_next M_fuel M_ticks M_depth (I 45) M_done n_P_words f_P_words n_S_floors f_S_floors = some (nI 0) := hhere
  have hnx : nI p + 1 + nI 0 = nI (p + 1) := by rw [nI_1, q_add, show p + 1 + 0 = p + 1 by omega]
  have hi := ins_sw hwd (by decide) h35 (by omega) (fun k => ins1_1) hgR (by rw [h14]; exact needs_q (q := 31) (by omega) (by omega)) (show nI 1 ≤ nI (t - gf (fr - 1)) by rw [q_le_t (by omega) (by omega)]; exact True.intro)
  refine ⟨_, hhere, ?_⟩
  rw [hi]
  exact stp_op (by decide) zb (fun α k => adv3_0) hwc hnx (op_31 hN he hr hx h35 (by omega) h14 (by omega) h43 hL)
theorem ao_32 {sz kc pd L p : Nat} {te : Nat → Nat} (hN : 400000 ≤ N) (he : eR nk nm nid G lE gg t gs fr gc hn gb gf gr hF hH hP hD S_top S_frames S_handlers n_S_values f_S_values n_S_bases f_S_bases n_S_floors f_S_floors n_S_returns f_S_returns n_S_closures f_S_closures n_S_handlerFrames f_S_handlerFrames n_S_handlerPlaces f_S_handlerPlaces n_S_handlerHeights f_S_handlerHeights n_S_handlerDepths f_S_handlerDepths H_globalsUsed H_used H_old H_oldLeadsToNew f_H_globals n_H_cells f_H_cells n_H_spare) (hr : rR nk nm nid G lR gg t gs fr gc hn gb gf gr hF hH hP hD I F) (hx : xR nm M_fuel M_ticks H_made M_depth B_names O_size n_O_bytes f_O_bytes n_Q_links f_Q_links n_Q_pairs n_H_cells I F) (hpg : pgR sz kc pd te P_size P_constants P_closed P_open n_P_words f_P_words n_P_bytes f_P_bytes n_P_ends f_P_ends I F) (h43 : I 43 = nI L) (hL : L ≤ 131072) (hnm : nm + 1 < 134217728) (h35 : I 35 = nI p) (hp : p < sz) (h14 : F 14 p = nI 32) (h1 : p + 0 < sz) (h2 : 2 ≤ t - gf (fr - 1)) :
    ∃ z3, m_Machine_operandsHere N P_size P_constants P_closed P_open S_top S_frames S_handlers M_status (nI p) M_next M_fuel M_ticks M_depth (I 45) M_done n_P_words f_P_words n_S_floors f_S_floors = some z3 ∧ stpR nm n_H_cells I F (potE n_S_values n_S_bases n_S_handlerFrames n_H_cells n_H_spare n_Q_links n_Q_pairs n_O_bytes) (adF N L z3 P_size P_constants P_closed P_open O_size S_top S_frames S_handlers H_globalsUsed H_used H_spareUsed H_old H_oldLeadsToNew H_limit H_every H_fresh H_made H_madeLimit H_reachedFromGlobals H_reachedInAll H_keptGlobalsUsed H_kept B_names Q_size M_status (nI p) M_next M_fuel M_ticks M_depth M_depthLimit M_done n_P_words f_P_words n_P_bytes f_P_bytes n_P_ends f_P_ends n_O_bytes f_O_bytes n_S_values f_S_values n_S_bases f_S_bases n_S_floors f_S_floors n_S_returns f_S_returns n_S_closures f_S_closures n_S_handlerFrames f_S_handlerFrames n_S_handlerPlaces f_S_handlerPlaces n_S_handlerHeights f_S_handlerHeights n_S_handlerDepths f_S_handlerDepths n_H_globals f_H_globals n_H_cells f_H_cells n_H_spare f_H_spare n_Q_links f_Q_links n_Q_pairs f_Q_pairs I F ()) (m_Model_instruction N I F) := by
  obtain ⟨g1, g2, g3, g4, g5, g6, g7⟩ := hpg.1
  have hgE := eR_height (N := N) he
  have hgR := rR_height (N := N) hr he.1
  have ht := he.1.2.2.1
  have hgf := he.1.2.2.2.2.1
  have hw : f_P_words p = nI 32 := by rw [g7 p hp]; exact h14
  have hwc : f_P_words (nI p).toNatClampNeg = nI 32 := by rw [q_cl (by omega)]; exact hw
  have zb : ¬ (nI p < 0 ∨ n_P_words ≤ (nI p).toNatClampNeg) := bd_n (by omega) (by omega)
  have hwd := wd_32 (N := N) h35 g2 hp g3 h14
  rw [if_pos (show p + 1 + 0 ≤ sz by omega)] at hwd
  have hwd : m_Model_words N I F = some (nI 1) := hwd
  have hhere := here_y (N := N) (M_depthLimit := I 45) (M_status := M_status) (M_next := M_next) (M_fuel := M_fuel) (M_ticks := M_ticks) (M_depth := M_depth) (M_done := M_done) (P_constants := P_constants) (P_closed := P_closed) (P_open := P_open) (q := 32) g1 rfl hp g4 g6 hw (by omega) hgE (by omega) h1 h2 (by omega)
  have hhere : m_Machine_operandsHere N P_size P_constants P_closed P_open S_top S_frames S_handlers M_status (nI p) M_next M_fuel M_ticks M_depth (I 45) M_done n_P_words f_P_words n_S_floors f_S_floors = some (nI 0) := hhere
  have hnx : nI p + 1 + nI 0 = nI (p + 1) := by rw [nI_1, q_add, show p + 1 + 0 = p + 1 by omega]
  have hi := ins_sw hwd (by decide) h35 (by omega) (fun k => ins1_1) hgR (by rw [h14]; exact needs_q (q := 32) (by omega) (by omega)) (show nI 2 ≤ nI (t - gf (fr - 1)) by rw [q_le_t (by omega) (by omega)]; exact True.intro)
  refine ⟨_, hhere, ?_⟩
  rw [hi]
  exact stp_op (by decide) zb (fun α k => adv3_0) hwc hnx (op_32 hN he hr hx h35 (by omega) h14 (by omega) h43 hL)
theorem ao_33 {sz kc pd L p : Nat} {te : Nat → Nat} (hN : 400000 ≤ N) (he : eR nk nm nid G lE gg t gs fr gc hn gb gf gr hF hH hP hD S_top S_frames S_handlers n_S_values f_S_values n_S_bases f_S_bases n_S_floors f_S_floors n_S_returns f_S_returns n_S_closures f_S_closures n_S_handlerFrames f_S_handlerFrames n_S_handlerPlaces f_S_handlerPlaces n_S_handlerHeights f_S_handlerHeights n_S_handlerDepths f_S_handlerDepths H_globalsUsed H_used H_old H_oldLeadsToNew f_H_globals n_H_cells f_H_cells n_H_spare) (hr : rR nk nm nid G lR gg t gs fr gc hn gb gf gr hF hH hP hD I F) (hx : xR nm M_fuel M_ticks H_made M_depth B_names O_size n_O_bytes f_O_bytes n_Q_links f_Q_links n_Q_pairs n_H_cells I F) (hpg : pgR sz kc pd te P_size P_constants P_closed P_open n_P_words f_P_words n_P_bytes f_P_bytes n_P_ends f_P_ends I F) (h43 : I 43 = nI L) (hL : L ≤ 131072) (hnm : nm + 1 < 134217728) (h35 : I 35 = nI p) (hp : p < sz) (h14 : F 14 p = nI 33) (h1 : p + 0 < sz) (h2 : 2 ≤ t - gf (fr - 1)) :
    ∃ z3, m_Machine_operandsHere N P_size P_constants P_closed P_open S_top S_frames S_handlers M_status (nI p) M_next M_fuel M_ticks M_depth (I 45) M_done n_P_words f_P_words n_S_floors f_S_floors = some z3 ∧ stpR nm n_H_cells I F (potE n_S_values n_S_bases n_S_handlerFrames n_H_cells n_H_spare n_Q_links n_Q_pairs n_O_bytes) (adF N L z3 P_size P_constants P_closed P_open O_size S_top S_frames S_handlers H_globalsUsed H_used H_spareUsed H_old H_oldLeadsToNew H_limit H_every H_fresh H_made H_madeLimit H_reachedFromGlobals H_reachedInAll H_keptGlobalsUsed H_kept B_names Q_size M_status (nI p) M_next M_fuel M_ticks M_depth M_depthLimit M_done n_P_words f_P_words n_P_bytes f_P_bytes n_P_ends f_P_ends n_O_bytes f_O_bytes n_S_values f_S_values n_S_bases f_S_bases n_S_floors f_S_floors n_S_returns f_S_returns n_S_closures f_S_closures n_S_handlerFrames f_S_handlerFrames n_S_handlerPlaces f_S_handlerPlaces n_S_handlerHeights f_S_handlerHeights n_S_handlerDepths f_S_handlerDepths n_H_globals f_H_globals n_H_cells f_H_cells n_H_spare f_H_spare n_Q_links f_Q_links n_Q_pairs f_Q_pairs I F ()) (m_Model_instruction N I F) := by
  obtain ⟨g1, g2, g3, g4, g5, g6, g7⟩ := hpg.1
  have hgE := eR_height (N := N) he
  have hgR := rR_height (N := N) hr he.1
  have ht := he.1.2.2.1
  have hgf := he.1.2.2.2.2.1
  have hw : f_P_words p = nI 33 := by rw [g7 p hp]; exact h14
  have hwc : f_P_words (nI p).toNatClampNeg = nI 33 := by rw [q_cl (by omega)]; exact hw
  have zb : ¬ (nI p < 0 ∨ n_P_words ≤ (nI p).toNatClampNeg) := bd_n (by omega) (by omega)
  have hwd := wd_33 (N := N) h35 g2 hp g3 h14
  rw [if_pos (show p + 1 + 0 ≤ sz by omega)] at hwd
  have hwd : m_Model_words N I F = some (nI 1) := hwd
  have hhere := here_y (N := N) (M_depthLimit := I 45) (M_status := M_status) (M_next := M_next) (M_fuel := M_fuel) (M_ticks := M_ticks) (M_depth := M_depth) (M_done := M_done) (P_constants := P_constants) (P_closed := P_closed) (P_open := P_open) (q := 33) g1 rfl hp g4 g6 hw (by omega) hgE (by omega) h1 h2 (by omega)
  have hhere : m_Machine_operandsHere N P_size P_constants P_closed P_open S_top S_frames S_handlers M_status (nI p) M_next M_fuel M_ticks M_depth (I 45) M_done n_P_words f_P_words n_S_floors f_S_floors = some (nI 0) := hhere
  have hnx : nI p + 1 + nI 0 = nI (p + 1) := by rw [nI_1, q_add, show p + 1 + 0 = p + 1 by omega]
  have hi := ins_sw hwd (by decide) h35 (by omega) (fun k => ins1_1) hgR (by rw [h14]; exact needs_q (q := 33) (by omega) (by omega)) (show nI 2 ≤ nI (t - gf (fr - 1)) by rw [q_le_t (by omega) (by omega)]; exact True.intro)
  refine ⟨_, hhere, ?_⟩
  rw [hi]
  exact stp_op (by decide) zb (fun α k => adv3_0) hwc hnx (op_33 hN he hr hx h35 (by omega) h14 (by omega) h43 hL)
theorem ao_34 {sz kc pd L p : Nat} {te : Nat → Nat} (hN : 400000 ≤ N) (he : eR nk nm nid G lE gg t gs fr gc hn gb gf gr hF hH hP hD S_top S_frames S_handlers n_S_values f_S_values n_S_bases f_S_bases n_S_floors f_S_floors n_S_returns f_S_returns n_S_closures f_S_closures n_S_handlerFrames f_S_handlerFrames n_S_handlerPlaces f_S_handlerPlaces n_S_handlerHeights f_S_handlerHeights n_S_handlerDepths f_S_handlerDepths H_globalsUsed H_used H_old H_oldLeadsToNew f_H_globals n_H_cells f_H_cells n_H_spare) (hr : rR nk nm nid G lR gg t gs fr gc hn gb gf gr hF hH hP hD I F) (hx : xR nm M_fuel M_ticks H_made M_depth B_names O_size n_O_bytes f_O_bytes n_Q_links f_Q_links n_Q_pairs n_H_cells I F) (hpg : pgR sz kc pd te P_size P_constants P_closed P_open n_P_words f_P_words n_P_bytes f_P_bytes n_P_ends f_P_ends I F) (h43 : I 43 = nI L) (hL : L ≤ 131072) (hnm : nm + 1 < 134217728) (h35 : I 35 = nI p) (hp : p < sz) (h14 : F 14 p = nI 34) (h1 : p + 1 < sz) (h2 : 0 ≤ t - gf (fr - 1)) :
    ∃ z3, m_Machine_operandsHere N P_size P_constants P_closed P_open S_top S_frames S_handlers M_status (nI p) M_next M_fuel M_ticks M_depth (I 45) M_done n_P_words f_P_words n_S_floors f_S_floors = some z3 ∧ stpR nm n_H_cells I F (potE n_S_values n_S_bases n_S_handlerFrames n_H_cells n_H_spare n_Q_links n_Q_pairs n_O_bytes) (adF N L z3 P_size P_constants P_closed P_open O_size S_top S_frames S_handlers H_globalsUsed H_used H_spareUsed H_old H_oldLeadsToNew H_limit H_every H_fresh H_made H_madeLimit H_reachedFromGlobals H_reachedInAll H_keptGlobalsUsed H_kept B_names Q_size M_status (nI p) M_next M_fuel M_ticks M_depth M_depthLimit M_done n_P_words f_P_words n_P_bytes f_P_bytes n_P_ends f_P_ends n_O_bytes f_O_bytes n_S_values f_S_values n_S_bases f_S_bases n_S_floors f_S_floors n_S_returns f_S_returns n_S_closures f_S_closures n_S_handlerFrames f_S_handlerFrames n_S_handlerPlaces f_S_handlerPlaces n_S_handlerHeights f_S_handlerHeights n_S_handlerDepths f_S_handlerDepths n_H_globals f_H_globals n_H_cells f_H_cells n_H_spare f_H_spare n_Q_links f_Q_links n_Q_pairs f_Q_pairs I F ()) (m_Model_instruction N I F) := by
  obtain ⟨g1, g2, g3, g4, g5, g6, g7⟩ := hpg.1
  have hgE := eR_height (N := N) he
  have hgR := rR_height (N := N) hr he.1
  have ht := he.1.2.2.1
  have hgf := he.1.2.2.2.2.1
  have hw : f_P_words p = nI 34 := by rw [g7 p hp]; exact h14
  have hwc : f_P_words (nI p).toNatClampNeg = nI 34 := by rw [q_cl (by omega)]; exact hw
  have zb : ¬ (nI p < 0 ∨ n_P_words ≤ (nI p).toNatClampNeg) := bd_n (by omega) (by omega)
  have hwd := wd_34 (N := N) h35 g2 hp g3 h14
  rw [if_pos (show p + 1 + 1 ≤ sz by omega)] at hwd
  have hwd : m_Model_words N I F = some (nI 2) := hwd
  have hhere := here_y (N := N) (M_depthLimit := I 45) (M_status := M_status) (M_next := M_next) (M_fuel := M_fuel) (M_ticks := M_ticks) (M_depth := M_depth) (M_done := M_done) (P_constants := P_constants) (P_closed := P_closed) (P_open := P_open) (q := 34) g1 rfl hp g4 g6 hw (by omega) hgE (by omega) h1 h2 (by omega)
  have hhere : m_Machine_operandsHere N P_size P_constants P_closed P_open S_top S_frames S_handlers M_status (nI p) M_next M_fuel M_ticks M_depth (I 45) M_done n_P_words f_P_words n_S_floors f_S_floors = some (nI 1) := hhere
  have hnx : nI p + 1 + nI 1 = nI (p + 2) := by rw [nI_1, q_add, show p + 1 + 1 = p + 2 by omega]
  have ew : f_P_words (p + 1) = F 14 (p + 1) := g7 (p + 1) (by omega)
  have hi := ins_sw hwd (by decide) h35 (by omega) (fun k => ins1_2 h35 (by omega) (by omega) (by omega)) hgR (by rw [h14]; exact needs_q (q := 34) (by omega) (by omega)) (show nI 0 ≤ nI (t - gf (fr - 1)) by rw [q_le_t (by omega) (by omega)]; exact True.intro)
  refine ⟨_, hhere, ?_⟩
  rw [hi]
  exact stp_op (by decide) zb (fun α k => by rw [adv3_1 rfl (by omega) g6 (by omega) (by omega), ew]) hwc hnx (op_34 hN he hr hx h35 (by omega) h14 (by omega) h43 hL)
theorem ao_35 {sz kc pd L p : Nat} {te : Nat → Nat} (hN : 400000 ≤ N) (he : eR nk nm nid G lE gg t gs fr gc hn gb gf gr hF hH hP hD S_top S_frames S_handlers n_S_values f_S_values n_S_bases f_S_bases n_S_floors f_S_floors n_S_returns f_S_returns n_S_closures f_S_closures n_S_handlerFrames f_S_handlerFrames n_S_handlerPlaces f_S_handlerPlaces n_S_handlerHeights f_S_handlerHeights n_S_handlerDepths f_S_handlerDepths H_globalsUsed H_used H_old H_oldLeadsToNew f_H_globals n_H_cells f_H_cells n_H_spare) (hr : rR nk nm nid G lR gg t gs fr gc hn gb gf gr hF hH hP hD I F) (hx : xR nm M_fuel M_ticks H_made M_depth B_names O_size n_O_bytes f_O_bytes n_Q_links f_Q_links n_Q_pairs n_H_cells I F) (hpg : pgR sz kc pd te P_size P_constants P_closed P_open n_P_words f_P_words n_P_bytes f_P_bytes n_P_ends f_P_ends I F) (h43 : I 43 = nI L) (hL : L ≤ 131072) (hnm : nm + 1 < 134217728) (h35 : I 35 = nI p) (hp : p < sz) (h14 : F 14 p = nI 35) (h1 : p + 0 < sz) (h2 : 0 ≤ t - gf (fr - 1)) :
    ∃ z3, m_Machine_operandsHere N P_size P_constants P_closed P_open S_top S_frames S_handlers M_status (nI p) M_next M_fuel M_ticks M_depth (I 45) M_done n_P_words f_P_words n_S_floors f_S_floors = some z3 ∧ stpR nm n_H_cells I F (potE n_S_values n_S_bases n_S_handlerFrames n_H_cells n_H_spare n_Q_links n_Q_pairs n_O_bytes) (adF N L z3 P_size P_constants P_closed P_open O_size S_top S_frames S_handlers H_globalsUsed H_used H_spareUsed H_old H_oldLeadsToNew H_limit H_every H_fresh H_made H_madeLimit H_reachedFromGlobals H_reachedInAll H_keptGlobalsUsed H_kept B_names Q_size M_status (nI p) M_next M_fuel M_ticks M_depth M_depthLimit M_done n_P_words f_P_words n_P_bytes f_P_bytes n_P_ends f_P_ends n_O_bytes f_O_bytes n_S_values f_S_values n_S_bases f_S_bases n_S_floors f_S_floors n_S_returns f_S_returns n_S_closures f_S_closures n_S_handlerFrames f_S_handlerFrames n_S_handlerPlaces f_S_handlerPlaces n_S_handlerHeights f_S_handlerHeights n_S_handlerDepths f_S_handlerDepths n_H_globals f_H_globals n_H_cells f_H_cells n_H_spare f_H_spare n_Q_links f_Q_links n_Q_pairs f_Q_pairs I F ()) (m_Model_instruction N I F) := by
  obtain ⟨g1, g2, g3, g4, g5, g6, g7⟩ := hpg.1
  have hgE := eR_height (N := N) he
  have hgR := rR_height (N := N) hr he.1
  have ht := he.1.2.2.1
  have hgf := he.1.2.2.2.2.1
  have hw : f_P_words p = nI 35 := by rw [g7 p hp]; exact h14
  have hwc : f_P_words (nI p).toNatClampNeg = nI 35 := by rw [q_cl (by omega)]; exact hw
  have zb : ¬ (nI p < 0 ∨ n_P_words ≤ (nI p).toNatClampNeg) := bd_n (by omega) (by omega)
  have hwd := wd_35 (N := N) h35 g2 hp g3 h14
  rw [if_pos (show p + 1 + 0 ≤ sz by omega)] at hwd
  have hwd : m_Model_words N I F = some (nI 1) := hwd
  have hhere := here_y (N := N) (M_depthLimit := I 45) (M_status := M_status) (M_next := M_next) (M_fuel := M_fuel) (M_ticks := M_ticks) (M_depth := M_depth) (M_done := M_done) (P_constants := P_constants) (P_closed := P_closed) (P_open := P_open) (q := 35) g1 rfl hp g4 g6 hw (by omega) hgE (by omega) h1 h2 (by omega)
  have hhere : m_Machine_operandsHere N P_size P_constants P_closed P_open S_top S_frames S_handlers M_status (nI p) M_next M_fuel M_ticks M_depth (I 45) M_done n_P_words f_P_words n_S_floors f_S_floors = some (nI 0) := hhere
  have hnx : nI p + 1 + nI 0 = nI (p + 1) := by rw [nI_1, q_add, show p + 1 + 0 = p + 1 by omega]
  have hi := ins_sw hwd (by decide) h35 (by omega) (fun k => ins1_1) hgR (by rw [h14]; exact needs_q (q := 35) (by omega) (by omega)) (show nI 0 ≤ nI (t - gf (fr - 1)) by rw [q_le_t (by omega) (by omega)]; exact True.intro)
  refine ⟨_, hhere, ?_⟩
  rw [hi]
  exact stp_op (by decide) zb (fun α k => adv3_0) hwc hnx (op_35 hN he hr hx h35 (by omega) h14 (by omega) h43 hL)
theorem ao_36 {sz kc pd L p : Nat} {te : Nat → Nat} (hN : 400000 ≤ N) (he : eR nk nm nid G lE gg t gs fr gc hn gb gf gr hF hH hP hD S_top S_frames S_handlers n_S_values f_S_values n_S_bases f_S_bases n_S_floors f_S_floors n_S_returns f_S_returns n_S_closures f_S_closures n_S_handlerFrames f_S_handlerFrames n_S_handlerPlaces f_S_handlerPlaces n_S_handlerHeights f_S_handlerHeights n_S_handlerDepths f_S_handlerDepths H_globalsUsed H_used H_old H_oldLeadsToNew f_H_globals n_H_cells f_H_cells n_H_spare) (hr : rR nk nm nid G lR gg t gs fr gc hn gb gf gr hF hH hP hD I F) (hx : xR nm M_fuel M_ticks H_made M_depth B_names O_size n_O_bytes f_O_bytes n_Q_links f_Q_links n_Q_pairs n_H_cells I F) (hpg : pgR sz kc pd te P_size P_constants P_closed P_open n_P_words f_P_words n_P_bytes f_P_bytes n_P_ends f_P_ends I F) (h43 : I 43 = nI L) (hL : L ≤ 131072) (hnm : nm + 1 < 134217728) (h35 : I 35 = nI p) (hp : p < sz) (h14 : F 14 p = nI 36) (h1 : p + 1 < sz) (h2 : 0 ≤ t - gf (fr - 1)) :
    ∃ z3, m_Machine_operandsHere N P_size P_constants P_closed P_open S_top S_frames S_handlers M_status (nI p) M_next M_fuel M_ticks M_depth (I 45) M_done n_P_words f_P_words n_S_floors f_S_floors = some z3 ∧ stpR nm n_H_cells I F (potE n_S_values n_S_bases n_S_handlerFrames n_H_cells n_H_spare n_Q_links n_Q_pairs n_O_bytes) (adF N L z3 P_size P_constants P_closed P_open O_size S_top S_frames S_handlers H_globalsUsed H_used H_spareUsed H_old H_oldLeadsToNew H_limit H_every H_fresh H_made H_madeLimit H_reachedFromGlobals H_reachedInAll H_keptGlobalsUsed H_kept B_names Q_size M_status (nI p) M_next M_fuel M_ticks M_depth M_depthLimit M_done n_P_words f_P_words n_P_bytes f_P_bytes n_P_ends f_P_ends n_O_bytes f_O_bytes n_S_values f_S_values n_S_bases f_S_bases n_S_floors f_S_floors n_S_returns f_S_returns n_S_closures f_S_closures n_S_handlerFrames f_S_handlerFrames n_S_handlerPlaces f_S_handlerPlaces n_S_handlerHeights f_S_handlerHeights n_S_handlerDepths f_S_handlerDepths n_H_globals f_H_globals n_H_cells f_H_cells n_H_spare f_H_spare n_Q_links f_Q_links n_Q_pairs f_Q_pairs I F ()) (m_Model_instruction N I F) := by
  obtain ⟨g1, g2, g3, g4, g5, g6, g7⟩ := hpg.1
  have hgE := eR_height (N := N) he
  have hgR := rR_height (N := N) hr he.1
  have ht := he.1.2.2.1
  have hgf := he.1.2.2.2.2.1
  have hw : f_P_words p = nI 36 := by rw [g7 p hp]; exact h14
  have hwc : f_P_words (nI p).toNatClampNeg = nI 36 := by rw [q_cl (by omega)]; exact hw
  have zb : ¬ (nI p < 0 ∨ n_P_words ≤ (nI p).toNatClampNeg) := bd_n (by omega) (by omega)
  have hwd := wd_36 (N := N) h35 g2 hp g3 h14
  rw [if_pos (show p + 1 + 1 ≤ sz by omega)] at hwd
  have hwd : m_Model_words N I F = some (nI 2) := hwd
  have hhere := here_y (N := N) (M_depthLimit := I 45) (M_status := M_status) (M_next := M_next) (M_fuel := M_fuel) (M_ticks := M_ticks) (M_depth := M_depth) (M_done := M_done) (P_constants := P_constants) (P_closed := P_closed) (P_open := P_open) (q := 36) g1 rfl hp g4 g6 hw (by omega) hgE (by omega) h1 h2 (by omega)
  have hhere : m_Machine_operandsHere N P_size P_constants P_closed P_open S_top S_frames S_handlers M_status (nI p) M_next M_fuel M_ticks M_depth (I 45) M_done n_P_words f_P_words n_S_floors f_S_floors = some (nI 1) := hhere
  have hnx : nI p + 1 + nI 1 = nI (p + 2) := by rw [nI_1, q_add, show p + 1 + 1 = p + 2 by omega]
  have ew : f_P_words (p + 1) = F 14 (p + 1) := g7 (p + 1) (by omega)
  have hi := ins_sw hwd (by decide) h35 (by omega) (fun k => ins1_2 h35 (by omega) (by omega) (by omega)) hgR (by rw [h14]; exact needs_q (q := 36) (by omega) (by omega)) (show nI 0 ≤ nI (t - gf (fr - 1)) by rw [q_le_t (by omega) (by omega)]; exact True.intro)
  refine ⟨_, hhere, ?_⟩
  rw [hi]
  exact stp_op (by decide) zb (fun α k => by rw [adv3_1 rfl (by omega) g6 (by omega) (by omega), ew]) hwc hnx (op_36 hN he hr hx h35 (by omega) h14 (by omega) h43 hL)
theorem ao_37 {sz kc pd L p : Nat} {te : Nat → Nat} (hN : 400000 ≤ N) (he : eR nk nm nid G lE gg t gs fr gc hn gb gf gr hF hH hP hD S_top S_frames S_handlers n_S_values f_S_values n_S_bases f_S_bases n_S_floors f_S_floors n_S_returns f_S_returns n_S_closures f_S_closures n_S_handlerFrames f_S_handlerFrames n_S_handlerPlaces f_S_handlerPlaces n_S_handlerHeights f_S_handlerHeights n_S_handlerDepths f_S_handlerDepths H_globalsUsed H_used H_old H_oldLeadsToNew f_H_globals n_H_cells f_H_cells n_H_spare) (hr : rR nk nm nid G lR gg t gs fr gc hn gb gf gr hF hH hP hD I F) (hx : xR nm M_fuel M_ticks H_made M_depth B_names O_size n_O_bytes f_O_bytes n_Q_links f_Q_links n_Q_pairs n_H_cells I F) (hpg : pgR sz kc pd te P_size P_constants P_closed P_open n_P_words f_P_words n_P_bytes f_P_bytes n_P_ends f_P_ends I F) (h43 : I 43 = nI L) (hL : L ≤ 131072) (hnm : nm + 1 < 134217728) (h35 : I 35 = nI p) (hp : p < sz) (h14 : F 14 p = nI 37) (h1 : p + 1 < sz) (h2 : 0 ≤ t - gf (fr - 1)) :
    ∃ z3, m_Machine_operandsHere N P_size P_constants P_closed P_open S_top S_frames S_handlers M_status (nI p) M_next M_fuel M_ticks M_depth (I 45) M_done n_P_words f_P_words n_S_floors f_S_floors = some z3 ∧ stpR nm n_H_cells I F (potE n_S_values n_S_bases n_S_handlerFrames n_H_cells n_H_spare n_Q_links n_Q_pairs n_O_bytes) (adF N L z3 P_size P_constants P_closed P_open O_size S_top S_frames S_handlers H_globalsUsed H_used H_spareUsed H_old H_oldLeadsToNew H_limit H_every H_fresh H_made H_madeLimit H_reachedFromGlobals H_reachedInAll H_keptGlobalsUsed H_kept B_names Q_size M_status (nI p) M_next M_fuel M_ticks M_depth M_depthLimit M_done n_P_words f_P_words n_P_bytes f_P_bytes n_P_ends f_P_ends n_O_bytes f_O_bytes n_S_values f_S_values n_S_bases f_S_bases n_S_floors f_S_floors n_S_returns f_S_returns n_S_closures f_S_closures n_S_handlerFrames f_S_handlerFrames n_S_handlerPlaces f_S_handlerPlaces n_S_handlerHeights f_S_handlerHeights n_S_handlerDepths f_S_handlerDepths n_H_globals f_H_globals n_H_cells f_H_cells n_H_spare f_H_spare n_Q_links f_Q_links n_Q_pairs f_Q_pairs I F ()) (m_Model_instruction N I F) := by
  obtain ⟨g1, g2, g3, g4, g5, g6, g7⟩ := hpg.1
  have hgE := eR_height (N := N) he
  have hgR := rR_height (N := N) hr he.1
  have ht := he.1.2.2.1
  have hgf := he.1.2.2.2.2.1
  have hw : f_P_words p = nI 37 := by rw [g7 p hp]; exact h14
  have hwc : f_P_words (nI p).toNatClampNeg = nI 37 := by rw [q_cl (by omega)]; exact hw
  have zb : ¬ (nI p < 0 ∨ n_P_words ≤ (nI p).toNatClampNeg) := bd_n (by omega) (by omega)
  have hwd := wd_37 (N := N) h35 g2 hp g3 h14
  rw [if_pos (show p + 1 + 1 ≤ sz by omega)] at hwd
  have hwd : m_Model_words N I F = some (nI 2) := hwd
  have hhere := here_y (N := N) (M_depthLimit := I 45) (M_status := M_status) (M_next := M_next) (M_fuel := M_fuel) (M_ticks := M_ticks) (M_depth := M_depth) (M_done := M_done) (P_constants := P_constants) (P_closed := P_closed) (P_open := P_open) (q := 37) g1 rfl hp g4 g6 hw (by omega) hgE (by omega) h1 h2 (by omega)
  have hhere : m_Machine_operandsHere N P_size P_constants P_closed P_open S_top S_frames S_handlers M_status (nI p) M_next M_fuel M_ticks M_depth (I 45) M_done n_P_words f_P_words n_S_floors f_S_floors = some (nI 1) := hhere
  have hnx : nI p + 1 + nI 1 = nI (p + 2) := by rw [nI_1, q_add, show p + 1 + 1 = p + 2 by omega]
  have ew : f_P_words (p + 1) = F 14 (p + 1) := g7 (p + 1) (by omega)
  have hi := ins_sw hwd (by decide) h35 (by omega) (fun k => ins1_2 h35 (by omega) (by omega) (by omega)) hgR (by rw [h14]; exact needs_q (q := 37) (by omega) (by omega)) (show nI 0 ≤ nI (t - gf (fr - 1)) by rw [q_le_t (by omega) (by omega)]; exact True.intro)
  refine ⟨_, hhere, ?_⟩
  rw [hi]
  exact stp_op (by decide) zb (fun α k => by rw [adv3_1 rfl (by omega) g6 (by omega) (by omega), ew]) hwc hnx (op_37 hN he hr hx h35 (by omega) h14 (by omega) h43 hL)
theorem ao_38 {sz kc pd L p : Nat} {te : Nat → Nat} (hN : 400000 ≤ N) (he : eR nk nm nid G lE gg t gs fr gc hn gb gf gr hF hH hP hD S_top S_frames S_handlers n_S_values f_S_values n_S_bases f_S_bases n_S_floors f_S_floors n_S_returns f_S_returns n_S_closures f_S_closures n_S_handlerFrames f_S_handlerFrames n_S_handlerPlaces f_S_handlerPlaces n_S_handlerHeights f_S_handlerHeights n_S_handlerDepths f_S_handlerDepths H_globalsUsed H_used H_old H_oldLeadsToNew f_H_globals n_H_cells f_H_cells n_H_spare) (hr : rR nk nm nid G lR gg t gs fr gc hn gb gf gr hF hH hP hD I F) (hx : xR nm M_fuel M_ticks H_made M_depth B_names O_size n_O_bytes f_O_bytes n_Q_links f_Q_links n_Q_pairs n_H_cells I F) (hpg : pgR sz kc pd te P_size P_constants P_closed P_open n_P_words f_P_words n_P_bytes f_P_bytes n_P_ends f_P_ends I F) (h43 : I 43 = nI L) (hL : L ≤ 131072) (hnm : nm + 1 < 134217728) (h35 : I 35 = nI p) (hp : p < sz) (h14 : F 14 p = nI 38) (h1 : p + 1 < sz) (h2 : 0 ≤ t - gf (fr - 1)) :
    ∃ z3, m_Machine_operandsHere N P_size P_constants P_closed P_open S_top S_frames S_handlers M_status (nI p) M_next M_fuel M_ticks M_depth (I 45) M_done n_P_words f_P_words n_S_floors f_S_floors = some z3 ∧ stpR nm n_H_cells I F (potE n_S_values n_S_bases n_S_handlerFrames n_H_cells n_H_spare n_Q_links n_Q_pairs n_O_bytes) (adF N L z3 P_size P_constants P_closed P_open O_size S_top S_frames S_handlers H_globalsUsed H_used H_spareUsed H_old H_oldLeadsToNew H_limit H_every H_fresh H_made H_madeLimit H_reachedFromGlobals H_reachedInAll H_keptGlobalsUsed H_kept B_names Q_size M_status (nI p) M_next M_fuel M_ticks M_depth M_depthLimit M_done n_P_words f_P_words n_P_bytes f_P_bytes n_P_ends f_P_ends n_O_bytes f_O_bytes n_S_values f_S_values n_S_bases f_S_bases n_S_floors f_S_floors n_S_returns f_S_returns n_S_closures f_S_closures n_S_handlerFrames f_S_handlerFrames n_S_handlerPlaces f_S_handlerPlaces n_S_handlerHeights f_S_handlerHeights n_S_handlerDepths f_S_handlerDepths n_H_globals f_H_globals n_H_cells f_H_cells n_H_spare f_H_spare n_Q_links f_Q_links n_Q_pairs f_Q_pairs I F ()) (m_Model_instruction N I F) := by
  obtain ⟨g1, g2, g3, g4, g5, g6, g7⟩ := hpg.1
  have hgE := eR_height (N := N) he
  have hgR := rR_height (N := N) hr he.1
  have ht := he.1.2.2.1
  have hgf := he.1.2.2.2.2.1
  have hw : f_P_words p = nI 38 := by rw [g7 p hp]; exact h14
  have hwc : f_P_words (nI p).toNatClampNeg = nI 38 := by rw [q_cl (by omega)]; exact hw
  have zb : ¬ (nI p < 0 ∨ n_P_words ≤ (nI p).toNatClampNeg) := bd_n (by omega) (by omega)
  have hwd := wd_38 (N := N) h35 g2 hp g3 h14
  rw [if_pos (show p + 1 + 1 ≤ sz by omega)] at hwd
  have hwd : m_Model_words N I F = some (nI 2) := hwd
  have hhere := here_y (N := N) (M_depthLimit := I 45) (M_status := M_status) (M_next := M_next) (M_fuel := M_fuel) (M_ticks := M_ticks) (M_depth := M_depth) (M_done := M_done) (P_constants := P_constants) (P_closed := P_closed) (P_open := P_open) (q := 38) g1 rfl hp g4 g6 hw (by omega) hgE (by omega) h1 h2 (by omega)
  have hhere : m_Machine_operandsHere N P_size P_constants P_closed P_open S_top S_frames S_handlers M_status (nI p) M_next M_fuel M_ticks M_depth (I 45) M_done n_P_words f_P_words n_S_floors f_S_floors = some (nI 1) := hhere
  have hnx : nI p + 1 + nI 1 = nI (p + 2) := by rw [nI_1, q_add, show p + 1 + 1 = p + 2 by omega]
  have ew : f_P_words (p + 1) = F 14 (p + 1) := g7 (p + 1) (by omega)
  have hi := ins_sw hwd (by decide) h35 (by omega) (fun k => ins1_2 h35 (by omega) (by omega) (by omega)) hgR (by rw [h14]; exact needs_q (q := 38) (by omega) (by omega)) (show nI 0 ≤ nI (t - gf (fr - 1)) by rw [q_le_t (by omega) (by omega)]; exact True.intro)
  refine ⟨_, hhere, ?_⟩
  rw [hi]
  exact stp_op (by decide) zb (fun α k => by rw [adv3_1 rfl (by omega) g6 (by omega) (by omega), ew]) hwc hnx (op_38 hN he hr hx h35 (by omega) h14 (by omega) h43 hL)
theorem ao_39 {sz kc pd L p : Nat} {te : Nat → Nat} (hN : 400000 ≤ N) (he : eR nk nm nid G lE gg t gs fr gc hn gb gf gr hF hH hP hD S_top S_frames S_handlers n_S_values f_S_values n_S_bases f_S_bases n_S_floors f_S_floors n_S_returns f_S_returns n_S_closures f_S_closures n_S_handlerFrames f_S_handlerFrames n_S_handlerPlaces f_S_handlerPlaces n_S_handlerHeights f_S_handlerHeights n_S_handlerDepths f_S_handlerDepths H_globalsUsed H_used H_old H_oldLeadsToNew f_H_globals n_H_cells f_H_cells n_H_spare) (hr : rR nk nm nid G lR gg t gs fr gc hn gb gf gr hF hH hP hD I F) (hx : xR nm M_fuel M_ticks H_made M_depth B_names O_size n_O_bytes f_O_bytes n_Q_links f_Q_links n_Q_pairs n_H_cells I F) (hpg : pgR sz kc pd te P_size P_constants P_closed P_open n_P_words f_P_words n_P_bytes f_P_bytes n_P_ends f_P_ends I F) (h43 : I 43 = nI L) (hL : L ≤ 131072) (hnm : nm + 1 < 134217728) (h35 : I 35 = nI p) (hp : p < sz) (h14 : F 14 p = nI 39) (h1 : p + 0 < sz) (h2 : 2 ≤ t - gf (fr - 1)) :
    ∃ z3, m_Machine_operandsHere N P_size P_constants P_closed P_open S_top S_frames S_handlers M_status (nI p) M_next M_fuel M_ticks M_depth (I 45) M_done n_P_words f_P_words n_S_floors f_S_floors = some z3 ∧ stpR nm n_H_cells I F (potE n_S_values n_S_bases n_S_handlerFrames n_H_cells n_H_spare n_Q_links n_Q_pairs n_O_bytes) (adF N L z3 P_size P_constants P_closed P_open O_size S_top S_frames S_handlers H_globalsUsed H_used H_spareUsed H_old H_oldLeadsToNew H_limit H_every H_fresh H_made H_madeLimit H_reachedFromGlobals H_reachedInAll H_keptGlobalsUsed H_kept B_names Q_size M_status (nI p) M_next M_fuel M_ticks M_depth M_depthLimit M_done n_P_words f_P_words n_P_bytes f_P_bytes n_P_ends f_P_ends n_O_bytes f_O_bytes n_S_values f_S_values n_S_bases f_S_bases n_S_floors f_S_floors n_S_returns f_S_returns n_S_closures f_S_closures n_S_handlerFrames f_S_handlerFrames n_S_handlerPlaces f_S_handlerPlaces n_S_handlerHeights f_S_handlerHeights n_S_handlerDepths f_S_handlerDepths n_H_globals f_H_globals n_H_cells f_H_cells n_H_spare f_H_spare n_Q_links f_Q_links n_Q_pairs f_Q_pairs I F ()) (m_Model_instruction N I F) := by
  obtain ⟨g1, g2, g3, g4, g5, g6, g7⟩ := hpg.1
  have hgE := eR_height (N := N) he
  have hgR := rR_height (N := N) hr he.1
  have ht := he.1.2.2.1
  have hgf := he.1.2.2.2.2.1
  have hw : f_P_words p = nI 39 := by rw [g7 p hp]; exact h14
  have hwc : f_P_words (nI p).toNatClampNeg = nI 39 := by rw [q_cl (by omega)]; exact hw
  have zb : ¬ (nI p < 0 ∨ n_P_words ≤ (nI p).toNatClampNeg) := bd_n (by omega) (by omega)
  have hwd := wd_39 (N := N) h35 g2 hp g3 h14
  rw [if_pos (show p + 1 + 0 ≤ sz by omega)] at hwd
  have hwd : m_Model_words N I F = some (nI 1) := hwd
  have hhere := here_y (N := N) (M_depthLimit := I 45) (M_status := M_status) (M_next := M_next) (M_fuel := M_fuel) (M_ticks := M_ticks) (M_depth := M_depth) (M_done := M_done) (P_constants := P_constants) (P_closed := P_closed) (P_open := P_open) (q := 39) g1 rfl hp g4 g6 hw (by omega) hgE (by omega) h1 h2 (by omega)
  have hhere : m_Machine_operandsHere N P_size P_constants P_closed P_open S_top S_frames S_handlers M_status (nI p) M_next M_fuel M_ticks M_depth (I 45) M_done n_P_words f_P_words n_S_floors f_S_floors = some (nI 0) := hhere
  have hnx : nI p + 1 + nI 0 = nI (p + 1) := by rw [nI_1, q_add, show p + 1 + 0 = p + 1 by omega]
  have hi := ins_sw hwd (by decide) h35 (by omega) (fun k => ins1_1) hgR (by rw [h14]; exact needs_q (q := 39) (by omega) (by omega)) (show nI 2 ≤ nI (t - gf (fr - 1)) by rw [q_le_t (by omega) (by omega)]; exact True.intro)
  refine ⟨_, hhere, ?_⟩
  rw [hi]
  exact stp_op (by decide) zb (fun α k => adv3_0) hwc hnx (op_39 hN he hr hx h35 (by omega) h14 (by omega) h43 hL)
end AO
