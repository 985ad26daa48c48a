/-! Instruction 34 -/
section OP
variable {N : Nat}
variable {nk : Nat → Nat} {nm : Nat} {nid : Nat} {G : Nat → GO} {lE : List Nat} {gg : Nat → AV} {t : Nat} {gs : Nat → AV} {fr : Nat} {gc : Nat → AV} {hn : Nat} {gb : Nat → Nat} {gf : Nat → Nat} {gr : Nat → Int32} {hF : Nat → Nat} {hH : Nat → Nat} {hP : Nat → Int32} {hD : Nat → Int32} {lR : List Nat} {P_size : Int32} {P_constants : Int32} {P_closed : Int32} {P_open : Int32} {O_size : Int32} {S_top : Int32} {S_frames : Int32} {S_handlers : Int32} {H_globalsUsed : Int32} {H_used : Int32} {H_spareUsed : Int32} {H_old : Int32} {H_oldLeadsToNew : Int32} {H_limit : Int32} {H_every : Int32} {H_fresh : Int32} {H_made : Int32} {H_madeLimit : Int32} {H_reachedFromGlobals : Int32} {H_reachedInAll : Int32} {H_keptGlobalsUsed : Int32} {H_kept : Int32} {B_names : Int32} {Q_size : Int32} {M_status : Int32} {M_place : Int32} {M_next : Int32} {M_fuel : Int32} {M_ticks : Int32} {M_depth : Int32} {M_depthLimit : Int32} {M_done : Int32} {n_P_words : Nat} {f_P_words : Nat → Int32} {n_P_bytes : Nat} {f_P_bytes : Nat → Int32} {n_P_ends : Nat} {f_P_ends : Nat → Int32} {n_O_bytes : Nat} {f_O_bytes : Nat → Int32} {n_S_values : Nat} {f_S_values : Nat → Int64} {n_S_bases : Nat} {f_S_bases : Nat → Int32} {n_S_floors : Nat} {f_S_floors : Nat → Int32} {n_S_returns : Nat} {f_S_returns : Nat → Int32} {n_S_closures : Nat} {f_S_closures : Nat → Int64} {n_S_handlerFrames : Nat} {f_S_handlerFrames : Nat → Int32} {n_S_handlerPlaces : Nat} {f_S_handlerPlaces : Nat → Int32} {n_S_handlerHeights : Nat} {f_S_handlerHeights : Nat → Int32} {n_S_handlerDepths : Nat} {f_S_handlerDepths : Nat → Int32} {n_H_globals : Nat} {f_H_globals : Nat → Int64} {n_H_cells : Nat} {f_H_cells : Nat → Int64} {n_H_spare : Nat} {f_H_spare : Nat → Int64} {n_Q_links : Nat} {f_Q_links : Nat → Int32} {n_Q_pairs : Nat} {f_Q_pairs : Nat → Int64} {I : Nat → Int32} {F : Nat → Nat → Int32}
theorem pm_z : ∀ q, q < 42 → ∃ y : Int32, ∀ (k : Int32 → Int32 → Option (Int32 × (Nat → Nat → Int32) × (Nat → Int32))), lm_Model_primitive_1 N (nI q) (fun y1 => lm_Model_primitive_2 N (nI q) y1 (fun y2 => k y1 y2)) = k y (nI (tkn q)) := by
  intro q hq
  match q, hq with
  | 0, _ => exact ⟨_, fun _ => rfl⟩
  | 1, _ => exact ⟨_, fun _ => rfl⟩
  | 2, _ => exact ⟨_, fun _ => rfl⟩
  | 3, _ => exact ⟨_, fun _ => rfl⟩
  | 4, _ => exact ⟨_, fun _ => rfl⟩
  | 5, _ => exact ⟨_, fun _ => rfl⟩
  | 6, _ => exact ⟨_, fun _ => rfl⟩
  | 7, _ => exact ⟨_, fun _ => rfl⟩
  | 8, _ => exact ⟨_, fun _ => rfl⟩
  | 9, _ => exact ⟨_, fun _ => rfl⟩
  | 10, _ => exact ⟨_, fun _ => rfl⟩
  | 11, _ => exact ⟨_, fun _ => rfl⟩
  | 12, _ => exact ⟨_, fun _ => rfl⟩
  | 13, _ => exact ⟨_, fun _ => rfl⟩
  | 14, _ => exact ⟨_, fun _ => rfl⟩
  | 15, _ => exact ⟨_, fun _ => rfl⟩
  | 16, _ => exact ⟨_, fun _ => rfl⟩
  | 17, _ => exact ⟨_, fun _ => rfl⟩
  | 18, _ => exact ⟨_, fun _ => rfl⟩
  | 19, _ => exact ⟨_, fun _ => rfl⟩
  | 20, _ => exact ⟨_, fun _ => rfl⟩
  | 21, _ => exact ⟨_, fun _ => rfl⟩
  | 22, _ => exact ⟨_, fun _ => rfl⟩
  | 23, _ => exact ⟨_, fun _ => rfl⟩
  | 24, _ => exact ⟨_, fun _ => rfl⟩
  | 25, _ => exact ⟨_, fun _ => rfl⟩
  | 26, _ => exact ⟨_, fun _ => rfl⟩
  | 27, _ => exact ⟨_, fun _ => rfl⟩
  | 28, _ => exact ⟨_, fun _ => rfl⟩
  | 29, _ => exact ⟨_, fun _ => rfl⟩
  | 30, _ => exact ⟨_, fun _ => rfl⟩
  | 31, _ => exact ⟨_, fun _ => rfl⟩
  | 32, _ => exact ⟨_, fun _ => rfl⟩
  | 33, _ => exact ⟨_, fun _ => rfl⟩
  | 34, _ => exact ⟨_, fun _ => rfl⟩
  | 35, _ => exact ⟨_, fun _ => rfl⟩
  | 36, _ => exact ⟨_, fun _ => rfl⟩
  | 37, _ => exact ⟨_, fun _ => rfl⟩
  | 38, _ => exact ⟨_, fun _ => rfl⟩
  | 39, _ => exact ⟨_, fun _ => rfl⟩
  | 40, _ => exact ⟨_, fun _ => rfl⟩
  | 41, _ => exact ⟨_, fun _ => rfl⟩
  | n + 42, h => exact absurd h (by omega)
set_option maxRecDepth 4000 in
set_option maxHeartbeats 4000000 in
theorem op_34 {a wd : Int32} {p L : Nat} (hN : 400000 ≤ N) (he : eR nk nm nid G lE gg t gs fr gc hn gb gf gr hF hH hP hD S_top S_frames S_handlers n_S_values f_S_values n_S_bases f_S_bases n_S_floors f_S_floors n_S_returns f_S_returns n_S_closures f_S_closures n_S_handlerFrames f_S_handlerFrames n_S_handlerPlaces f_S_handlerPlaces n_S_handlerHeights f_S_handlerHeights n_S_handlerDepths f_S_handlerDepths H_globalsUsed H_used H_old H_oldLeadsToNew f_H_globals n_H_cells f_H_cells n_H_spare) (hr : rR nk nm nid G lR gg t gs fr gc hn gb gf gr hF hH hP hD I F) (hx : xR nm M_fuel M_ticks H_made M_depth B_names O_size n_O_bytes f_O_bytes n_Q_links f_Q_links n_Q_pairs n_H_cells I F) (h35 : I 35 = nI p) (hp : p < 262144) (hop : F 14 p = nI 34) (hh : gf (fr - 1) + 0 ≤ t) (h43 : I 43 = nI L) (hL : L ≤ 131072) : opR nm n_H_cells I F (potE n_S_values n_S_bases n_S_handlerFrames n_H_cells n_H_spare n_Q_links n_Q_pairs n_O_bytes) (m_Machine_perform N P_size P_constants P_closed P_open O_size S_top S_frames S_handlers H_globalsUsed H_used H_spareUsed H_old H_oldLeadsToNew (nI L) H_every H_fresh H_made (I 44) H_reachedFromGlobals H_reachedInAll H_keptGlobalsUsed H_kept B_names Q_size M_status (nI p) (nI (p + 2)) M_fuel M_ticks M_depth (I 45) M_done n_P_words f_P_words n_P_bytes f_P_bytes n_P_ends f_P_ends n_O_bytes f_O_bytes n_S_values f_S_values n_S_bases f_S_bases n_S_floors f_S_floors n_S_returns f_S_returns n_S_closures f_S_closures n_S_handlerFrames f_S_handlerFrames n_S_handlerPlaces f_S_handlerPlaces n_S_handlerHeights f_S_handlerHeights n_S_handlerDepths f_S_handlerDepths 2049 f_H_globals n_H_cells f_H_cells n_H_spare f_H_spare n_Q_links f_Q_links n_Q_pairs f_Q_pairs (nI 34) a) (sw N I F a wd) := by
  have hsw : sw N I F a wd = m_Model_primitive N I F a := by
    rw [sw_34 (by rw [h35, q_cl (by omega)]; exact hop), ot_34, bind_3, bind_3]
  have ht := he.1.2.2.1
  by_cases ha : a < nI 0
  · refine opR_same (M_next := nI (p + 2)) (st := 4) (by omega) he hr hx (pf34_F (W := 2) ?_) ?_
    · unfold m_Machine_primitiveFits
      rw [if_pos (show a < 0 from ha)]
      rfl
    · rw [hsw]
      unfold m_Model_primitive
      rw [if_pos (show a < 0 from ha)]
      rfl
  · obtain ⟨q, hq, rfl⟩ := nI_of ha
    by_cases hq42 : q < 42
    · by_cases hkt : gf (fr - 1) + tkn q ≤ t
      · by_cases hq27 : q < 27
        · exact pr_num hN he hr hx h35 hp hq27 hkt hsw
        · have hq' : q = 27 ∨ q = 28 ∨ q = 29 ∨ q = 30 ∨ q = 31 ∨ q = 32 ∨ q = 33 ∨ q = 34 ∨ q = 35 ∨ q = 36 ∨ q = 37 ∨ q = 38 ∨ q = 39 ∨ q = 40 ∨ q = 41 := by omega
          clear hq hq42 hq27 ha
          rcases hq' with rfl | rfl | rfl | rfl | rfl | rfl | rfl | rfl | rfl | rfl | rfl | rfl | rfl | rfl | rfl
          · exact pr_27 hN he hr hx h35 h43 hL hkt hsw
          · exact pr_28 hN he hr hx h35 h43 hL hkt hsw
          · exact pr_29 hN he hr hx h35 h43 hL hkt hsw
          · exact pr_30 hN he hr hx h35 h43 hL hkt hsw
          · exact pr_31 hN he hr hx h35 h43 hL hkt hsw
          · exact pr_32 hN he hr hx h35 h43 hL hkt hsw
          · exact pr_33 hN he hr hx h35 h43 hL hkt hsw
          · exact pr_34 hN he hr hx h35 h43 hL hkt hsw
          · exact pr_35 hN he hr hx h35 h43 hL hkt hsw
          · exact pr_36 hN he hr hx h35 h43 hL hkt hsw
          · exact pr_37 hN he hr hx h35 h43 hL hkt hsw
          · exact pr_38 hN he hr hx h35 h43 hL hkt hsw
          · exact pr_39 hN he hr hx h35 h43 hL hkt hsw
          · exact pr_40 hN he hr hx h35 h43 hL hkt hsw
          · exact pr_41 hN he hr hx h35 h43 hL hkt hsw
      · refine opR_same (M_next := nI (p + 2)) (st := 4) (by omega) he hr hx (pf34_F (W := 2) (fits_0 (N := N) he hq42 hkt M_status (nI p) (nI (p + 2)) M_fuel M_ticks M_depth (I 45) M_done)) ?_
        rw [hsw]
        have hgR := rR_height (N := N) hr he.1
        have h41 : nI q ≤ 41 := by rw [show (41 : Int32) = nI 41 from rfl, q_le_t (by omega) (by omega)]; exact True.intro
        obtain ⟨y, hy⟩ := pm_z (N := N) q hq42
        have c6 := (tk3 q hq42).2.2.2.1
        unfold m_Model_primitive
        rw [if_neg (show ¬ nI q < 0 from ha), if_pos h41]
        refine (hy _).trans ?_
        rw [hgR, bind_s, if_neg (show ¬ nI (tkn q) ≤ nI (t - gf (fr - 1)) by rw [q_le_f (by omega) (by omega)]; exact id)]
        rfl
    · have h41 : ¬ nI q ≤ 41 := by rw [show (41 : Int32) = nI 41 from rfl, q_le_f (by omega) (by omega)]; exact id
      refine opR_same (M_next := nI (p + 2)) (st := 4) (by omega) he hr hx (pf34_F (W := 2) ?_) ?_
      · unfold m_Machine_primitiveFits
        rw [if_neg (show ¬ nI q < 0 from ha), if_pos (show (42 : Int32) ≤ nI q by rw [show (42 : Int32) = nI 42 from rfl, q_le_t (by omega) (by omega)]; exact True.intro)]
        rfl
      · rw [hsw]
        unfold m_Model_primitive
        rw [if_neg (show ¬ nI q < 0 from ha), if_neg h41]
        rfl
end OP
