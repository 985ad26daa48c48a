/-! One instruction, whatever it is -/
section AO
variable {N : Nat}
variable {nk : Nat → Nat} {nm : Nat} {nid : Nat} {G : Nat → GO} {lE : List Nat} {gg : Nat → AV} {t : Nat} {gs : Nat → AV} {fr : Nat} {gc : Nat → AV} {hn : Nat} {gb : Nat → Nat} {gf : Nat → Nat} {gr : Nat → Int32} {hF : Nat → Nat} {hH : Nat → Nat} {hP : Nat → Int32} {hD : Nat → Int32} {lR : List Nat} {P_size : Int32} {P_constants : Int32} {P_closed : Int32} {P_open : Int32} {O_size : Int32} {S_top : Int32} {S_frames : Int32} {S_handlers : Int32} {H_globalsUsed : Int32} {H_used : Int32} {H_spareUsed : Int32} {H_old : Int32} {H_oldLeadsToNew : Int32} {H_limit : Int32} {H_every : Int32} {H_fresh : Int32} {H_made : Int32} {H_madeLimit : Int32} {H_reachedFromGlobals : Int32} {H_reachedInAll : Int32} {H_keptGlobalsUsed : Int32} {H_kept : Int32} {B_names : Int32} {Q_size : Int32} {M_status : Int32} {M_place : Int32} {M_next : Int32} {M_fuel : Int32} {M_ticks : Int32} {M_depth : Int32} {M_depthLimit : Int32} {M_done : Int32} {n_P_words : Nat} {f_P_words : Nat → Int32} {n_P_bytes : Nat} {f_P_bytes : Nat → Int32} {n_P_ends : Nat} {f_P_ends : Nat → Int32} {n_O_bytes : Nat} {f_O_bytes : Nat → Int32} {n_S_values : Nat} {f_S_values : Nat → Int64} {n_S_bases : Nat} {f_S_bases : Nat → Int32} {n_S_floors : Nat} {f_S_floors : Nat → Int32} {n_S_returns : Nat} {f_S_returns : Nat → Int32} {n_S_closures : Nat} {f_S_closures : Nat → Int64} {n_S_handlerFrames : Nat} {f_S_handlerFrames : Nat → Int32} {n_S_handlerPlaces : Nat} {f_S_handlerPlaces : Nat → Int32} {n_S_handlerHeights : Nat} {f_S_handlerHeights : Nat → Int32} {n_S_handlerDepths : Nat} {f_S_handlerDepths : Nat → Int32} {n_H_globals : Nat} {f_H_globals : Nat → Int64} {n_H_cells : Nat} {f_H_cells : Nat → Int64} {n_H_spare : Nat} {f_H_spare : Nat → Int64} {n_Q_links : Nat} {f_Q_links : Nat → Int32} {n_Q_pairs : Nat} {f_Q_pairs : Nat → Int64} {I : Nat → Int32} {F : Nat → Nat → Int32}
theorem ne_m {n : Nat} (h : n < 2147483648) : ¬ nI n = -1 := by
  intro e
  have h1 := nI_pos (n := n) h
  rw [e] at h1
  exact h1 (by decide)
theorem ao_22 {sz kc pd L p : Nat} {te : Nat → Nat} (hN : 400000 ≤ N) (he : eR nk nm nid G lE gg t gs fr gc hn gb gf gr hF hH hP hD S_top S_frames S_handlers n_S_values f_S_values n_S_bases f_S_bases n_S_floors f_S_floors n_S_returns f_S_returns n_S_closures f_S_closures n_S_handlerFrames f_S_handlerFrames n_S_handlerPlaces f_S_handlerPlaces n_S_handlerHeights f_S_handlerHeights n_S_handlerDepths f_S_handlerDepths H_globalsUsed H_used H_old H_oldLeadsToNew f_H_globals n_H_cells f_H_cells n_H_spare) (hr : rR nk nm nid G lR gg t gs fr gc hn gb gf gr hF hH hP hD I F) (hx : xR nm M_fuel M_ticks H_made M_depth B_names O_size n_O_bytes f_O_bytes n_Q_links f_Q_links n_Q_pairs n_H_cells I F) (hpg : pgR sz kc pd te P_size P_constants P_closed P_open n_P_words f_P_words n_P_bytes f_P_bytes n_P_ends f_P_ends I F) (h43 : I 43 = nI L) (hL : L ≤ 131072) (h35 : I 35 = nI p) (hp : p < sz) (h14 : F 14 p = nI 22) (h1 : p + 2 < sz) (h2 : 1 ≤ t - gf (fr - 1)) :
    ∃ z3, m_Machine_operandsHere N P_size P_constants P_closed P_open S_top S_frames S_handlers M_status (nI p) M_next M_fuel M_ticks M_depth (I 45) M_done n_P_words f_P_words n_S_floors f_S_floors = some z3 ∧ stpR nm n_H_cells I F (potE n_S_values n_S_bases n_S_handlerFrames n_H_cells n_H_spare n_Q_links n_Q_pairs n_O_bytes) (adF N L z3 P_size P_constants P_closed P_open O_size S_top S_frames S_handlers H_globalsUsed H_used H_spareUsed H_old H_oldLeadsToNew H_limit H_every H_fresh H_made H_madeLimit H_reachedFromGlobals H_reachedInAll H_keptGlobalsUsed H_kept B_names Q_size M_status (nI p) M_next M_fuel M_ticks M_depth M_depthLimit M_done n_P_words f_P_words n_P_bytes f_P_bytes n_P_ends f_P_ends n_O_bytes f_O_bytes n_S_values f_S_values n_S_bases f_S_bases n_S_floors f_S_floors n_S_returns f_S_returns n_S_closures f_S_closures n_S_handlerFrames f_S_handlerFrames n_S_handlerPlaces f_S_handlerPlaces n_S_handlerHeights f_S_handlerHeights n_S_handlerDepths f_S_handlerDepths n_H_globals f_H_globals n_H_cells f_H_cells n_H_spare f_H_spare n_Q_links f_Q_links n_Q_pairs f_Q_pairs I F ()) (m_Model_instruction N I F) := by
  obtain ⟨g1, g2, g3, g4, g5, g6, g7⟩ := hpg.1
  have hgE := eR_height (N := N) he
  have hgR := rR_height (N := N) hr he.1
  have ht := he.1.2.2.1
  have hgf := he.1.2.2.2.2.1
  have hw : f_P_words p = nI 22 := by rw [g7 p hp]; exact h14
  have hwc : f_P_words (nI p).toNatClampNeg = nI 22 := by rw [q_cl (by omega)]; exact hw
  have zb : ¬ (nI p < 0 ∨ n_P_words ≤ (nI p).toNatClampNeg) := bd_n (by omega) (by omega)
  have ew : f_P_words (p + 1) = F 14 (p + 1) := g7 (p + 1) (by omega)
  have hhere := here_22 (N := N) (M_depthLimit := I 45) (M_status := M_status) (M_next := M_next) (M_fuel := M_fuel) (M_ticks := M_ticks) (M_depth := M_depth) (M_done := M_done) (P_constants := P_constants) (P_closed := P_closed) (P_open := P_open) g1 rfl hp g4 g6 hw hgE (by omega) h1 h2 ew
  by_cases h0 : F 14 (p + 1) < 0
  · rw [if_pos h0] at hhere
    refine ⟨_, hhere, ?_⟩
    rw [ins_0 (wd_22z h35 g2 hp g3 h14 (fun _ => Or.inl h0))]
    exact stp_F he hr hx rfl
  · rw [if_neg h0] at hhere
    obtain ⟨n, hn6, hn7⟩ := nI_of h0
    rw [hn7] at hhere ew
    by_cases h3 : n ≤ 255
    · rw [if_neg (show ¬ (255 : Int32) < nI n by rw [show (255 : Int32) = nI 255 from rfl, q_lt_f (by omega) (by omega)]; exact id), q_add, show (2 : Int32) = nI 2 from rfl, q_add, q_add] at hhere
      by_cases h4 : p + n + 2 < sz
      · rw [if_pos (show nI (p + n + 2) < nI sz by rw [q_lt_t (by omega) (by omega)]; exact True.intro)] at hhere
        have hwd := wd_22y (N := N) h35 g2 g3 h14 hn7 h3 (by omega)
        have hi := ins_sw hwd (ne_l (b := 0) (by omega) (by omega) (by omega)) h35 (by omega) (fun k => ins1_2 h35 (by omega) (by omega) (by omega)) hgR (by rw [h14]; exact needs_q (q := 22) (by omega) (by omega)) (show nI 1 ≤ nI (t - gf (fr - 1)) by rw [q_le_t (by omega) (by omega)]; exact True.intro)
        refine ⟨_, hhere, ?_⟩
        rw [hi, hn7]
        refine stp_op (ne_m (by omega)) zb (fun α k => by rw [adv3_1 rfl (by omega) g6 (by omega) (by omega), ew]) hwc (show nI p + 1 + nI (n + 2) = nI (p + (n + 3)) by rw [nI_1, q_add, show p + 1 + (n + 2) = p + (n + 3) by omega]) (op_22 hN he hr hx h35 (by omega) h14 (by omega) h43 hL rfl h3 rfl (by omega) (fun k hk => ⟨by omega, g7 k (by omega)⟩))
      · rw [if_neg (show ¬ nI (p + n + 2) < nI sz by rw [q_lt_f (by omega) (by omega)]; exact id)] at hhere
        refine ⟨_, hhere, ?_⟩
        rw [ins_0 (wd_22z h35 g2 hp g3 h14 (fun _ => Or.inr ⟨n, hn7, by omega, by omega⟩))]
        exact stp_F he hr hx rfl
    · rw [if_pos (show (255 : Int32) < nI n by rw [show (255 : Int32) = nI 255 from rfl, q_lt_t (by omega) (by omega)]; exact True.intro)] at hhere
      refine ⟨_, hhere, ?_⟩
      rw [ins_0 (wd_22z h35 g2 hp g3 h14 (fun _ => Or.inr ⟨n, hn7, by omega, by omega⟩))]
      exact stp_F he hr hx rfl
theorem adv_p {sz kc pd L p q : Nat} {te : Nat → Nat} (hN : 400000 ≤ N) (he : eR nk nm nid G lE gg t gs fr gc hn gb gf gr hF hH hP hD S_top S_frames S_handlers n_S_values f_S_values n_S_bases f_S_bases n_S_floors f_S_floors n_S_returns f_S_returns n_S_closures f_S_closures n_S_handlerFrames f_S_handlerFrames n_S_handlerPlaces f_S_handlerPlaces n_S_handlerHeights f_S_handlerHeights n_S_handlerDepths f_S_handlerDepths H_globalsUsed H_used H_old H_oldLeadsToNew f_H_globals n_H_cells f_H_cells n_H_spare) (hr : rR nk nm nid G lR gg t gs fr gc hn gb gf gr hF hH hP hD I F) (hx : xR nm M_fuel M_ticks H_made M_depth B_names O_size n_O_bytes f_O_bytes n_Q_links f_Q_links n_Q_pairs n_H_cells I F) (hpg : pgR sz kc pd te P_size P_constants P_closed P_open n_P_words f_P_words n_P_bytes f_P_bytes n_P_ends f_P_ends I F) (h43 : I 43 = nI L) (hL : L ≤ 131072) (hnm : nm + 1 < 134217728) (h35 : I 35 = nI p) (hp : p < sz) (hq : q < 40) (h14 : F 14 p = nI q) (h1 : p + opd q < sz) (h2 : tkd q ≤ t - gf (fr - 1)) :
    ∃ z3, m_Machine_operandsHere N P_size P_constants P_closed P_open S_top S_frames S_handlers M_status (nI p) M_next M_fuel M_ticks M_depth (I 45) M_done n_P_words f_P_words n_S_floors f_S_floors = some z3 ∧ stpR nm n_H_cells I F (potE n_S_values n_S_bases n_S_handlerFrames n_H_cells n_H_spare n_Q_links n_Q_pairs n_O_bytes) (adF N L z3 P_size P_constants P_closed P_open O_size S_top S_frames S_handlers H_globalsUsed H_used H_spareUsed H_old H_oldLeadsToNew H_limit H_every H_fresh H_made H_madeLimit H_reachedFromGlobals H_reachedInAll H_keptGlobalsUsed H_kept B_names Q_size M_status (nI p) M_next M_fuel M_ticks M_depth M_depthLimit M_done n_P_words f_P_words n_P_bytes f_P_bytes n_P_ends f_P_ends n_O_bytes f_O_bytes n_S_values f_S_values n_S_bases f_S_bases n_S_floors f_S_floors n_S_returns f_S_returns n_S_closures f_S_closures n_S_handlerFrames f_S_handlerFrames n_S_handlerPlaces f_S_handlerPlaces n_S_handlerHeights f_S_handlerHeights n_S_handlerDepths f_S_handlerDepths n_H_globals f_H_globals n_H_cells f_H_cells n_H_spare f_H_spare n_Q_links f_Q_links n_Q_pairs f_Q_pairs I F ()) (m_Model_instruction N I F) := by
  have hq' : q = 0 ∨ q = 1 ∨ q = 2 ∨ q = 3 ∨ q = 4 ∨ q = 5 ∨ q = 6 ∨ q = 7 ∨ q = 8 ∨ q = 9 ∨ q = 10 ∨ q = 11 ∨ q = 12 ∨ q = 13 ∨ q = 14 ∨ q = 15 ∨ q = 16 ∨ q = 17 ∨ q = 18 ∨ q = 19 ∨ q = 20 ∨ q = 21 ∨ q = 22 ∨ q = 23 ∨ q = 24 ∨ q = 25 ∨ q = 26 ∨ q = 27 ∨ q = 28 ∨ q = 29 ∨ q = 30 ∨ q = 31 ∨ q = 32 ∨ q = 33 ∨ q = 34 ∨ q = 35 ∨ q = 36 ∨ q = 37 ∨ q = 38 ∨ q = 39 := by omega
  rcases hq' with rfl | rfl | rfl | rfl | rfl | rfl | rfl | rfl | rfl | rfl | rfl | rfl | rfl | rfl | rfl | rfl | rfl | rfl | rfl | rfl | rfl | rfl | rfl | rfl | rfl | rfl | rfl | rfl | rfl | rfl | rfl | rfl | rfl | rfl | rfl | rfl | rfl | rfl | rfl | rfl
  · exact ao_0 hN he hr hx hpg h43 hL hnm h35 hp h14 h1 h2
  · exact ao_1 hN he hr hx hpg h43 hL hnm h35 hp h14 h1 h2
  · exact ao_2 hN he hr hx hpg h43 hL hnm h35 hp h14 h1 h2
  · exact ao_3 hN he hr hx hpg h43 hL hnm h35 hp h14 h1 h2
  · exact ao_4 hN he hr hx hpg h43 hL hnm h35 hp h14 h1 h2
  · exact ao_5 hN he hr hx hpg h43 hL hnm h35 hp h14 h1 h2
  · exact ao_6 hN he hr hx hpg h43 hL hnm h35 hp h14 h1 h2
  · exact ao_7 hN he hr hx hpg h43 hL hnm h35 hp h14 h1 h2
  · exact ao_8 hN he hr hx hpg h43 hL hnm h35 hp h14 h1 h2
  · exact ao_9 hN he hr hx hpg h43 hL hnm h35 hp h14 h1 h2
  · exact ao_10 hN he hr hx hpg h43 hL hnm h35 hp h14 h1 h2
  · exact ao_11 hN he hr hx hpg h43 hL hnm h35 hp h14 h1 h2
  · exact ao_12 hN he hr hx hpg h43 hL hnm h35 hp h14 h1 h2
  · exact ao_13 hN he hr hx hpg h43 hL hnm h35 hp h14 h1 h2
  · exact ao_14 hN he hr hx hpg h43 hL hnm h35 hp h14 h1 h2
  · exact ao_15 hN he hr hx hpg h43 hL hnm h35 hp h14 h1 h2
  · exact ao_16 hN he hr hx hpg h43 hL hnm h35 hp h14 h1 h2
  · exact ao_17 hN he hr hx hpg h43 hL hnm h35 hp h14 h1 h2
  · exact ao_18 hN he hr hx hpg h43 hL hnm h35 hp h14 h1 h2
  · exact ao_19 hN he hr hx hpg h43 hL hnm h35 hp h14 h1 h2
  · exact ao_20 hN he hr hx hpg h43 hL hnm h35 hp h14 h1 h2
  · exact ao_21 hN he hr hx hpg h43 hL hnm h35 hp h14 h1 h2
  · exact ao_22 hN he hr hx hpg h43 hL h35 hp h14 h1 h2
  · exact ao_23 hN he hr hx hpg h43 hL hnm h35 hp h14 h1 h2
  · exact ao_24 hN he hr hx hpg h43 hL hnm h35 hp h14 h1 h2
  · exact ao_25 hN he hr hx hpg h43 hL hnm h35 hp h14 h1 h2
  · exact ao_26 hN he hr hx hpg h43 hL hnm h35 hp h14 h1 h2
  · exact ao_27 hN he hr hx hpg h43 hL hnm h35 hp h14 h1 h2
  · exact ao_28 hN he hr hx hpg h43 hL hnm h35 hp h14 h1 h2
  · exact ao_29 hN he hr hx hpg h43 hL hnm h35 hp h14 h1 h2
  · exact ao_30 hN he hr hx hpg h43 hL hnm h35 hp h14 h1 h2
  · exact ao_31 hN he hr hx hpg h43 hL hnm h35 hp h14 h1 h2
  · exact ao_32 hN he hr hx hpg h43 hL hnm h35 hp h14 h1 h2
  · exact ao_33 hN he hr hx hpg h43 hL hnm h35 hp h14 h1 h2
  · exact ao_34 hN he hr hx hpg h43 hL hnm h35 hp h14 h1 h2
  · exact ao_35 hN he hr hx hpg h43 hL hnm h35 hp h14 h1 h2
  · exact ao_36 hN he hr hx hpg h43 hL hnm h35 hp h14 h1 h2
  · exact ao_37 hN he hr hx hpg h43 hL hnm h35 hp h14 h1 h2
  · exact ao_38 hN he hr hx hpg h43 hL hnm h35 hp h14 h1 h2
  · exact ao_39 hN he hr hx hpg h43 hL hnm h35 hp h14 h1 h2
theorem adv_one {sz kc pd L : Nat} {te : Nat → Nat} (hN : 400000 ≤ N) (he : eR nk nm nid G lE gg t gs fr gc hn gb gf gr hF hH hP hD S_top S_frames S_handlers n_S_values f_S_values n_S_bases f_S_bases n_S_floors f_S_floors n_S_returns f_S_returns n_S_closures f_S_closures n_S_handlerFrames f_S_handlerFrames n_S_handlerPlaces f_S_handlerPlaces n_S_handlerHeights f_S_handlerHeights n_S_handlerDepths f_S_handlerDepths H_globalsUsed H_used H_old H_oldLeadsToNew f_H_globals n_H_cells f_H_cells n_H_spare) (hr : rR nk nm nid G lR gg t gs fr gc hn gb gf gr hF hH hP hD I F) (hx : xR nm M_fuel M_ticks H_made M_depth B_names O_size n_O_bytes f_O_bytes n_Q_links f_Q_links n_Q_pairs n_H_cells I F) (hpg : pgR sz kc pd te P_size P_constants P_closed P_open n_P_words f_P_words n_P_bytes f_P_bytes n_P_ends f_P_ends I F) (h43 : I 43 = nI L) (hL : L ≤ 131072) (hnm : nm + 1 < 134217728) (hpl : M_place = I 35) :
    ∃ z3, m_Machine_operandsHere N P_size P_constants P_closed P_open S_top S_frames S_handlers M_status M_place M_next M_fuel M_ticks M_depth (I 45) M_done n_P_words f_P_words n_S_floors f_S_floors = some z3 ∧ stpR nm n_H_cells I F (potE n_S_values n_S_bases n_S_handlerFrames n_H_cells n_H_spare n_Q_links n_Q_pairs n_O_bytes) (adF N L z3 P_size P_constants P_closed P_open O_size S_top S_frames S_handlers H_globalsUsed H_used H_spareUsed H_old H_oldLeadsToNew H_limit H_every H_fresh H_made H_madeLimit H_reachedFromGlobals H_reachedInAll H_keptGlobalsUsed H_kept B_names Q_size M_status M_place M_next M_fuel M_ticks M_depth M_depthLimit M_done n_P_words f_P_words n_P_bytes f_P_bytes n_P_ends f_P_ends n_O_bytes f_O_bytes n_S_values f_S_values n_S_bases f_S_bases n_S_floors f_S_floors n_S_returns f_S_returns n_S_closures f_S_closures n_S_handlerFrames f_S_handlerFrames n_S_handlerPlaces f_S_handlerPlaces n_S_handlerHeights f_S_handlerHeights n_S_handlerDepths f_S_handlerDepths n_H_globals f_H_globals n_H_cells f_H_cells n_H_spare f_H_spare n_Q_links f_Q_links n_Q_pairs f_Q_pairs I F ()) (m_Model_instruction N I F) := by
  obtain ⟨g1, g2, g3, g4, g5, g6, g7⟩ := hpg.1
  have hgE := eR_height (N := N) he
  have hgR := rR_height (N := N) hr he.1
  have ht := he.1.2.2.1
  by_cases hout : I 35 < 0 ∨ ¬ I 35 < nI sz
  · refine ⟨_, here_x (N := N) (M_depthLimit := I 45) (M_status := M_status) (M_next := M_next) (M_fuel := M_fuel) (M_ticks := M_ticks) (M_depth := M_depth) (M_done := M_done) (P_constants := P_constants) (P_closed := P_closed) (P_open := P_open) g1 hpl hout, ?_⟩
    rw [ins_0 (words_x rfl g2 g3 (hout.imp id Int32.not_lt.mp))]
    exact stp_F he hr hx rfl
  · have h0 : ¬ I 35 < 0 := fun h => hout (Or.inl h)
    have h1 : I 35 < nI sz := by
      by_cases h : I 35 < nI sz
      · exact h
      · exact absurd (Or.inr h) hout
    obtain ⟨p, hp6, h35⟩ := nI_of h0
    have hp : p < sz := by
      rw [h35] at h1
      by_cases hc : p < sz
      · exact hc
      · rw [q_lt_f (by omega) (by omega)] at h1
        exact h1.elim
    rw [h35] at hpl
    subst hpl
    have hw : f_P_words p = F 14 p := g7 p hp
    by_cases hop : F 14 p < 0 ∨ ¬ F 14 p ≤ 39
    · have hop2 : F 14 p < 0 ∨ 40 ≤ F 14 p := by
        by_cases hn : F 14 p < 0
        · exact Or.inl hn
        · obtain ⟨q, hq6, hq7⟩ := nI_of hn
          have := hop.resolve_left hn
          rw [hq7] at this ⊢
          right
          by_cases hc : q ≤ 39
          · exact absurd (show nI q ≤ 39 by rw [show (39 : Int32) = nI 39 from rfl, q_le_t (by omega) (by omega)]; exact True.intro) this
          · rw [show (40 : Int32) = nI 40 from rfl, q_le_t (by omega) (by omega)]
            exact True.intro
      refine ⟨_, here_o (N := N) (M_depthLimit := I 45) (M_status := M_status) (M_next := M_next) (M_fuel := M_fuel) (M_ticks := M_ticks) (M_depth := M_depth) (M_done := M_done) (P_constants := P_constants) (P_closed := P_closed) (P_open := P_open) g1 rfl hp g4 g6 hw hop2, ?_⟩
      rw [ins_0 (words_o h35 g2 hp g3 hop)]
      exact stp_F he hr hx rfl
    · have hn : ¬ F 14 p < 0 := fun h => hop (Or.inl h)
      obtain ⟨q, hq6, h14⟩ := nI_of hn
      have hq : q < 40 := by
        by_cases hc : q < 40
        · exact hc
        · refine absurd (Or.inr ?_) hop
          rw [h14, show (39 : Int32) = nI 39 from rfl, q_le_f (by omega) (by omega)]
          exact id
      rw [h14] at hw
      obtain ⟨t1, t2, t3, t4⟩ := tab12 q hq
      by_cases h2 : p + opd q < sz
      · by_cases h3 : tkd q ≤ t - gf (fr - 1)
        · exact adv_p hN he hr hx hpg h43 hL hnm h35 hp hq h14 h2 h3
        · refine ⟨_, here_h (N := N) (M_depthLimit := I 45) (M_status := M_status) (M_next := M_next) (M_fuel := M_fuel) (M_ticks := M_ticks) (M_depth := M_depth) (M_done := M_done) (P_constants := P_constants) (P_closed := P_closed) (P_open := P_open) g1 rfl hp g4 g6 hw hq hgE (by omega) h2 h3, ?_⟩
          have hne : ¬ nI (tkd q) ≤ nI (t - gf (fr - 1)) := by rw [q_le_f (by omega) (by omega)]; exact id
          have h10 : q ≠ 10 := fun e => h3 (by rw [e]; exact Nat.zero_le _)
          have hlow : m_Model_instruction N I F = some (4, F, I) := by
            by_cases h22 : q = 22
            · subst h22
              have h2 : p + 2 < sz := h2
              by_cases hneg : F 14 (p + 1) < 0
              · exact ins_0 (wd_22z h35 g2 hp g3 h14 (fun _ => Or.inl hneg))
              · obtain ⟨n, hn6, hn7⟩ := nI_of hneg
                by_cases hgood : n ≤ 255 ∧ p + n + 3 ≤ sz
                · exact ins_low (wd_22y h35 g2 g3 h14 hn7 hgood.1 hgood.2) (ne_l (b := 0) (by omega) (by omega) (by omega)) h35 (by omega) (fun k => ins1_2 h35 (by omega) (by omega) (by omega)) hgR (by rw [h14]; exact needs_q (q := 22) (by omega) (by omega)) hne
                · exact ins_0 (wd_22z h35 g2 hp g3 h14 (fun _ => Or.inr ⟨n, hn7, by omega, by omega⟩))
            · have hwd := words_q (N := N) hq h22 h35 g2 hp g3 h14
              rw [if_pos (show p + 1 + opd q ≤ sz by omega)] at hwd
              by_cases hk : opd q = 0
              · rw [hk] at hwd
                exact ins_low hwd (by decide) h35 (by omega) (fun k => ins1_1) hgR (by rw [h14]; exact needs_q hq h10) hne
              · exact ins_low hwd (ne_l (b := 0) (by omega) (by omega) (by omega)) h35 (by omega) (fun k => ins1_2 h35 (by omega) (by omega) (by omega)) hgR (by rw [h14]; exact needs_q hq h10) hne
          rw [hlow]
          exact stp_F he hr hx rfl
      · refine ⟨_, here_s (N := N) (M_depthLimit := I 45) (M_status := M_status) (M_next := M_next) (M_fuel := M_fuel) (M_ticks := M_ticks) (M_depth := M_depth) (M_done := M_done) (P_constants := P_constants) (P_closed := P_closed) (P_open := P_open) g1 rfl hp g4 g6 hw hq hgE (by omega) h2, ?_⟩
        have hlow : m_Model_instruction N I F = some (4, F, I) := by
          by_cases h22 : q = 22
          · subst h22
            have h2 : ¬ p + 2 < sz := h2
            refine ins_0 (wd_22z h35 g2 hp g3 h14 (fun _ => ?_))
            by_cases hneg : F 14 (p + 1) < nI 0
            · exact Or.inl hneg
            · obtain ⟨n, hn6, hn7⟩ := nI_of hneg
              exact Or.inr ⟨n, hn7, by omega, by omega⟩
          · have hwd := words_q (N := N) hq h22 h35 g2 hp g3 h14
            rw [if_neg (show ¬ p + 1 + opd q ≤ sz by omega)] at hwd
            exact ins_0 hwd
        rw [hlow]
        exact stp_F he hr hx rfl
end AO
