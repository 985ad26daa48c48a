/-! Instructions: frames that end or take another's place -/
section OPS
variable {N : Nat}
variable {nk : Nat → Nat} {nm : Nat} {nid : Nat} {G : Nat → GO} {lE : List Nat} {gg : Nat → AV} {t : Nat} {gs : Nat → AV} {fr : Nat} {gc : Nat → AV} {hn : Nat} {gb : Nat → Nat} {gf : Nat → Nat} {gr : Nat → Int32} {hF : Nat → Nat} {hH : Nat → Nat} {hP : Nat → Int32} {hD : Nat → Int32} {lR : List Nat} {P_size : Int32} {P_constants : Int32} {P_closed : Int32} {P_open : Int32} {O_size : Int32} {S_top : Int32} {S_frames : Int32} {S_handlers : Int32} {H_globalsUsed : Int32} {H_used : Int32} {H_spareUsed : Int32} {H_old : Int32} {H_oldLeadsToNew : Int32} {H_limit : Int32} {H_every : Int32} {H_fresh : Int32} {H_made : Int32} {H_madeLimit : Int32} {H_reachedFromGlobals : Int32} {H_reachedInAll : Int32} {H_keptGlobalsUsed : Int32} {H_kept : Int32} {B_names : Int32} {Q_size : Int32} {M_status : Int32} {M_place : Int32} {M_next : Int32} {M_fuel : Int32} {M_ticks : Int32} {M_depth : Int32} {M_depthLimit : Int32} {M_done : Int32} {n_P_words : Nat} {f_P_words : Nat → Int32} {n_P_bytes : Nat} {f_P_bytes : Nat → Int32} {n_P_ends : Nat} {f_P_ends : Nat → Int32} {n_O_bytes : Nat} {f_O_bytes : Nat → Int32} {n_S_values : Nat} {f_S_values : Nat → Int64} {n_S_bases : Nat} {f_S_bases : Nat → Int32} {n_S_floors : Nat} {f_S_floors : Nat → Int32} {n_S_returns : Nat} {f_S_returns : Nat → Int32} {n_S_closures : Nat} {f_S_closures : Nat → Int64} {n_S_handlerFrames : Nat} {f_S_handlerFrames : Nat → Int32} {n_S_handlerPlaces : Nat} {f_S_handlerPlaces : Nat → Int32} {n_S_handlerHeights : Nat} {f_S_handlerHeights : Nat → Int32} {n_S_handlerDepths : Nat} {f_S_handlerDepths : Nat → Int32} {n_H_globals : Nat} {f_H_globals : Nat → Int64} {n_H_cells : Nat} {f_H_cells : Nat → Int64} {n_H_spare : Nat} {f_H_spare : Nat → Int64} {n_Q_links : Nat} {f_Q_links : Nat → Int32} {n_Q_pairs : Nat} {f_Q_pairs : Nat → Int64} {I : Nat → Int32} {F : Nat → Nat → Int32}
theorem tail_F1 (hI : m_Model_is N I F (nI 2) (nI 4) = some (nI 0)) : m_Model_tail N I F = some (nI 4, F, I) := by
  have h : m_Model_is N I F 2 4 = some (nI 0) := hI
  unfold m_Model_tail
  rw [h, bind_s, if_pos (show nI 0 = 0 from rfl)]
  rfl
theorem tail_F2 (hI : m_Model_is N I F (nI 2) (nI 4) = some (nI 1)) (hH : m_Model_hasHandlers N I F = some (nI 1)) : m_Model_tail N I F = some (nI 4, F, I) := by
  have h : m_Model_is N I F 2 4 = some (nI 1) := hI
  unfold m_Model_tail
  rw [h, bind_s, if_neg (show ¬ nI 1 = 0 by decide), hH, bind_s, if_neg (show ¬ nI 1 = 0 by decide)]
  rfl
theorem tail_R {o : Nat} (hr : rR nk nm nid G lR gg t gs fr gc hn gb gf gr hF hH hP hD I F) (h1 : 1 ≤ fr) (h2 : fr ≤ 8192) (h3 : t ≤ 65536) (h4 : 2 ≤ t) (hb : gb (fr - 1) < 65536) (hI : m_Model_is N I F (nI 2) (nI 4) = some (nI 1)) (hH0 : m_Model_hasHandlers N I F = some (nI 0)) (ho : gs (t - 2) = vO o) (hK : gK G o = 4) : 
    m_Model_tail N I F = some (nI 5, updF (updF (updF (updF F 23 (upd (F 23) (fr - 1) (nI (adr (gZ G) lR o)))) 27 (upd (F 27) (gb (fr - 1)) (tR (gs (t - 1))))) 28 (upd (F 28) (gb (fr - 1)) (vR G lR (gs (t - 1))))) 25 (upd (F 25) (fr - 1) (nI 1)), upd (upd I 29 (nI (gb (fr - 1) + 1))) 35 (gN G o)) := by
  have hs := scalar_R (N := N) (d := 2) hr (by omega) h4 h3
  have hoR := (at_R (d := 2) hr (by omega) h4).2.2
  rw [ho] at hs hoR
  have hs : m_Model_scalar N I F (nI 2) = some (nI (adr (gZ G) lR o)) := hs
  obtain ⟨y1, y2, y3, y4, y5⟩ := frR hr h1
  obtain ⟨u1, u2, u3⟩ := vRr hr (k := t - 1) (by omega)
  obtain ⟨o1, o2, o3, o4, o5, o6⟩ := obj_R hr hoR
  have ech : chR G o = gN G o := by unfold chR; rw [if_neg (by omega)]
  rw [ech] at o5
  unfold m_Model_tail
  simp only [q_1, q_2, q_4, q_0, hI, hH0, hs, bind_s, q_eq_f (show (1 : Nat) ≠ 0 by omega) (by omega) (by omega), q_eq_t (show (0 : Nat) = 0 from rfl), if_true, if_false, ite_true, ite_false, reduceIte, y2, q_sub h1, q_cl (show fr - 1 < 2147483648 by omega)]
  simp (maxSteps := 2000000) (disch := omega) only [q_o, q_0, q_1, q_2, q_3, q_4, q_5, q_6, q_7, q_8, q_9, q_10, q_11, q_12, q_13, q_14, q_15, q_16, q_17, q_18, q_19, q_20, q_21, q_22, q_23, q_24, q_25, q_26, q_27, q_28, q_29, q_30, q_31, q_32, q_33, q_34, q_35, q_36, q_37, q_38, q_39, q_40, q_41, q_42, q_43, q_44, q_45, q_46, q_47, q_48, q_49, q_50, q_51, q_52, q_53, q_63, q_64, q_126, q_128, q_255, q_512, q_1024, q_1026, q_2000, q_2048, q_2049, q_4095, q_4096, q_8192, q_16383, q_65535, q_65536, q_69632, q_131072, q_132000, q_262144, q_300000, q_1000000, q_lt_t, q_lt_f, q_le_t, q_le_f, q_eq_t, q_eq_f, q_cl, q_add, q_mul, q_sub, q_nle_f, q_nle_t, q_nlt_f, q_nlt_t, q_neq_f, eq_self, q_n1, q_n2, q_m1, q_m1', q_m2, q_m21, q_m0, q_ml, upd_e, upd_n, updL_e, updL_n, updF_e, updF_n, let_d, tk_s, bind_s, or_false, false_or, and_true, true_and, if_true, if_false, ite_true, ite_false, reduceIte, not_true, not_false_iff, Nat.zero_add, Nat.add_zero, Nat.sub_zero, y1, y2, y4, u1, u2, o5]
theorem back_R (hr : rR nk nm nid G lR gg t gs fr gc hn gb gf gr hF hH hP hD I F) (h1 : 2 ≤ fr) (h2 : fr ≤ 8192) (h3 : t ≤ 65536) (h4 : 1 ≤ t) (hb : gb (fr - 1) < 65536) (hH0 : m_Model_hasHandlers N I F = some (nI 0)) :
    m_Model_back N I F = some (nI 5, updF (updF F 27 (upd (F 27) (gb (fr - 1)) (tR (gs (t - 1))))) 28 (upd (F 28) (gb (fr - 1)) (vR G lR (gs (t - 1)))), upd (upd (upd (upd I 22 (nI (fr - 1))) 29 (nI (gb (fr - 1)))) 35 (gr (fr - 1))) 29 (nI (gb (fr - 1) + 1))) := by
  obtain ⟨y1, y2, y3, y4, y5⟩ := frR hr (by omega)
  obtain ⟨u1, u2, u3⟩ := vRr hr (k := t - 1) (by omega)
  have hg := hr.1.2.2.2.2.1 (fr - 1) (by omega) (by omega)
  have e1 : ∀ (J : Nat → Int32) x y, upd (upd J 29 x) 29 y = upd J 29 y := fun J x y => by
    funext j
    by_cases hj : j = 29
    · rw [upd_e hj, upd_e hj]
    · rw [upd_n hj, upd_n hj, upd_n hj]
  unfold m_Model_back
  simp only [q_1, q_2, q_4, q_0, hH0, bind_s, q_eq_t (show (0 : Nat) = 0 from rfl), if_true, ite_true, reduceIte, y2]
  simp (maxSteps := 2000000) (disch := omega) only [q_o, q_0, q_1, q_2, q_3, q_4, q_5, q_6, q_7, q_8, q_9, q_10, q_11, q_12, q_13, q_14, q_15, q_16, q_17, q_18, q_19, q_20, q_21, q_22, q_23, q_24, q_25, q_26, q_27, q_28, q_29, q_30, q_31, q_32, q_33, q_34, q_35, q_36, q_37, q_38, q_39, q_40, q_41, q_42, q_43, q_44, q_45, q_46, q_47, q_48, q_49, q_50, q_51, q_52, q_53, q_63, q_64, q_126, q_128, q_255, q_512, q_1024, q_1026, q_2000, q_2048, q_2049, q_4095, q_4096, q_8192, q_16383, q_65535, q_65536, q_69632, q_131072, q_132000, q_262144, q_300000, q_1000000, q_lt_t, q_lt_f, q_le_t, q_le_f, q_eq_t, q_eq_f, q_cl, q_add, q_mul, q_sub, q_nle_f, q_nle_t, q_nlt_f, q_nlt_t, q_neq_f, eq_self, q_n1, q_n2, q_m1, q_m1', q_m2, q_m21, q_m0, q_ml, upd_e, upd_n, updL_e, updL_n, updF_e, updF_n, let_d, tk_s, bind_s, or_false, false_or, and_true, true_and, if_true, if_false, ite_true, ite_false, reduceIte, not_true, not_false_iff, Nat.zero_add, Nat.add_zero, Nat.sub_zero, m_Model_give, y1, y2, y4, u1, u2, hg, e1]
theorem rR_back (hr : rR nk nm nid G lR gg t gs fr gc hn gb gf gr hF hH hP hD I F) (h1 : 2 ≤ fr) (h4 : 1 ≤ t) (hb : gb (fr - 1) < t) : rR nk nm nid G lR gg (gb (fr - 1) + 1) (upA gs (gb (fr - 1)) (gs (t - 1))) (fr - 1) gc hn gb gf gr hF hH hP hD (upd (upd (upd (upd I 22 (nI (fr - 1))) 29 (nI (gb (fr - 1)))) 35 (gr (fr - 1))) 29 (nI (gb (fr - 1) + 1))) (updF (updF F 27 (upd (F 27) (gb (fr - 1)) (tR (gs (t - 1))))) 28 (upd (F 28) (gb (fr - 1)) (vR G lR (gs (t - 1))))) := by
  obtain ⟨u1, u2, u3⟩ := vRr hr (k := t - 1) (by omega)
  obtain ⟨⟨a1, a2, a3, a4, a5, a6, a7, a8⟩, ⟨b1, b2⟩, c⟩ := hr
  refine ⟨⟨upd_e rfl, ?_, ?_, fun k hk => ?_, fun k h1 hk => ?_, ?_, ?_, ?_⟩, ⟨fun k hk => ?_, fun k hk => ?_⟩, hpR_c c (fun j hj => ?_) (fun j hj => ?_)⟩
  · rw [upd_n (by omega), upd_n (by omega), upd_n (by omega), upd_e rfl]
  · rw [upd_n (by omega), upd_n (by omega), upd_n (by omega), upd_n (by omega)]; exact a3
  · rw [updF_n (by omega), updF_n (by omega), updF_n (by omega), updF_n (by omega)]; exact a4 k (by omega)
  · rw [updF_n (by omega), updF_n (by omega)]; exact a5 k h1 (by omega)
  · rw [updF_n (by omega), updF_n (by omega), updF_n (by omega), updF_n (by omega), updF_n (by omega), updF_n (by omega), updF_n (by omega), updF_n (by omega)]; exact a6
  · rw [upd_n (by omega), upd_n (by omega), upd_n (by omega), upd_n (by omega)]; exact a7
  · rw [upd_n (by omega), upd_n (by omega), upd_n (by omega), upd_n (by omega)]; exact a8
  · rw [updF_n (show (27 : Nat) ≠ 28 by omega), updF_e rfl, updF_e rfl]
    by_cases e : k = gb (fr - 1)
    · rw [upd_e e, upd_e e, upA_e e]; exact ⟨u3, rfl, rfl⟩
    · rw [upd_n e, upd_n e, upA_n e]; exact b1 k (by omega)
  · rw [updF_n (by omega), updF_n (by omega)]; exact b2 k (by omega)
  · rw [upd_n (by omega), upd_n (by omega), upd_n (by omega), upd_n (by omega)]
  · rw [updF_n (by omega), updF_n (by omega)]
theorem eR_back (he : eR nk nm nid G lE gg t gs fr gc hn gb gf gr hF hH hP hD S_top S_frames S_handlers n_S_values f_S_values n_S_bases f_S_bases n_S_floors f_S_floors n_S_returns f_S_returns n_S_closures f_S_closures n_S_handlerFrames f_S_handlerFrames n_S_handlerPlaces f_S_handlerPlaces n_S_handlerHeights f_S_handlerHeights n_S_handlerDepths f_S_handlerDepths H_globalsUsed H_used H_old H_oldLeadsToNew f_H_globals n_H_cells f_H_cells n_H_spare) (h1 : 2 ≤ fr) (h4 : gf (fr - 1) + 1 ≤ t) (hH0 : ¬ (0 < hn ∧ hF (hn - 1) = fr - 1)) : eR nk nm nid G lE gg (gb (fr - 1) + 1) (upA gs (gb (fr - 1)) (gs (t - 1))) (fr - 1) gc hn gb gf gr hF hH hP hD (nI (gb (fr - 1) + 1)) (nI (fr - 1)) S_handlers n_S_values (vp_updL f_S_values (gb (fr - 1)) (wE G lE (gs (t - 1)))) n_S_bases f_S_bases n_S_floors f_S_floors n_S_returns f_S_returns n_S_closures f_S_closures n_S_handlerFrames f_S_handlerFrames n_S_handlerPlaces f_S_handlerPlaces n_S_handlerHeights f_S_handlerHeights n_S_handlerDepths f_S_handlerDepths H_globalsUsed H_used H_old H_oldLeadsToNew f_H_globals n_H_cells f_H_cells n_H_spare := by
  obtain ⟨v1, v2⟩ := vE he (k := t - 1) (by omega)
  obtain ⟨⟨s1, s2, s3, s4, s5, s6, s7, s8, s9⟩, e2, ⟨t1, t2, t3, t4, t5, t6, t7, t8, t9⟩, ⟨w1, w2⟩, e5, e6, e7⟩ := he
  have hsb := s7 (fr - 2) (fr - 1) (by omega) (by omega)
  have hs6 := s6 (fr - 1) (by omega)
  refine ⟨⟨by omega, by omega, by omega, s4, ?_, fun k hk => s6 k (by omega), fun i j h1 h2 => s7 i j h1 (by omega), fun j hj => ?_, s9⟩, e2, ⟨rfl, rfl, t3, by omega, by omega, t6, fun k hk => t7 k (by omega), fun k h1 hk => t8 k h1 (by omega), t9⟩, ⟨fun k hk => ?_, fun k hk => w2 k (by omega)⟩, e5, fun k hk => e6 k (by omega), e7⟩
  · rw [show fr - 1 - 1 = fr - 2 by omega]; omega
  · have h1 := s8 j hj
    have h2 := s9 j (hn - 1) (by omega) (by omega)
    have h3 := (s8 (hn - 1) (by omega)).1
    refine ⟨?_, h1.2⟩
    by_cases e : hF (hn - 1) = fr - 1
    · exact absurd ⟨by omega, e⟩ hH0
    · omega
  · by_cases e : k = gb (fr - 1)
    · rw [updL_e e, upA_e e]; exact ⟨rfl, v2⟩
    · rw [updL_n e, upA_n e]; exact w1 k (by omega)
theorem rR_tail {o : Nat} (hr : rR nk nm nid G lR gg t gs fr gc hn gb gf gr hF hH hP hD I F) (h1 : 1 ≤ fr) (h4 : 2 ≤ t) (hb : gb (fr - 1) < t) (ho : gs (t - 2) = vO o) : rR nk nm nid G lR gg (gb (fr - 1) + 1) (upA gs (gb (fr - 1)) (gs (t - 1))) fr (upA gc (fr - 1) (gs (t - 2))) hn gb (upN gf (fr - 1) (gb (fr - 1) + 1)) gr hF hH hP hD (upd (upd I 29 (nI (gb (fr - 1) + 1))) 35 (gN G o)) (updF (updF (updF (updF F 23 (upd (F 23) (fr - 1) (nI (adr (gZ G) lR o)))) 27 (upd (F 27) (gb (fr - 1)) (tR (gs (t - 1))))) 28 (upd (F 28) (gb (fr - 1)) (vR G lR (gs (t - 1))))) 25 (upd (F 25) (fr - 1) (nI 1))) := by
  obtain ⟨u1, u2, u3⟩ := vRr hr (k := t - 1) (by omega)
  have hoR := (vRr hr (k := t - 2) (by omega)).2.2
  rw [ho] at hoR
  obtain ⟨⟨a1, a2, a3, a4, a5, a6, a7, a8⟩, ⟨b1, b2⟩, c⟩ := hr
  refine ⟨⟨?_, ?_, ?_, fun k hk => ?_, fun k h1 hk => ?_, ?_, ?_, ?_⟩, ⟨fun k hk => ?_, fun k hk => ?_⟩, hpR_c c (fun j hj => ?_) (fun j hj => ?_)⟩
  · rw [upd_n (by omega), upd_e rfl]
  · rw [upd_n (by omega), upd_n (by omega)]; exact a2
  · rw [upd_n (by omega), upd_n (by omega)]; exact a3
  · rw [updF_n (show (24 : Nat) ≠ 25 by omega), updF_n (show (24 : Nat) ≠ 28 by omega), updF_n (show (24 : Nat) ≠ 27 by omega), updF_n (show (24 : Nat) ≠ 23 by omega), updF_e rfl]
    by_cases e : k = fr - 1
    · rw [upd_e e, upN_e e, e]
      refine ⟨(a4 (fr - 1) (by omega)).1, ?_⟩
      congr 1; omega
    · rw [upd_n e, upN_n e]; exact a4 k hk
  · rw [updF_n (by omega), updF_n (by omega), updF_n (by omega), updF_n (by omega)]; exact a5 k h1 hk
  · rw [updF_n (by omega), updF_n (by omega), updF_n (by omega), updF_n (by omega), updF_n (by omega), updF_n (by omega), updF_n (by omega), updF_n (by omega), updF_n (by omega), updF_n (by omega), updF_n (by omega), updF_n (by omega), updF_n (by omega), updF_n (by omega), updF_n (by omega), updF_n (by omega)]; exact a6
  · rw [upd_n (by omega), upd_n (by omega)]; exact a7
  · rw [upd_n (by omega), upd_n (by omega)]; exact a8
  · rw [updF_n (show (27 : Nat) ≠ 25 by omega), updF_n (show (27 : Nat) ≠ 28 by omega), updF_e rfl, updF_n (show (28 : Nat) ≠ 25 by omega), updF_e rfl]
    by_cases e : k = gb (fr - 1)
    · rw [upd_e e, upd_e e, upA_e e]; exact ⟨u3, rfl, rfl⟩
    · rw [upd_n e, upd_n e, upA_n e]; exact b1 k (by omega)
  · rw [updF_n (show (23 : Nat) ≠ 25 by omega), updF_n (show (23 : Nat) ≠ 28 by omega), updF_n (show (23 : Nat) ≠ 27 by omega), updF_e rfl]
    by_cases e : k = fr - 1
    · rw [upd_e e, upA_e e, ho]; exact ⟨hoR, rfl⟩
    · rw [upd_n e, upA_n e]; exact b2 k hk
  · rw [upd_n (by omega), upd_n (by omega)]
  · rw [updF_n (by omega), updF_n (by omega), updF_n (by omega), updF_n (by omega)]
theorem eR_tail {o : Nat} (he : eR nk nm nid G lE gg t gs fr gc hn gb gf gr hF hH hP hD S_top S_frames S_handlers n_S_values f_S_values n_S_bases f_S_bases n_S_floors f_S_floors n_S_returns f_S_returns n_S_closures f_S_closures n_S_handlerFrames f_S_handlerFrames n_S_handlerPlaces f_S_handlerPlaces n_S_handlerHeights f_S_handlerHeights n_S_handlerDepths f_S_handlerDepths H_globalsUsed H_used H_old H_oldLeadsToNew f_H_globals n_H_cells f_H_cells n_H_spare) (h4 : gf (fr - 1) + 2 ≤ t) (ho : gs (t - 2) = vO o) (hK : gK G o = 4) : eR nk nm nid G lE gg (gb (fr - 1) + 1) (upA gs (gb (fr - 1)) (gs (t - 1))) fr (upA gc (fr - 1) (gs (t - 2))) hn gb (upN gf (fr - 1) (gb (fr - 1) + 1)) gr hF hH hP hD (nI (gb (fr - 1) + 1)) S_frames S_handlers n_S_values (vp_updL f_S_values (gb (fr - 1)) (wE G lE (gs (t - 1)))) n_S_bases f_S_bases n_S_floors (upd f_S_floors (fr - 1) (nI (gb (fr - 1) + 1))) n_S_returns f_S_returns n_S_closures (vp_updL f_S_closures (fr - 1) (wE G lE (gs (t - 2)))) n_S_handlerFrames f_S_handlerFrames n_S_handlerPlaces f_S_handlerPlaces n_S_handlerHeights f_S_handlerHeights n_S_handlerDepths f_S_handlerDepths H_globalsUsed H_used H_old H_oldLeadsToNew f_H_globals n_H_cells f_H_cells n_H_spare := by
  obtain ⟨v1, v2⟩ := vE he (k := t - 1) (by omega)
  obtain ⟨v1', v2'⟩ := vE he (k := t - 2) (by omega)
  obtain ⟨⟨s1, s2, s3, s4, s5, s6, s7, s8, s9⟩, e2, ⟨t1, t2, t3, t4, t5, t6, t7, t8, t9⟩, ⟨w1, w2⟩, e5, e6, e7⟩ := he
  have hs6 := s6 (fr - 1) (by omega)
  refine ⟨⟨s1, s2, by omega, s4, ?_, fun k hk => ?_, fun i j h1 h2 => ?_, s8, s9⟩, e2, ⟨rfl, t2, t3, by omega, t5, t6, fun k hk => ?_, t8, t9⟩, ⟨fun k hk => ?_, fun k hk => ?_⟩, e5, fun k hk => ?_, e7⟩
  · rw [upN_e rfl]; omega
  · by_cases e : k = fr - 1
    · rw [upN_e e, e]; omega
    · rw [upN_n e]; exact s6 k hk
  · rw [upN_n (by omega)]; exact s7 i j h1 h2
  · by_cases e : k = fr - 1
    · rw [upd_e e, upN_e e, e]; exact ⟨(t7 (fr - 1) (by omega)).1, rfl⟩
    · rw [upd_n e, upN_n e]; exact t7 k hk
  · by_cases e : k = gb (fr - 1)
    · rw [updL_e e, upA_e e]; exact ⟨rfl, v2⟩
    · rw [updL_n e, upA_n e]; exact w1 k (by omega)
  · by_cases e : k = fr - 1
    · rw [updL_e e, upA_e e]; exact ⟨rfl, v2'⟩
    · rw [updL_n e, upA_n e]; exact w2 k hk
  · by_cases e : k = fr - 1
    · rw [upA_e e]; exact Or.inr ⟨o, ho, hK⟩
    · rw [upA_n e]; exact e6 k hk
end OPS
