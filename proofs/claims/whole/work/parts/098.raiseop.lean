/-! Raising, on both sides -/
section RS
variable {N : Nat}
variable {nk : Nat → Nat} {nm : Nat} {nid : Nat} {G : Nat → GO} {lE : List Nat} {gg : Nat → AV} {t : Nat} {gs : Nat → AV} {fr : Nat} {gc : Nat → AV} {hn : Nat} {gb : Nat → Nat} {gf : Nat → Nat} {gr : Nat → Int32} {hF : Nat → Nat} {hH : Nat → Nat} {hP : Nat → Int32} {hD : Nat → Int32} {lR : List Nat} {P_size : Int32} {P_constants : Int32} {P_closed : Int32} {P_open : Int32} {O_size : Int32} {S_top : Int32} {S_frames : Int32} {S_handlers : Int32} {H_globalsUsed : Int32} {H_used : Int32} {H_spareUsed : Int32} {H_old : Int32} {H_oldLeadsToNew : Int32} {H_limit : Int32} {H_every : Int32} {H_fresh : Int32} {H_made : Int32} {H_madeLimit : Int32} {H_reachedFromGlobals : Int32} {H_reachedInAll : Int32} {H_keptGlobalsUsed : Int32} {H_kept : Int32} {B_names : Int32} {Q_size : Int32} {M_status : Int32} {M_place : Int32} {M_next : Int32} {M_fuel : Int32} {M_ticks : Int32} {M_depth : Int32} {M_depthLimit : Int32} {M_done : Int32} {n_P_words : Nat} {f_P_words : Nat → Int32} {n_P_bytes : Nat} {f_P_bytes : Nat → Int32} {n_P_ends : Nat} {f_P_ends : Nat → Int32} {n_O_bytes : Nat} {f_O_bytes : Nat → Int32} {n_S_values : Nat} {f_S_values : Nat → Int64} {n_S_bases : Nat} {f_S_bases : Nat → Int32} {n_S_floors : Nat} {f_S_floors : Nat → Int32} {n_S_returns : Nat} {f_S_returns : Nat → Int32} {n_S_closures : Nat} {f_S_closures : Nat → Int64} {n_S_handlerFrames : Nat} {f_S_handlerFrames : Nat → Int32} {n_S_handlerPlaces : Nat} {f_S_handlerPlaces : Nat → Int32} {n_S_handlerHeights : Nat} {f_S_handlerHeights : Nat → Int32} {n_S_handlerDepths : Nat} {f_S_handlerDepths : Nat → Int32} {n_H_globals : Nat} {f_H_globals : Nat → Int64} {n_H_cells : Nat} {f_H_cells : Nat → Int64} {n_H_spare : Nat} {f_H_spare : Nat → Int64} {n_Q_links : Nat} {f_Q_links : Nat → Int32} {n_Q_pairs : Nat} {f_Q_pairs : Nat → Int64} {I : Nat → Int32} {F : Nat → Nat → Int32}
theorem rend_lt {k : Nat} (hs : shp t fr hn gb gf hF hH) (hn0 : 1 ≤ hn) (hk : 1 ≤ k) (hkt : gf (fr - 1) + k ≤ t) : rEnd t k fr (hF (hn - 1)) gb < t ∧ hF (hn - 1) < fr ∧ gf (hF (hn - 1)) ≤ t ∧ hH (hn - 1) ≤ 65536 ∧ gb (hF (hn - 1)) ≤ gf (hF (hn - 1)) ∧ (hF (hn - 1) ≠ fr - 1 → gb (hF (hn - 1) + 1) ≤ 65536) := by
  obtain ⟨s1, s2, s3, s4, s5, s6, s7, s8, s9⟩ := hs
  obtain ⟨a1, a2⟩ := s8 (hn - 1) (by omega)
  have a3 := s6 (hF (hn - 1)) a1
  have a4 := s6 (fr - 1) (by omega)
  unfold rEnd
  by_cases e : hF (hn - 1) = fr - 1
  · rw [if_pos e]
    rw [e] at a3 ⊢
    exact ⟨by omega, by omega, by omega, a2, a3, fun h => absurd rfl h⟩
  · rw [if_neg e]
    have b1 := s7 (hF (hn - 1)) (fr - 1) (by omega) (by omega)
    have b2 : gb (hF (hn - 1) + 1) ≤ gf (fr - 1) := by
      by_cases e2 : hF (hn - 1) + 1 = fr - 1
      · rw [e2]; exact a4
      · have c1 := s6 (hF (hn - 1) + 1) (by omega)
        have c2 := s7 (hF (hn - 1) + 1) (fr - 1) (by omega) (by omega)
        omega
    exact ⟨by omega, a1, by omega, a2, a3, fun _ => by omega⟩
theorem eR_unw {v : AV} {k : Nat} (he : eR nk nm nid G lE gg t gs fr gc hn gb gf gr hF hH hP hD S_top S_frames S_handlers n_S_values f_S_values n_S_bases f_S_bases n_S_floors f_S_floors n_S_returns f_S_returns n_S_closures f_S_closures n_S_handlerFrames f_S_handlerFrames n_S_handlerPlaces f_S_handlerPlaces n_S_handlerHeights f_S_handlerHeights n_S_handlerDepths f_S_handlerDepths H_globalsUsed H_used H_old H_oldLeadsToNew f_H_globals n_H_cells f_H_cells n_H_spare) (hn0 : 1 ≤ hn) (hk : 1 ≤ k) (hkt : gf (fr - 1) + k ≤ t) (hv : okV nk nm lE v) (hle : gf (hF (hn - 1)) + hH (hn - 1) ≤ rEnd t k fr (hF (hn - 1)) gb) : eR nk nm nid G lE gg (gf (hF (hn - 1)) + hH (hn - 1) + 1) (upA gs (gf (hF (hn - 1)) + hH (hn - 1)) v) (hF (hn - 1) + 1) gc (hn - 1) gb gf gr hF hH hP hD (nI (gf (hF (hn - 1)) + hH (hn - 1) + 1)) (nI (hF (hn - 1) + 1)) (nI (hn - 1)) n_S_values (vp_updL f_S_values (gf (hF (hn - 1)) + hH (hn - 1)) (wE G lE v)) n_S_bases f_S_bases n_S_floors f_S_floors n_S_returns f_S_returns n_S_closures f_S_closures n_S_handlerFrames f_S_handlerFrames n_S_handlerPlaces f_S_handlerPlaces n_S_handlerHeights f_S_handlerHeights n_S_handlerDepths f_S_handlerDepths H_globalsUsed H_used H_old H_oldLeadsToNew f_H_globals n_H_cells f_H_cells n_H_spare := by
  have hr0 := rend_lt he.1 hn0 hk hkt
  obtain ⟨⟨s1, s2, s3, s4, s5, s6, s7, s8, s9⟩, e2, ⟨t1, t2, t3, t4, t5, t6, t7, t8, t9⟩, ⟨w1, w2⟩, e5, e6, e7⟩ := he
  refine ⟨⟨by omega, by omega, by omega, by omega, ?_, fun k hk => s6 k (by omega), fun i j h1 h2 => s7 i j h1 (by omega), fun j hj => ⟨?_, (s8 j (by omega)).2⟩, fun i j h1 h2 => s9 i j h1 (by omega)⟩, e2, ⟨rfl, rfl, rfl, by omega, by omega, by omega, fun k hk => t7 k (by omega), fun k h1 hk => t8 k h1 (by omega), fun j hj => t9 j (by omega)⟩, ⟨fun j hj => ?_, fun j hj => w2 j (by omega)⟩, e5, fun j hj => e6 j (by omega), e7⟩
  · rw [show hF (hn - 1) + 1 - 1 = hF (hn - 1) by omega]; omega
  · have := s9 j (hn - 1) (by omega) (by omega); omega
  · by_cases e : j = gf (hF (hn - 1)) + hH (hn - 1)
    · rw [updL_e e, upA_e e]; exact ⟨rfl, hv⟩
    · rw [updL_n e, upA_n e]; exact w1 j (by omega)
theorem rR_unw {v : AV} {k : Nat} (hr : rR nk nm nid G lR gg t gs fr gc hn gb gf gr hF hH hP hD I F) (hs : shp t fr hn gb gf hF hH) (hn0 : 1 ≤ hn) (hk : 1 ≤ k) (hkt : gf (fr - 1) + k ≤ t) (hv : okV nk nm lR v) (hle : gf (hF (hn - 1)) + hH (hn - 1) ≤ rEnd t k fr (hF (hn - 1)) gb) : rR nk nm nid G lR gg (gf (hF (hn - 1)) + hH (hn - 1) + 1) (upA gs (gf (hF (hn - 1)) + hH (hn - 1)) v) (hF (hn - 1) + 1) gc (hn - 1) gb gf gr hF hH hP hD (upd (upd (upd (upd (upd (upd I 30 (nI (hn - 1))) 22 (nI (hF (hn - 1) + 1))) 29 (nI (gf (hF (hn - 1)) + hH (hn - 1)))) 39 (hD (hn - 1))) 35 (hP (hn - 1))) 29 (nI (gf (hF (hn - 1)) + hH (hn - 1) + 1))) (updF (updF F 27 (upd (F 27) (gf (hF (hn - 1)) + hH (hn - 1)) (tR v))) 28 (upd (F 28) (gf (hF (hn - 1)) + hH (hn - 1)) (vR G lR v))) := by
  have hr0 := rend_lt hs hn0 hk hkt
  obtain ⟨⟨a1, a2, a3, a4, a5, a6, a7, a8⟩, ⟨b1, b2⟩, c⟩ := hr
  have hI : ∀ j, j ≠ 30 → j ≠ 22 → j ≠ 29 → j ≠ 39 → j ≠ 35 → (upd (upd (upd (upd (upd (upd I 30 (nI (hn - 1))) 22 (nI (hF (hn - 1) + 1))) 29 (nI (gf (hF (hn - 1)) + hH (hn - 1)))) 39 (hD (hn - 1))) 35 (hP (hn - 1))) 29 (nI (gf (hF (hn - 1)) + hH (hn - 1) + 1))) j = I j := by
    intro j h1 h2 h3 h4 h5
    rw [upd_n h3, upd_n h5, upd_n h4, upd_n h3, upd_n h2, upd_n h1]
  have hFF : ∀ j, j ≠ 27 → j ≠ 28 → (updF (updF F 27 (upd (F 27) (gf (hF (hn - 1)) + hH (hn - 1)) (tR v))) 28 (upd (F 28) (gf (hF (hn - 1)) + hH (hn - 1)) (vR G lR v))) j = F j := by
    intro j h1 h2
    rw [updF_n h2, updF_n h1]
  refine ⟨⟨upd_e rfl, ?_, ?_, fun j hj => ?_, fun j h1 hj => ?_, fun j hj => ?_, ?_, ?_⟩, ⟨fun j hj => ?_, fun j hj => ?_⟩, hpR_c c (fun j hj => hI j (by omega) (by omega) (by omega) (by omega) (by omega)) (fun j hj => hFF j (by omega) (by omega))⟩
  · rw [upd_n (by omega), upd_n (by omega), upd_n (by omega), upd_n (by omega), upd_e rfl]
  · rw [upd_n (by omega), upd_n (by omega), upd_n (by omega), upd_n (by omega), upd_n (by omega), upd_e rfl]
  · rw [hFF 24 (by omega) (by omega), hFF 25 (by omega) (by omega)]; exact a4 j (by omega)
  · rw [hFF 26 (by omega) (by omega)]; exact a5 j h1 (by omega)
  · rw [hFF 31 (by omega) (by omega), hFF 32 (by omega) (by omega), hFF 33 (by omega) (by omega), hFF 34 (by omega) (by omega)]; exact a6 j (by omega)
  · rw [hI 20 (by omega) (by omega) (by omega) (by omega) (by omega)]; exact a7
  · rw [hI 21 (by omega) (by omega) (by omega) (by omega) (by omega)]; exact a8
  · rw [updF_n (show (27 : Nat) ≠ 28 by omega), updF_e rfl, updF_e rfl]
    by_cases e : j = gf (hF (hn - 1)) + hH (hn - 1)
    · rw [upd_e e, upd_e e, upA_e e]; exact ⟨hv, rfl, rfl⟩
    · rw [upd_n e, upd_n e, upA_n e]; exact b1 j (by omega)
  · rw [hFF 23 (by omega) (by omega)]; exact b2 j (by omega)
theorem raise_E0 {t fr k : Nat} {w : Int64} (hk : k ≤ t) (ht : t ≤ 65536) : m_Machine_raise N (nI t) (nI fr) (nI 0) H_globalsUsed H_used H_spareUsed H_old H_oldLeadsToNew H_limit H_every H_fresh H_made H_madeLimit H_reachedFromGlobals H_reachedInAll H_keptGlobalsUsed H_kept M_status M_place M_next M_fuel M_ticks M_depth M_depthLimit M_done n_S_values f_S_values n_S_bases f_S_bases n_S_floors f_S_floors n_S_handlerFrames f_S_handlerFrames n_S_handlerPlaces f_S_handlerPlaces n_S_handlerHeights f_S_handlerHeights n_S_handlerDepths f_S_handlerDepths 2049 f_H_globals w (nI k) = some (nI 1, vp_updL f_H_globals 2048 w, f_S_values, M_depth, M_next, nI fr, nI 0, nI (t - k)) := by
  have h : nI 0 = (0 : Int32) := rfl
  unfold m_Machine_raise
  rw [if_pos h]
  simp (disch := omega) only [q_o, q_0, q_1, q_2, q_3, q_4, q_5, q_6, q_7, q_8, q_9, q_10, q_11, q_12, q_13, q_14, q_15, q_16, q_17, q_18, q_19, q_20, q_21, q_22, q_23, q_24, q_25, q_26, q_27, q_28, q_29, q_30, q_31, q_32, q_33, q_34, q_35, q_36, q_37, q_38, q_39, q_40, q_41, q_42, q_43, q_44, q_45, q_46, q_47, q_48, q_49, q_50, q_51, q_52, q_53, q_63, q_64, q_126, q_128, q_255, q_512, q_1024, q_1026, q_2000, q_2048, q_2049, q_4095, q_4096, q_8192, q_16383, q_65535, q_65536, q_69632, q_131072, q_132000, q_262144, q_300000, q_1000000, q_lt_t, q_lt_f, q_le_t, q_le_f, q_eq_t, q_eq_f, q_cl, q_add, q_mul, q_sub, q_nle_f, q_nle_t, q_nlt_f, q_nlt_t, q_neq_f, eq_self, q_n1, q_n2, q_m1, q_m1', q_m2, q_m21, q_m0, q_ml, upd_e, upd_n, updL_e, updL_n, updF_e, updF_n, let_d, tk_s, bind_s, or_false, false_or, and_true, true_and, if_true, if_false, ite_true, ite_false, reduceIte, not_true, not_false_iff, Nat.zero_add, Nat.add_zero, Nat.sub_zero]
theorem raise_E1 {k : Nat} {v : AV} (he : eR nk nm nid G lE gg t gs fr gc hn gb gf gr hF hH hP hD S_top S_frames S_handlers n_S_values f_S_values n_S_bases f_S_bases n_S_floors f_S_floors n_S_returns f_S_returns n_S_closures f_S_closures n_S_handlerFrames f_S_handlerFrames n_S_handlerPlaces f_S_handlerPlaces n_S_handlerHeights f_S_handlerHeights n_S_handlerDepths f_S_handlerDepths H_globalsUsed H_used H_old H_oldLeadsToNew f_H_globals n_H_cells f_H_cells n_H_spare) (hn0 : 1 ≤ hn) (hk : 1 ≤ k) (hkt : gf (fr - 1) + k ≤ t) : m_Machine_raise N S_top S_frames S_handlers H_globalsUsed H_used H_spareUsed H_old H_oldLeadsToNew H_limit H_every H_fresh H_made H_madeLimit H_reachedFromGlobals H_reachedInAll H_keptGlobalsUsed H_kept M_status M_place M_next M_fuel M_ticks M_depth M_depthLimit M_done n_S_values f_S_values n_S_bases f_S_bases n_S_floors f_S_floors n_S_handlerFrames f_S_handlerFrames n_S_handlerPlaces f_S_handlerPlaces n_S_handlerHeights f_S_handlerHeights n_S_handlerDepths f_S_handlerDepths 2049 f_H_globals (wE G lE v) (nI k) = if gf (hF (hn - 1)) + hH (hn - 1) ≤ rEnd t k fr (hF (hn - 1)) gb then some (nI 5, f_H_globals, vp_updL f_S_values (gf (hF (hn - 1)) + hH (hn - 1)) (wE G lE v), hD (hn - 1), hP (hn - 1), nI (hF (hn - 1) + 1), nI (hn - 1), nI (gf (hF (hn - 1)) + hH (hn - 1) + 1)) else some (nI 4, f_H_globals, f_S_values, M_depth, M_next, nI fr, nI hn, nI t) := by
  have hr0 := rend_lt he.1 hn0 hk hkt
  obtain ⟨⟨s1, s2, s3, s4, s5, s6, s7, s8, s9⟩, ⟨l1, l2, l3, l4, l5, l6, l7, l8, l9, l10, l11, l12, l13⟩, ⟨t1, t2, t3, t4, t5, t6, t7, t8, t9⟩, e4⟩ := he
  subst t1 t2 t3
  obtain ⟨x1, x2, x3, x4⟩ := t9 (hn - 1) (by omega)
  have x5 := (t7 (hF (hn - 1)) (by omega)).2
  have hu := unwind_E (N := N) (fV := f_S_values) (w := wE G lE v) (nV := n_S_values) (nB := n_S_bases) (nHF := n_S_handlerFrames) (k := k) (t := t) hn0 t6 l9 x1 hr0.2.1 t5 l4 x5 x3 (by omega) hr0.2.2.2.1 (fun h => ⟨(t7 (hF (hn - 1) + 1) (by omega)).1, hr0.2.2.2.2.2 h⟩) (by omega) s3 (by omega) l2
  rw [l5, l11]
  have hne : ¬ nI hn = (0 : Int32) := by
    show ¬ nI hn = nI 0
    rw [q_eq_f (by omega) (by omega) (by omega)]
    exact id
  unfold m_Machine_raise
  rw [if_neg hne, hu]
  by_cases hle : gf (hF (hn - 1)) + hH (hn - 1) ≤ rEnd t k fr (hF (hn - 1)) gb
  · rw [if_pos hle, if_pos hle]
    simp (disch := omega) only [q_o, q_0, q_1, q_2, q_3, q_4, q_5, q_6, q_7, q_8, q_9, q_10, q_11, q_12, q_13, q_14, q_15, q_16, q_17, q_18, q_19, q_20, q_21, q_22, q_23, q_24, q_25, q_26, q_27, q_28, q_29, q_30, q_31, q_32, q_33, q_34, q_35, q_36, q_37, q_38, q_39, q_40, q_41, q_42, q_43, q_44, q_45, q_46, q_47, q_48, q_49, q_50, q_51, q_52, q_53, q_63, q_64, q_126, q_128, q_255, q_512, q_1024, q_1026, q_2000, q_2048, q_2049, q_4095, q_4096, q_8192, q_16383, q_65535, q_65536, q_69632, q_131072, q_132000, q_262144, q_300000, q_1000000, q_lt_t, q_lt_f, q_le_t, q_le_f, q_eq_t, q_eq_f, q_cl, q_add, q_mul, q_sub, q_nle_f, q_nle_t, q_nlt_f, q_nlt_t, q_neq_f, eq_self, q_n1, q_n2, q_m1, q_m1', q_m2, q_m21, q_m0, q_ml, upd_e, upd_n, updL_e, updL_n, updF_e, updF_n, let_d, tk_s, bind_s, or_false, false_or, and_true, true_and, if_true, if_false, ite_true, ite_false, reduceIte, not_true, not_false_iff, Nat.zero_add, Nat.add_zero, Nat.sub_zero, m_Machine_goOn, x2, x4]
  · rw [if_neg hle, if_neg hle]
    simp (disch := omega) only [q_o, q_0, q_1, q_2, q_3, q_4, q_5, q_6, q_7, q_8, q_9, q_10, q_11, q_12, q_13, q_14, q_15, q_16, q_17, q_18, q_19, q_20, q_21, q_22, q_23, q_24, q_25, q_26, q_27, q_28, q_29, q_30, q_31, q_32, q_33, q_34, q_35, q_36, q_37, q_38, q_39, q_40, q_41, q_42, q_43, q_44, q_45, q_46, q_47, q_48, q_49, q_50, q_51, q_52, q_53, q_63, q_64, q_126, q_128, q_255, q_512, q_1024, q_1026, q_2000, q_2048, q_2049, q_4095, q_4096, q_8192, q_16383, q_65535, q_65536, q_69632, q_131072, q_132000, q_262144, q_300000, q_1000000, q_lt_t, q_lt_f, q_le_t, q_le_f, q_eq_t, q_eq_f, q_cl, q_add, q_mul, q_sub, q_nle_f, q_nle_t, q_nlt_f, q_nlt_t, q_neq_f, eq_self, q_n1, q_n2, q_m1, q_m1', q_m2, q_m21, q_m0, q_ml, upd_e, upd_n, updL_e, updL_n, updF_e, updF_n, let_d, tk_s, bind_s, or_false, false_or, and_true, true_and, if_true, if_false, ite_true, ite_false, reduceIte, not_true, not_false_iff, Nat.zero_add, Nat.add_zero, Nat.sub_zero]
end RS
