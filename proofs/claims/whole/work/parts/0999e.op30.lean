/-! Instruction 30 -/
section PK
variable {N : Nat}
variable {nk : Nat → Nat} {nm : Nat} {nid : Nat} {G : Nat → GO} {lE : List Nat} {gg : Nat → AV} {t : Nat} {gs : Nat → AV} {fr : Nat} {gc : Nat → AV} {hn : Nat} {gb : Nat → Nat} {gf : Nat → Nat} {gr : Nat → Int32} {hF : Nat → Nat} {hH : Nat → Nat} {hP : Nat → Int32} {hD : Nat → Int32} {lR : List Nat} {P_size : Int32} {P_constants : Int32} {P_closed : Int32} {P_open : Int32} {O_size : Int32} {S_top : Int32} {S_frames : Int32} {S_handlers : Int32} {H_globalsUsed : Int32} {H_used : Int32} {H_spareUsed : Int32} {H_old : Int32} {H_oldLeadsToNew : Int32} {H_limit : Int32} {H_every : Int32} {H_fresh : Int32} {H_made : Int32} {H_madeLimit : Int32} {H_reachedFromGlobals : Int32} {H_reachedInAll : Int32} {H_keptGlobalsUsed : Int32} {H_kept : Int32} {B_names : Int32} {Q_size : Int32} {M_status : Int32} {M_place : Int32} {M_next : Int32} {M_fuel : Int32} {M_ticks : Int32} {M_depth : Int32} {M_depthLimit : Int32} {M_done : Int32} {n_P_words : Nat} {f_P_words : Nat → Int32} {n_P_bytes : Nat} {f_P_bytes : Nat → Int32} {n_P_ends : Nat} {f_P_ends : Nat → Int32} {n_O_bytes : Nat} {f_O_bytes : Nat → Int32} {n_S_values : Nat} {f_S_values : Nat → Int64} {n_S_bases : Nat} {f_S_bases : Nat → Int32} {n_S_floors : Nat} {f_S_floors : Nat → Int32} {n_S_returns : Nat} {f_S_returns : Nat → Int32} {n_S_closures : Nat} {f_S_closures : Nat → Int64} {n_S_handlerFrames : Nat} {f_S_handlerFrames : Nat → Int32} {n_S_handlerPlaces : Nat} {f_S_handlerPlaces : Nat → Int32} {n_S_handlerHeights : Nat} {f_S_handlerHeights : Nat → Int32} {n_S_handlerDepths : Nat} {f_S_handlerDepths : Nat → Int32} {n_H_globals : Nat} {f_H_globals : Nat → Int64} {n_H_cells : Nat} {f_H_cells : Nat → Int64} {n_H_spare : Nat} {f_H_spare : Nat → Int64} {n_Q_links : Nat} {f_Q_links : Nat → Int32} {n_Q_pairs : Nat} {f_Q_pairs : Nat → Int64} {I : Nat → Int32} {F : Nat → Nat → Int32}
set_option maxRecDepth 4000 in
set_option maxHeartbeats 4000000 in
theorem op_30 {a wd : Int32} {p L : Nat} (hN : 400000 ≤ N) (he : eR nk nm nid G lE gg t gs fr gc hn gb gf gr hF hH hP hD S_top S_frames S_handlers n_S_values f_S_values n_S_bases f_S_bases n_S_floors f_S_floors n_S_returns f_S_returns n_S_closures f_S_closures n_S_handlerFrames f_S_handlerFrames n_S_handlerPlaces f_S_handlerPlaces n_S_handlerHeights f_S_handlerHeights n_S_handlerDepths f_S_handlerDepths H_globalsUsed H_used H_old H_oldLeadsToNew f_H_globals n_H_cells f_H_cells n_H_spare) (hr : rR nk nm nid G lR gg t gs fr gc hn gb gf gr hF hH hP hD I F) (hx : xR nm M_fuel M_ticks H_made M_depth B_names O_size n_O_bytes f_O_bytes n_Q_links f_Q_links n_Q_pairs n_H_cells I F) (h35 : I 35 = nI p) (hp : p < 262144) (hop : F 14 p = nI 30) (hh : gf (fr - 1) + 2 ≤ t) (h43 : I 43 = nI L) (hL : L ≤ 131072) : opR nm n_H_cells I F (potE n_S_values n_S_bases n_S_handlerFrames n_H_cells n_H_spare n_Q_links n_Q_pairs n_O_bytes) (m_Machine_perform N P_size P_constants P_closed P_open O_size S_top S_frames S_handlers H_globalsUsed H_used H_spareUsed H_old H_oldLeadsToNew (nI L) H_every H_fresh H_made (I 44) H_reachedFromGlobals H_reachedInAll H_keptGlobalsUsed H_kept B_names Q_size M_status (nI p) (nI (p + 1)) M_fuel M_ticks M_depth (I 45) M_done n_P_words f_P_words n_P_bytes f_P_bytes n_P_ends f_P_ends n_O_bytes f_O_bytes n_S_values f_S_values n_S_bases f_S_bases n_S_floors f_S_floors n_S_returns f_S_returns n_S_closures f_S_closures n_S_handlerFrames f_S_handlerFrames n_S_handlerPlaces f_S_handlerPlaces n_S_handlerHeights f_S_handlerHeights n_S_handlerDepths f_S_handlerDepths 2049 f_H_globals n_H_cells f_H_cells n_H_spare f_H_spare n_Q_links f_Q_links n_Q_pairs f_Q_pairs (nI 30) a) (sw N I F a wd) := by
  obtain ⟨q1, q2, q3, qt, qs, qh, qb, qf, q4, q5, q6, q7, q8, q9, qx, qy, qz⟩ := frE he
  obtain ⟨y1, y2, y3, y4, y5⟩ := frR hr q1
  subst qt qs qh
  obtain ⟨v1, v2⟩ := vE he (k := t - 1) (by omega)
  obtain ⟨u1, u2, u3⟩ := vRr hr (k := t - 1) (by omega)
  have hpk := eR_peek (N := N) (k := 0) he (by omega)
  rw [Nat.sub_zero] at hpk
  obtain ⟨hG, hT, hC, hH', hnn⟩ := eR_hp he
  have hkd := kd_E (N := N) hG v2
  have hk8 := kV_8 hG v2
  have hGR := hr.2.2.1
  obtain ⟨v1', v2'⟩ := vE he (k := t - 2) (by omega)
  obtain ⟨u1', u2', u3'⟩ := vRr hr (k := t - 2) (by omega)
  have hpk' := eR_peek (N := N) (k := 1) he (by omega)
  rw [show t - 1 - 1 = t - 2 by omega] at hpk'
  have hkd' := kd_E (N := N) hG v2'
  have hk8' := kV_8 hG v2'
  have hS := isNm_K (N := N) (d := 2) hr (by omega) (by omega) q3
  by_cases hK : kV G (gs (t - 2)) = 1
  · obtain ⟨k, i, hv⟩ := kV_nm hG v2' hK
    obtain ⟨st, l', g', cl', va', c', sp', fresh', old', olt', rG', rA', su', used', top', nC', nSp', cc, ss, a1, a2, a3, a4, a5⟩ := pkt_E (N := N) (H_spareUsed := H_spareUsed) (H_every := H_every) (H_fresh := H_fresh) (H_made := H_made) (H_madeLimit := I 44) (H_reachedFromGlobals := H_reachedFromGlobals) (H_reachedInAll := H_reachedInAll) (H_keptGlobalsUsed := H_keptGlobalsUsed) (H_kept := H_kept) (B_names := B_names) (f_H_spare := f_H_spare) hN he hh hv hL
    obtain ⟨st2, l2, I', F', b1, b2, b3⟩ := pkt_R (N := N) hN hr he.1 hnn hh hv h43 hL
    have e35 : I' 35 = nI p := by rw [b2.1 35 (by omega) (by omega) (by omega) (by omega) (by omega)]; exact h35
    rcases a2 with ⟨rfl, f1, a2⟩ | ⟨rfl, f1, a2⟩
    · rcases b3 with ⟨rfl, f2, b3⟩ | ⟨rfl, f2, b3⟩
      · refine ⟨nI 5, g', Q_size, fresh', H_globalsUsed, H_made, old', olt', rG', rA', su', used', M_depth, M_fuel, (nI (p + 1)), M_ticks, B_names, O_size, (nI fr), (nI hn), top', n_Q_links, f_Q_links, n_Q_pairs, f_Q_pairs, nC', c', nSp', sp', n_O_bytes, f_O_bytes, n_S_bases, f_S_bases, n_S_closures, cl', n_S_floors, f_S_floors, n_S_handlerDepths, f_S_handlerDepths, n_S_handlerFrames, f_S_handlerFrames, n_S_handlerHeights, f_S_handlerHeights, n_S_handlerPlaces, f_S_handlerPlaces, n_S_returns, f_S_returns, n_S_values, va', cc, ss, upd I' 35 (nI (p + 1)), F', ?_, ?_, pst_on a2 (rR_35 b3 _) (xR_c (xR_G hx b2 a3 a4) (fun j hj => upd_n (by omega)) rfl) (by omega) (frm_G b2) (by rw [upd_e rfl]) (by unfold potE; omega)⟩
        · clear a2 b3 he hr hx
          rw [pf_30, a1, bind_s]
          dsimp only
          rw [tk_s, Nat.zero_add, Nat.zero_add]
        · clear a2 b3 he hr hx
          rw [sw_30 (by rw [h35, q_cl (by omega)]; exact hop)]; simp (maxSteps := 2000000) (disch := omega) only [q_o, q_0, q_1, q_2, q_3, q_4, q_5, q_6, q_7, q_8, q_9, q_10, q_11, q_12, q_13, q_14, q_15, q_16, q_17, q_18, q_19, q_20, q_21, q_22, q_23, q_24, q_25, q_26, q_27, q_28, q_29, q_30, q_31, q_32, q_33, q_34, q_35, q_36, q_37, q_38, q_39, q_40, q_41, q_42, q_43, q_44, q_45, q_46, q_47, q_48, q_49, q_50, q_51, q_52, q_53, q_63, q_64, q_126, q_128, q_255, q_512, q_1024, q_1026, q_2000, q_2048, q_2049, q_4095, q_4096, q_8192, q_16383, q_65535, q_65536, q_69632, q_131072, q_132000, q_262144, q_300000, q_1000000, q_lt_t, q_lt_f, q_le_t, q_le_f, q_eq_t, q_eq_f, q_cl, q_add, q_mul, q_sub, q_nle_f, q_nle_t, q_nlt_f, q_nlt_t, q_neq_f, eq_self, q_n1, q_n2, q_m1, q_m1', q_m2, q_m21, q_m0, q_ml, upd_e, upd_n, updL_e, updL_n, updF_e, updF_n, let_d, tk_s, bind_s, or_false, false_or, and_true, true_and, if_true, if_false, ite_true, ite_false, reduceIte, not_true, not_false_iff, Nat.zero_add, Nat.add_zero, Nat.sub_zero, h35, next_5, next_n, ot_30, b1, e35]
      · exact absurd f1 f2
    · rcases b3 with ⟨rfl, f2, b3⟩ | ⟨rfl, f2, b3⟩
      · exact absurd f2 f1
      · refine ⟨nI 3, g', Q_size, fresh', H_globalsUsed, H_made, old', olt', rG', rA', su', used', M_depth, M_fuel, (nI (p + 1)), M_ticks, B_names, O_size, (nI fr), (nI hn), top', n_Q_links, f_Q_links, n_Q_pairs, f_Q_pairs, nC', c', nSp', sp', n_O_bytes, f_O_bytes, n_S_bases, f_S_bases, n_S_closures, cl', n_S_floors, f_S_floors, n_S_handlerDepths, f_S_handlerDepths, n_S_handlerFrames, f_S_handlerFrames, n_S_handlerHeights, f_S_handlerHeights, n_S_handlerPlaces, f_S_handlerPlaces, n_S_returns, f_S_returns, n_S_values, va', cc, ss, I', F', ?_, ?_, ⟨nk, nm, nid, G, l', l2, gg, by omega, a2.2.2.2.2.1, b3.2.2, a2.2.1, xR_G hx b2 a3 a4, frm_G' b2, a2.2.2.1.1.trans b3.1.1.symm, a2.2.2.1.2.1.trans b3.1.2.1.symm, a2.2.2.1.2.2.1.trans b3.1.2.2.1.symm, by unfold potE; omega, Or.inr (Or.inr ⟨Or.inr (Or.inl rfl), by rw [e35, h35]⟩)⟩⟩
        · clear a2 b3 he hr hx
          rw [pf_30, a1, bind_s]
          dsimp only
          rw [tk_s, Nat.zero_add, Nat.zero_add]
        · clear a2 b3 he hr hx
          rw [sw_30 (by rw [h35, q_cl (by omega)]; exact hop)]; simp (maxSteps := 2000000) (disch := omega) only [q_o, q_0, q_1, q_2, q_3, q_4, q_5, q_6, q_7, q_8, q_9, q_10, q_11, q_12, q_13, q_14, q_15, q_16, q_17, q_18, q_19, q_20, q_21, q_22, q_23, q_24, q_25, q_26, q_27, q_28, q_29, q_30, q_31, q_32, q_33, q_34, q_35, q_36, q_37, q_38, q_39, q_40, q_41, q_42, q_43, q_44, q_45, q_46, q_47, q_48, q_49, q_50, q_51, q_52, q_53, q_63, q_64, q_126, q_128, q_255, q_512, q_1024, q_1026, q_2000, q_2048, q_2049, q_4095, q_4096, q_8192, q_16383, q_65535, q_65536, q_69632, q_131072, q_132000, q_262144, q_300000, q_1000000, q_lt_t, q_lt_f, q_le_t, q_le_f, q_eq_t, q_eq_f, q_cl, q_add, q_mul, q_sub, q_nle_f, q_nle_t, q_nlt_f, q_nlt_t, q_neq_f, eq_self, q_n1, q_n2, q_m1, q_m1', q_m2, q_m21, q_m0, q_ml, upd_e, upd_n, updL_e, updL_n, updF_e, updF_n, let_d, tk_s, bind_s, or_false, false_or, and_true, true_and, if_true, if_false, ite_true, ite_false, reduceIte, not_true, not_false_iff, Nat.zero_add, Nat.add_zero, Nat.sub_zero, h35, next_5, next_n, ot_30, b1]
  · rw [if_neg hK] at hS
    have hp := packet_F hS
    refine ⟨nI 4, f_H_globals, Q_size, H_fresh, H_globalsUsed, H_made, H_old, H_oldLeadsToNew, H_reachedFromGlobals, H_reachedInAll, H_spareUsed, H_used, M_depth, M_fuel, (nI (p + 1)), M_ticks, B_names, O_size, (nI fr), (nI hn), (nI t), n_Q_links, f_Q_links, n_Q_pairs, f_Q_pairs, n_H_cells, f_H_cells, n_H_spare, f_H_spare, n_O_bytes, f_O_bytes, n_S_bases, f_S_bases, n_S_closures, f_S_closures, n_S_floors, f_S_floors, n_S_handlerDepths, f_S_handlerDepths, n_S_handlerFrames, f_S_handlerFrames, n_S_handlerHeights, f_S_handlerHeights, n_S_handlerPlaces, f_S_handlerPlaces, n_S_returns, f_S_returns, n_S_values, f_S_values, 0, 0, I, F, ?_, ?_, pst_same (by omega) he hr hx⟩
    · clear hr hx he
      rw [pf_30]
      unfold m_Objects_packet
      have hpk1 : m_Stacks_peek N (nI t) (nI fr) (nI hn) n_S_values f_S_values 1 = some (wE G lE (gs (t - 2))) := hpk'
      have hne : ¬ nI (kV G (gs (t - 2))) = 1 := by
        show ¬ nI (kV G (gs (t - 2))) = nI 1
        rw [q_eq_f hK (by omega) (by omega)]
        exact id
      rw [hpk1, bind_s, hkd', bind_s, if_neg hne]
      rfl
    · clear hr hx he
      rw [sw_30 (by rw [h35, q_cl (by omega)]; exact hop)]; simp (maxSteps := 2000000) (disch := omega) only [q_o, q_0, q_1, q_2, q_3, q_4, q_5, q_6, q_7, q_8, q_9, q_10, q_11, q_12, q_13, q_14, q_15, q_16, q_17, q_18, q_19, q_20, q_21, q_22, q_23, q_24, q_25, q_26, q_27, q_28, q_29, q_30, q_31, q_32, q_33, q_34, q_35, q_36, q_37, q_38, q_39, q_40, q_41, q_42, q_43, q_44, q_45, q_46, q_47, q_48, q_49, q_50, q_51, q_52, q_53, q_63, q_64, q_126, q_128, q_255, q_512, q_1024, q_1026, q_2000, q_2048, q_2049, q_4095, q_4096, q_8192, q_16383, q_65535, q_65536, q_69632, q_131072, q_132000, q_262144, q_300000, q_1000000, q_lt_t, q_lt_f, q_le_t, q_le_f, q_eq_t, q_eq_f, q_cl, q_add, q_mul, q_sub, q_nle_f, q_nle_t, q_nlt_f, q_nlt_t, q_neq_f, eq_self, q_n1, q_n2, q_m1, q_m1', q_m2, q_m21, q_m0, q_ml, upd_e, upd_n, updL_e, updL_n, updF_e, updF_n, let_d, tk_s, bind_s, or_false, false_or, and_true, true_and, if_true, if_false, ite_true, ite_false, reduceIte, not_true, not_false_iff, Nat.zero_add, Nat.add_zero, Nat.sub_zero, h35, next_5, next_n, ot_30, hp]
end PK
