/-! Instructions: handlers and frames -/
section OPS
variable {N : Nat}
variable {nk : Nat → Nat} {nm : Nat} {nid : Nat} {G : Nat → GO} {lE : List Nat} {gg : Nat → AV} {t : Nat} {gs : Nat → AV} {fr : Nat} {gc : Nat → AV} {hn : Nat} {gb : Nat → Nat} {gf : Nat → Nat} {gr : Nat → Int32} {hF : Nat → Nat} {hH : Nat → Nat} {hP : Nat → Int32} {hD : Nat → Int32} {lR : List Nat} {P_size : Int32} {P_constants : Int32} {P_closed : Int32} {P_open : Int32} {O_size : Int32} {S_top : Int32} {S_frames : Int32} {S_handlers : Int32} {H_globalsUsed : Int32} {H_used : Int32} {H_spareUsed : Int32} {H_old : Int32} {H_oldLeadsToNew : Int32} {H_limit : Int32} {H_every : Int32} {H_fresh : Int32} {H_made : Int32} {H_madeLimit : Int32} {H_reachedFromGlobals : Int32} {H_reachedInAll : Int32} {H_keptGlobalsUsed : Int32} {H_kept : Int32} {B_names : Int32} {Q_size : Int32} {M_status : Int32} {M_place : Int32} {M_next : Int32} {M_fuel : Int32} {M_ticks : Int32} {M_depth : Int32} {M_depthLimit : Int32} {M_done : Int32} {n_P_words : Nat} {f_P_words : Nat → Int32} {n_P_bytes : Nat} {f_P_bytes : Nat → Int32} {n_P_ends : Nat} {f_P_ends : Nat → Int32} {n_O_bytes : Nat} {f_O_bytes : Nat → Int32} {n_S_values : Nat} {f_S_values : Nat → Int64} {n_S_bases : Nat} {f_S_bases : Nat → Int32} {n_S_floors : Nat} {f_S_floors : Nat → Int32} {n_S_returns : Nat} {f_S_returns : Nat → Int32} {n_S_closures : Nat} {f_S_closures : Nat → Int64} {n_S_handlerFrames : Nat} {f_S_handlerFrames : Nat → Int32} {n_S_handlerPlaces : Nat} {f_S_handlerPlaces : Nat → Int32} {n_S_handlerHeights : Nat} {f_S_handlerHeights : Nat → Int32} {n_S_handlerDepths : Nat} {f_S_handlerDepths : Nat → Int32} {n_H_globals : Nat} {f_H_globals : Nat → Int64} {n_H_cells : Nat} {f_H_cells : Nat → Int64} {n_H_spare : Nat} {f_H_spare : Nat → Int64} {n_Q_links : Nat} {f_Q_links : Nat → Int32} {n_Q_pairs : Nat} {f_Q_pairs : Nat → Int64} {I : Nat → Int32} {F : Nat → Nat → Int32}
theorem addH_E {t fr hn nF nHF hgt : Nat} {fFl f1 f2 f3 f4 : Nat → Int32} {pl dp : Int32} (h0 : hn < 1024) (hf1 : 1 ≤ fr) (hf2 : fr ≤ 8192) (h1 : hn ≤ nHF) (h2 : 16 ≤ nHF) (h3 : nHF ≤ 1024) (hh : m_Stacks_height N (nI t) (nI fr) (nI hn) nF fFl = some (nI hgt)) :
    ∃ (n' : Nat) (fD fF fH fP : Nat → Int32) (c s : Nat), m_Stacks_addHandler N (nI t) (nI fr) (nI hn) nF fFl nHF f1 nHF f2 nHF f3 nHF f4 pl dp = some ((nI 5, nI (hn + 1), n', fD, n', fF, n', fH, n', fP), c, s) ∧ hn + 1 ≤ n' ∧ 16 ≤ n' ∧ n' ≤ 1024 ∧ (∀ k, k < hn → fD k = f4 k ∧ fF k = f1 k ∧ fH k = f3 k ∧ fP k = f2 k) ∧ fD hn = dp ∧ fF hn = nI (fr - 1) ∧ fH hn = nI hgt ∧ fP hn = pl ∧ s + 150 * c + 4 * pot 1024 nHF ≤ 4 * pot 1024 n' := by
  by_cases hlt : hn < nHF
  · refine ⟨nHF, upd f4 hn dp, upd f1 hn (nI (fr - 1)), upd f3 hn (nI hgt), upd f2 hn pl, 0, 0, ?_, by omega, h2, h3, fun k hk => ⟨upd_n (by omega), upd_n (by omega), upd_n (by omega), upd_n (by omega)⟩, upd_e rfl, upd_e rfl, upd_e rfl, upd_e rfl, by omega⟩
    unfold m_Stacks_addHandler
    simp (disch := omega) only [q_o, q_0, q_1, q_2, q_3, q_4, q_5, q_6, q_7, q_8, q_9, q_10, q_11, q_12, q_13, q_14, q_15, q_16, q_17, q_18, q_19, q_20, q_21, q_22, q_23, q_24, q_25, q_26, q_27, q_28, q_29, q_30, q_31, q_32, q_33, q_34, q_35, q_36, q_37, q_38, q_39, q_40, q_41, q_42, q_43, q_44, q_45, q_46, q_47, q_48, q_49, q_50, q_51, q_52, q_53, q_63, q_64, q_126, q_128, q_255, q_512, q_1024, q_1026, q_2000, q_2048, q_2049, q_4095, q_4096, q_8192, q_16383, q_65535, q_65536, q_69632, q_131072, q_132000, q_262144, q_300000, q_1000000, q_lt_t, q_lt_f, q_le_t, q_le_f, q_eq_t, q_eq_f, q_cl, q_add, q_mul, q_sub, q_nle_f, q_nle_t, q_nlt_f, q_nlt_t, q_neq_f, eq_self, q_n1, q_n2, q_m1, q_m1', q_m2, q_m21, q_m0, q_ml, upd_e, upd_n, updL_e, updL_n, updF_e, updF_n, let_d, tk_s, bind_s, or_false, false_or, and_true, true_and, if_true, if_false, ite_true, ite_false, reduceIte, not_true, not_false_iff, Nat.zero_add, Nat.add_zero, Nat.sub_zero, hh]
  · have hl := longer_E (N := N) (n := nHF) (need := hn + 1) (m := 1024) (by omega) (by omega) (by omega)
    have hc := fun f : Nat → Int32 => copyI_E (N := N) (n := nHF) (m := min 1024 (max (hn + 1) (2 * nHF))) (f := f) (by omega) (by omega)
    have hp := pot_new (n := nHF) (m := 1024) (k := min 1024 (max (hn + 1) (2 * nHF))) (by omega) (by omega)
    have hM1 : hn + 1 ≤ min 1024 (max (hn + 1) (2 * nHF)) := by omega
    have hM2 : 16 ≤ min 1024 (max (hn + 1) (2 * nHF)) := by omega
    have hM3 : min 1024 (max (hn + 1) (2 * nHF)) ≤ 1024 := by omega
    revert hl hc hp hM1 hM2 hM3
    generalize min 1024 (max (hn + 1) (2 * nHF)) = M
    intro hl hc hp hM1 hM2 hM3
    refine ⟨M, upd (va_cpy f4 (fun _ => 0) 0 0 nHF) hn dp, upd (va_cpy f1 (fun _ => 0) 0 0 nHF) hn (nI (fr - 1)), upd (va_cpy f3 (fun _ => 0) 0 0 nHF) hn (nI hgt), upd (va_cpy f2 (fun _ => 0) 0 0 nHF) hn pl, 4, M + M + M + M, ?_, hM1, hM2, hM3, fun k hk => ⟨?_, ?_, ?_, ?_⟩, upd_e rfl, upd_e rfl, upd_e rfl, upd_e rfl, by omega⟩
    · unfold m_Stacks_addHandler m_Stacks_widenHandlers
      simp (disch := omega) only [q_o, q_0, q_1, q_2, q_3, q_4, q_5, q_6, q_7, q_8, q_9, q_10, q_11, q_12, q_13, q_14, q_15, q_16, q_17, q_18, q_19, q_20, q_21, q_22, q_23, q_24, q_25, q_26, q_27, q_28, q_29, q_30, q_31, q_32, q_33, q_34, q_35, q_36, q_37, q_38, q_39, q_40, q_41, q_42, q_43, q_44, q_45, q_46, q_47, q_48, q_49, q_50, q_51, q_52, q_53, q_63, q_64, q_126, q_128, q_255, q_512, q_1024, q_1026, q_2000, q_2048, q_2049, q_4095, q_4096, q_8192, q_16383, q_65535, q_65536, q_69632, q_131072, q_132000, q_262144, q_300000, q_1000000, q_lt_t, q_lt_f, q_le_t, q_le_f, q_eq_t, q_eq_f, q_cl, q_add, q_mul, q_sub, q_nle_f, q_nle_t, q_nlt_f, q_nlt_t, q_neq_f, eq_self, q_n1, q_n2, q_m1, q_m1', q_m2, q_m21, q_m0, q_ml, upd_e, upd_n, updL_e, updL_n, updF_e, updF_n, let_d, tk_s, bind_s, or_false, false_or, and_true, true_and, if_true, if_false, ite_true, ite_false, reduceIte, not_true, not_false_iff, Nat.zero_add, Nat.add_zero, Nat.sub_zero, hh, hl, hc]
    · rw [upd_n (by omega), cpy_lt (by omega)]
    · rw [upd_n (by omega), cpy_lt (by omega)]
    · rw [upd_n (by omega), cpy_lt (by omega)]
    · rw [upd_n (by omega), cpy_lt (by omega)]
set_option maxRecDepth 4000 in
set_option maxHeartbeats 4000000 in
theorem op_26 {a wd : Int32} {p L : Nat} (hN : 400000 ≤ N) (he : eR nk nm nid G lE gg t gs fr gc hn gb gf gr hF hH hP hD S_top S_frames S_handlers n_S_values f_S_values n_S_bases f_S_bases n_S_floors f_S_floors n_S_returns f_S_returns n_S_closures f_S_closures n_S_handlerFrames f_S_handlerFrames n_S_handlerPlaces f_S_handlerPlaces n_S_handlerHeights f_S_handlerHeights n_S_handlerDepths f_S_handlerDepths H_globalsUsed H_used H_old H_oldLeadsToNew f_H_globals n_H_cells f_H_cells n_H_spare) (hr : rR nk nm nid G lR gg t gs fr gc hn gb gf gr hF hH hP hD I F) (hx : xR nm M_fuel M_ticks H_made M_depth B_names O_size n_O_bytes f_O_bytes n_Q_links f_Q_links n_Q_pairs n_H_cells I F) (h35 : I 35 = nI p) (hp : p < 262144) (hop : F 14 p = nI 26) (hh : gf (fr - 1) + 0 ≤ t) (h43 : I 43 = nI L) (hL : L ≤ 131072) : opR nm n_H_cells I F (potE n_S_values n_S_bases n_S_handlerFrames n_H_cells n_H_spare n_Q_links n_Q_pairs n_O_bytes) (m_Machine_perform N P_size P_constants P_closed P_open O_size S_top S_frames S_handlers H_globalsUsed H_used H_spareUsed H_old H_oldLeadsToNew (nI L) H_every H_fresh H_made (I 44) H_reachedFromGlobals H_reachedInAll H_keptGlobalsUsed H_kept B_names Q_size M_status (nI p) (nI (p + 2)) M_fuel M_ticks M_depth (I 45) M_done n_P_words f_P_words n_P_bytes f_P_bytes n_P_ends f_P_ends n_O_bytes f_O_bytes n_S_values f_S_values n_S_bases f_S_bases n_S_floors f_S_floors n_S_returns f_S_returns n_S_closures f_S_closures n_S_handlerFrames f_S_handlerFrames n_S_handlerPlaces f_S_handlerPlaces n_S_handlerHeights f_S_handlerHeights n_S_handlerDepths f_S_handlerDepths 2049 f_H_globals n_H_cells f_H_cells n_H_spare f_H_spare n_Q_links f_Q_links n_Q_pairs f_Q_pairs (nI 26) a) (sw N I F a wd) := by
  obtain ⟨q1, q2, q3, qt, qs, qh, qb, qf, q4, q5, q6, q7, q8, q9, qx, qy, qz⟩ := frE he
  obtain ⟨y1, y2, y3, y4, y5⟩ := frR hr q1
  subst qt qs qh
  have hgt := eR_height (N := N) he
  have hx' := hx
  obtain ⟨x1, x2, x3, x4, x5, x6, x7, x8⟩ := hx'
  have hgR := rR_height (N := N) hr he.1
  obtain ⟨e1, e2, e3, e4, e5, e6, e7⟩ := he
  have he : eR nk nm nid G lE gg t gs fr gc hn gb gf gr hF hH hP hD (nI t) (nI fr) (nI hn) n_S_values f_S_values n_S_bases f_S_bases n_S_floors f_S_floors n_S_returns f_S_returns n_S_closures f_S_closures n_S_handlerFrames f_S_handlerFrames n_S_handlerPlaces f_S_handlerPlaces n_S_handlerHeights f_S_handlerHeights n_S_handlerDepths f_S_handlerDepths H_globalsUsed H_used H_old H_oldLeadsToNew f_H_globals n_H_cells f_H_cells n_H_spare := ⟨e1, e2, e3, e4, e5, e6, e7⟩
  obtain ⟨s1, s2, s3, s4, s5, s6, s7, s8, s9⟩ := e1
  obtain ⟨t1, t2, t3, t4, t5, t6, t7, t8, t9⟩ := e3
  obtain ⟨l1, l2, l3, l4, l5, l6, l7, l8, l9, l10, l11, l12, l13⟩ := e2
  obtain ⟨⟨a1, a2, a3, a4, a5, a6, a7, a8⟩, b, c⟩ := hr
  have hr : rR nk nm nid G lR gg t gs fr gc hn gb gf gr hF hH hP hD I F := ⟨⟨a1, a2, a3, a4, a5, a6, a7, a8⟩, b, c⟩
  by_cases h0 : hn < 1024
  · rw [l10, l11, l12]
    obtain ⟨n', fD, fF, fH, fP, cc, ss, z1, z2, z3, z4, z5, z6, z7, z8, z9, z10⟩ := addH_E (N := N) (t := t) (nF := n_S_floors) (fFl := f_S_floors) (f1 := f_S_handlerFrames) (f2 := f_S_handlerPlaces) (f3 := f_S_handlerHeights) (f4 := f_S_handlerDepths) (pl := a) (dp := M_depth) h0 s1 s2 t6 l8 l9 hgt
    have hst : ∀ F', (∀ j, j ≠ 31 → j ≠ 32 → j ≠ 33 → j ≠ 34 → F' j = F j) → F' 31 = upd (F 31) hn (nI (fr - 1)) → F' 32 = upd (F 32) hn a → F' 33 = upd (F 33) hn (nI (t - gf (fr - 1))) → F' 34 = upd (F 34) hn (I 39) → rR nk nm nid G lR gg t gs fr gc (hn + 1) gb gf gr (upN hF hn (fr - 1)) (upN hH hn (t - gf (fr - 1))) (upd hP hn a) (upd hD hn (I 39)) (upd I 30 (nI (hn + 1))) F' := by
      intro F' ho h31 h32 h33 h34
      obtain ⟨b1, b2⟩ := b
      refine ⟨⟨?_, ?_, ?_, ?_, ?_, ?_, ?_, ?_⟩, ⟨?_, ?_⟩, hpR_c c (fun j hj => upd_n (by omega)) (fun j hj => ho j (by omega) (by omega) (by omega) (by omega))⟩
      · rw [upd_n (by omega)]; exact a1
      · rw [upd_n (by omega)]; exact a2
      · rw [upd_e rfl]
      · rw [ho 24 (by omega) (by omega) (by omega) (by omega), ho 25 (by omega) (by omega) (by omega) (by omega)]; exact a4
      · rw [ho 26 (by omega) (by omega) (by omega) (by omega)]; exact a5
      · intro j hj
        rw [h31, h32, h33, h34]
        by_cases e : j = hn
        · rw [upd_e e, upd_e e, upd_e e, upd_e e, upN_e e, upN_e e, upd_e e, upd_e e]; exact ⟨rfl, rfl, rfl, rfl⟩
        · rw [upd_n e, upd_n e, upd_n e, upd_n e, upN_n e, upN_n e, upd_n e, upd_n e]; exact a6 j (by omega)
      · rw [upd_n (by omega)]; exact a7
      · rw [upd_n (by omega)]; exact a8
      · rw [ho 27 (by omega) (by omega) (by omega) (by omega), ho 28 (by omega) (by omega) (by omega) (by omega)]; exact b1
      · rw [ho 23 (by omega) (by omega) (by omega) (by omega)]; exact b2
    have hE' : eR nk nm nid G lE gg t gs fr gc (hn + 1) gb gf gr (upN hF hn (fr - 1)) (upN hH hn (t - gf (fr - 1))) (upd hP hn a) (upd hD hn (I 39)) (nI t) (nI fr) (nI (hn + 1)) n_S_values f_S_values n_S_bases f_S_bases n_S_floors f_S_floors n_S_returns f_S_returns n_S_closures f_S_closures n' fF n' fP n' fH n' fD H_globalsUsed H_used H_old H_oldLeadsToNew f_H_globals n_H_cells f_H_cells n_H_spare := by
      refine ⟨⟨s1, s2, s3, by omega, s5, s6, s7, fun j hj => ?_, fun i j h1 h2 => ?_⟩, ⟨l1, l2, l3, l4, l5, l6, l7, z3, z4, rfl, rfl, rfl, l13⟩, ⟨t1, t2, rfl, t4, t5, z2, t7, t8, fun j hj => ?_⟩, e4, e5, e6, e7⟩
      · by_cases e : j = hn
        · rw [upN_e e, upN_e e]; omega
        · rw [upN_n e, upN_n e]; exact s8 j (by omega)
      · by_cases e : j = hn
        · rw [upN_e e]
          by_cases e2 : i = hn
          · rw [upN_e e2]; omega
          · rw [upN_n e2]; have := (s8 i (by omega)).1; omega
        · rw [upN_n e, upN_n (by omega)]; exact s9 i j h1 (by omega)
      · by_cases e : j = hn
        · rw [upN_e e, upN_e e, upd_e e, upd_e e, e, z6, z7, z8, z9]; exact ⟨rfl, rfl, rfl, x6⟩
        · rw [upN_n e, upN_n e, upd_n e, upd_n e]
          obtain ⟨w1, w2, w3, w4⟩ := z5 j (by omega)
          rw [w1, w2, w3, w4]
          exact t9 j (by omega)
    refine ⟨nI 5, f_H_globals, Q_size, H_fresh, H_globalsUsed, H_made, H_old, H_oldLeadsToNew, H_reachedFromGlobals, H_reachedInAll, H_spareUsed, H_used, M_depth, M_fuel, (nI (p + 2)), M_ticks, B_names, O_size, (nI fr), (nI (hn + 1)), (nI t), n_Q_links, f_Q_links, n_Q_pairs, f_Q_pairs, n_H_cells, f_H_cells, n_H_spare, f_H_spare, n_O_bytes, f_O_bytes, n_S_bases, f_S_bases, n_S_closures, f_S_closures, n_S_floors, f_S_floors, n', fD, n', fF, n', fH, n', fP, n_S_returns, f_S_returns, n_S_values, f_S_values, cc, ss, upd (upd I 30 (nI (hn + 1))) 35 (nI (p + 2)), updF (updF (updF (updF F 31 (upd (F 31) hn (nI (fr - 1)))) 32 (upd (F 32) hn a)) 33 (upd (F 33) hn (nI (t - gf (fr - 1))))) 34 (upd (F 34) hn (I 39)), ?_, ?_, pst_on hE' (rR_35 (hst _ (fun j h1 h2 h3 h4 => by rw [updF_n h4, updF_n h3, updF_n h2, updF_n h1]) (by rw [updF_n (by omega), updF_n (by omega), updF_n (by omega), updF_e rfl]) (by rw [updF_n (by omega), updF_n (by omega), updF_e rfl]) (by rw [updF_n (by omega), updF_e rfl]) (by rw [updF_e rfl])) _) (xR_c hx (fun j hj => by rw [upd_n (by omega), upd_n (by omega)]) (by rw [updF_n (by omega), updF_n (by omega), updF_n (by omega), updF_n (by omega)])) (by omega) ⟨fun j hj => by rw [updF_n (by omega), updF_n (by omega), updF_n (by omega), updF_n (by omega)], fun j hj => by rw [upd_n (by omega), upd_n (by omega)]⟩ (by rw [upd_e rfl]) (by unfold potE; omega)⟩
    · rw [pf_26]; simp (disch := omega) only [q_o, q_0, q_1, q_2, q_3, q_4, q_5, q_6, q_7, q_8, q_9, q_10, q_11, q_12, q_13, q_14, q_15, q_16, q_17, q_18, q_19, q_20, q_21, q_22, q_23, q_24, q_25, q_26, q_27, q_28, q_29, q_30, q_31, q_32, q_33, q_34, q_35, q_36, q_37, q_38, q_39, q_40, q_41, q_42, q_43, q_44, q_45, q_46, q_47, q_48, q_49, q_50, q_51, q_52, q_53, q_63, q_64, q_126, q_128, q_255, q_512, q_1024, q_1026, q_2000, q_2048, q_2049, q_4095, q_4096, q_8192, q_16383, q_65535, q_65536, q_69632, q_131072, q_132000, q_262144, q_300000, q_1000000, q_lt_t, q_lt_f, q_le_t, q_le_f, q_eq_t, q_eq_f, q_cl, q_add, q_mul, q_sub, q_nle_f, q_nle_t, q_nlt_f, q_nlt_t, q_neq_f, eq_self, q_n1, q_n2, q_m1, q_m1', q_m2, q_m21, q_m0, q_ml, upd_e, upd_n, updL_e, updL_n, updF_e, updF_n, let_d, tk_s, bind_s, or_false, false_or, and_true, true_and, if_true, if_false, ite_true, ite_false, reduceIte, not_true, not_false_iff, Nat.zero_add, Nat.add_zero, Nat.sub_zero, z1]
    · have hgR2 : ∀ G5 : Nat → Nat → Int32, G5 24 = F 24 → G5 25 = F 25 → m_Model_height N I G5 = some (nI (t - gf (fr - 1))) := by
        intro G5 g1 g2
        unfold m_Model_height at hgR ⊢
        rw [g1, g2]
        exact hgR
      have hgR3 := hgR2 (updF (updF F 31 (upd (F 31) hn (nI (fr - 1)))) 32 (upd (F 32) hn a)) (by rw [updF_n (by omega), updF_n (by omega)]) (by rw [updF_n (by omega), updF_n (by omega)])
      rw [sw_26 (by rw [h35, q_cl (by omega)]; exact hop)]; simp (maxSteps := 2000000) (disch := omega) only [q_o, q_0, q_1, q_2, q_3, q_4, q_5, q_6, q_7, q_8, q_9, q_10, q_11, q_12, q_13, q_14, q_15, q_16, q_17, q_18, q_19, q_20, q_21, q_22, q_23, q_24, q_25, q_26, q_27, q_28, q_29, q_30, q_31, q_32, q_33, q_34, q_35, q_36, q_37, q_38, q_39, q_40, q_41, q_42, q_43, q_44, q_45, q_46, q_47, q_48, q_49, q_50, q_51, q_52, q_53, q_63, q_64, q_126, q_128, q_255, q_512, q_1024, q_1026, q_2000, q_2048, q_2049, q_4095, q_4096, q_8192, q_16383, q_65535, q_65536, q_69632, q_131072, q_132000, q_262144, q_300000, q_1000000, q_lt_t, q_lt_f, q_le_t, q_le_f, q_eq_t, q_eq_f, q_cl, q_add, q_mul, q_sub, q_nle_f, q_nle_t, q_nlt_f, q_nlt_t, q_neq_f, eq_self, q_n1, q_n2, q_m1, q_m1', q_m2, q_m21, q_m0, q_ml, upd_e, upd_n, updL_e, updL_n, updF_e, updF_n, let_d, tk_s, bind_s, or_false, false_or, and_true, true_and, if_true, if_false, ite_true, ite_false, reduceIte, not_true, not_false_iff, Nat.zero_add, Nat.add_zero, Nat.sub_zero, h35, next_5, next_n, ot_26, m_Model_handle, y3, y2, hgR3]
  · have h1 : hn = 1024 := by omega
    refine ⟨nI 3, f_H_globals, Q_size, H_fresh, H_globalsUsed, H_made, H_old, H_oldLeadsToNew, H_reachedFromGlobals, H_reachedInAll, H_spareUsed, H_used, M_depth, M_fuel, (nI (p + 2)), M_ticks, B_names, O_size, (nI fr), (nI hn), (nI t), n_Q_links, f_Q_links, n_Q_pairs, f_Q_pairs, n_H_cells, f_H_cells, n_H_spare, f_H_spare, n_O_bytes, f_O_bytes, n_S_bases, f_S_bases, n_S_closures, f_S_closures, n_S_floors, f_S_floors, n_S_handlerDepths, f_S_handlerDepths, n_S_handlerFrames, f_S_handlerFrames, n_S_handlerHeights, f_S_handlerHeights, n_S_handlerPlaces, f_S_handlerPlaces, n_S_returns, f_S_returns, n_S_values, f_S_values, 0, 0, I, F, ?_, ?_, pst_same (by omega) he hr hx⟩
    · rw [pf_26]; simp (disch := omega) only [q_o, q_0, q_1, q_2, q_3, q_4, q_5, q_6, q_7, q_8, q_9, q_10, q_11, q_12, q_13, q_14, q_15, q_16, q_17, q_18, q_19, q_20, q_21, q_22, q_23, q_24, q_25, q_26, q_27, q_28, q_29, q_30, q_31, q_32, q_33, q_34, q_35, q_36, q_37, q_38, q_39, q_40, q_41, q_42, q_43, q_44, q_45, q_46, q_47, q_48, q_49, q_50, q_51, q_52, q_53, q_63, q_64, q_126, q_128, q_255, q_512, q_1024, q_1026, q_2000, q_2048, q_2049, q_4095, q_4096, q_8192, q_16383, q_65535, q_65536, q_69632, q_131072, q_132000, q_262144, q_300000, q_1000000, q_lt_t, q_lt_f, q_le_t, q_le_f, q_eq_t, q_eq_f, q_cl, q_add, q_mul, q_sub, q_nle_f, q_nle_t, q_nlt_f, q_nlt_t, q_neq_f, eq_self, q_n1, q_n2, q_m1, q_m1', q_m2, q_m21, q_m0, q_ml, upd_e, upd_n, updL_e, updL_n, updF_e, updF_n, let_d, tk_s, bind_s, or_false, false_or, and_true, true_and, if_true, if_false, ite_true, ite_false, reduceIte, not_true, not_false_iff, Nat.zero_add, Nat.add_zero, Nat.sub_zero, m_Stacks_addHandler]
    · rw [sw_26 (by rw [h35, q_cl (by omega)]; exact hop)]; simp (maxSteps := 2000000) (disch := omega) only [q_o, q_0, q_1, q_2, q_3, q_4, q_5, q_6, q_7, q_8, q_9, q_10, q_11, q_12, q_13, q_14, q_15, q_16, q_17, q_18, q_19, q_20, q_21, q_22, q_23, q_24, q_25, q_26, q_27, q_28, q_29, q_30, q_31, q_32, q_33, q_34, q_35, q_36, q_37, q_38, q_39, q_40, q_41, q_42, q_43, q_44, q_45, q_46, q_47, q_48, q_49, q_50, q_51, q_52, q_53, q_63, q_64, q_126, q_128, q_255, q_512, q_1024, q_1026, q_2000, q_2048, q_2049, q_4095, q_4096, q_8192, q_16383, q_65535, q_65536, q_69632, q_131072, q_132000, q_262144, q_300000, q_1000000, q_lt_t, q_lt_f, q_le_t, q_le_f, q_eq_t, q_eq_f, q_cl, q_add, q_mul, q_sub, q_nle_f, q_nle_t, q_nlt_f, q_nlt_t, q_neq_f, eq_self, q_n1, q_n2, q_m1, q_m1', q_m2, q_m21, q_m0, q_ml, upd_e, upd_n, updL_e, updL_n, updF_e, updF_n, let_d, tk_s, bind_s, or_false, false_or, and_true, true_and, if_true, if_false, ite_true, ite_false, reduceIte, not_true, not_false_iff, Nat.zero_add, Nat.add_zero, Nat.sub_zero, h35, next_5, next_n, ot_26, m_Model_handle, y3]
end OPS
