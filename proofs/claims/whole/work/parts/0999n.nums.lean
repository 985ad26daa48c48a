/-! Numbers: both sides -/
section NU
variable {N : Nat}
variable {nk : Nat → Nat} {nm : Nat} {nid : Nat} {G : Nat → GO} {lE : List Nat} {gg : Nat → AV} {t : Nat} {gs : Nat → AV} {fr : Nat} {gc : Nat → AV} {hn : Nat} {gb : Nat → Nat} {gf : Nat → Nat} {gr : Nat → Int32} {hF : Nat → Nat} {hH : Nat → Nat} {hP : Nat → Int32} {hD : Nat → Int32} {lR : List Nat} {P_size : Int32} {P_constants : Int32} {P_closed : Int32} {P_open : Int32} {O_size : Int32} {S_top : Int32} {S_frames : Int32} {S_handlers : Int32} {H_globalsUsed : Int32} {H_used : Int32} {H_spareUsed : Int32} {H_old : Int32} {H_oldLeadsToNew : Int32} {H_limit : Int32} {H_every : Int32} {H_fresh : Int32} {H_made : Int32} {H_madeLimit : Int32} {H_reachedFromGlobals : Int32} {H_reachedInAll : Int32} {H_keptGlobalsUsed : Int32} {H_kept : Int32} {B_names : Int32} {Q_size : Int32} {M_status : Int32} {M_place : Int32} {M_next : Int32} {M_fuel : Int32} {M_ticks : Int32} {M_depth : Int32} {M_depthLimit : Int32} {M_done : Int32} {n_P_words : Nat} {f_P_words : Nat → Int32} {n_P_bytes : Nat} {f_P_bytes : Nat → Int32} {n_P_ends : Nat} {f_P_ends : Nat → Int32} {n_O_bytes : Nat} {f_O_bytes : Nat → Int32} {n_S_values : Nat} {f_S_values : Nat → Int64} {n_S_bases : Nat} {f_S_bases : Nat → Int32} {n_S_floors : Nat} {f_S_floors : Nat → Int32} {n_S_returns : Nat} {f_S_returns : Nat → Int32} {n_S_closures : Nat} {f_S_closures : Nat → Int64} {n_S_handlerFrames : Nat} {f_S_handlerFrames : Nat → Int32} {n_S_handlerPlaces : Nat} {f_S_handlerPlaces : Nat → Int32} {n_S_handlerHeights : Nat} {f_S_handlerHeights : Nat → Int32} {n_S_handlerDepths : Nat} {f_S_handlerDepths : Nat → Int32} {n_H_globals : Nat} {f_H_globals : Nat → Int64} {n_H_cells : Nat} {f_H_cells : Nat → Int64} {n_H_spare : Nat} {f_H_spare : Nat → Int64} {n_Q_links : Nat} {f_Q_links : Nat → Int32} {n_Q_pairs : Nat} {f_Q_pairs : Nat → Int64} {I : Nat → Int32} {F : Nat → Nat → Int32}
theorem oN_c {q : Nat} {v w : Int32} (h : ¬ w = nI 0 ∨ ¬ (q = 5 ∨ q = 6 ∨ q = 14 ∨ q = 15)) : oN q v w = chk (rr q v w) := by
  unfold oN
  exact if_neg (fun e => h.elim (fun h => h e.1) (fun h => h e.2))
theorem oN_0 {q : Nat} {v : Int32} (h : q = 5 ∨ q = 6 ∨ q = 14 ∨ q = 15) : oN q v (nI 0) = .inl 3 := by
  unfold oN
  exact if_pos ⟨rfl, h⟩
theorem nm_0 {v w : Int32} (h1 : m_Model_scalar N I F (nI 1) = some w) (h2 : m_Model_scalar N I F (nI 2) = some v) : m_Model_numbers N I F (nI 0) (nI 0) = Sum.elim (fun g => m_Model_raiseGlobal N I F (nI 2) (nI g)) (gvR N I F 2) (oN 0 v w) := by
  rw [oN_c (Or.inr (by omega)), el_chk]
  unfold m_Model_numbers lm_Model_numbers_1 lm_Model_numbers_2 lm_Model_numbers_3
  by_cases h : rr 0 v w = (rr 0 v w).toInt32.toInt64
  · rw [if_pos h]
    have h' : lg_cmp (rr 0 v w) (rr 0 v w).toInt32.toInt64 = nI 0 := (lg_cmp_eq _ _).mpr h
    rw [show rr 0 v w = v.toInt64 + w.toInt64 from rfl] at h' ⊢
    simp (disch := omega) only [q_o, q_0, q_1, q_2, q_3, q_4, q_5, q_6, q_7, q_8, q_9, q_10, q_11, q_12, q_13, q_14, q_15, q_16, q_17, q_18, q_19, q_20, q_21, q_22, q_23, q_24, q_25, q_26, q_27, q_28, q_29, q_30, q_31, q_32, q_33, q_34, q_35, q_36, q_37, q_38, q_39, q_40, q_41, q_42, q_43, q_44, q_45, q_46, q_47, q_48, q_49, q_50, q_51, q_52, q_53, q_63, q_64, q_126, q_128, q_255, q_512, q_1024, q_1026, q_2000, q_2048, q_2049, q_4095, q_4096, q_8192, q_16383, q_65535, q_65536, q_69632, q_131072, q_132000, q_262144, q_300000, q_1000000, q_lt_t, q_lt_f, q_le_t, q_le_f, q_eq_t, q_eq_f, q_cl, q_add, q_mul, q_sub, q_nle_f, q_nle_t, q_nlt_f, q_nlt_t, q_neq_f, eq_self, q_n1, q_n2, q_m1, q_m1', q_m2, q_m21, q_m0, q_ml, upd_e, upd_n, updL_e, updL_n, updF_e, updF_n, let_d, tk_s, bind_s, or_false, false_or, and_true, true_and, if_true, if_false, ite_true, ite_false, reduceIte, not_true, not_false_iff, Nat.zero_add, Nat.add_zero, Nat.sub_zero, h1, h2, h']
    rfl
  · rw [if_neg h]
    have h' : ¬ lg_cmp (rr 0 v w) (rr 0 v w).toInt32.toInt64 = nI 0 := fun e => h ((lg_cmp_eq _ _).mp e)
    rw [show rr 0 v w = v.toInt64 + w.toInt64 from rfl] at h'
    simp (disch := omega) only [q_o, q_0, q_1, q_2, q_3, q_4, q_5, q_6, q_7, q_8, q_9, q_10, q_11, q_12, q_13, q_14, q_15, q_16, q_17, q_18, q_19, q_20, q_21, q_22, q_23, q_24, q_25, q_26, q_27, q_28, q_29, q_30, q_31, q_32, q_33, q_34, q_35, q_36, q_37, q_38, q_39, q_40, q_41, q_42, q_43, q_44, q_45, q_46, q_47, q_48, q_49, q_50, q_51, q_52, q_53, q_63, q_64, q_126, q_128, q_255, q_512, q_1024, q_1026, q_2000, q_2048, q_2049, q_4095, q_4096, q_8192, q_16383, q_65535, q_65536, q_69632, q_131072, q_132000, q_262144, q_300000, q_1000000, q_lt_t, q_lt_f, q_le_t, q_le_f, q_eq_t, q_eq_f, q_cl, q_add, q_mul, q_sub, q_nle_f, q_nle_t, q_nlt_f, q_nlt_t, q_neq_f, eq_self, q_n1, q_n2, q_m1, q_m1', q_m2, q_m21, q_m0, q_ml, upd_e, upd_n, updL_e, updL_n, updF_e, updF_n, let_d, tk_s, bind_s, or_false, false_or, and_true, true_and, if_true, if_false, ite_true, ite_false, reduceIte, not_true, not_false_iff, Nat.zero_add, Nat.add_zero, Nat.sub_zero, h1, h2, h']
    exact bind_3 _
theorem nm_1 {v w : Int32} (h1 : m_Model_scalar N I F (nI 1) = some w) (h2 : m_Model_scalar N I F (nI 2) = some v) : m_Model_numbers N I F (nI 1) (nI 0) = Sum.elim (fun g => m_Model_raiseGlobal N I F (nI 2) (nI g)) (gvR N I F 2) (oN 1 v w) := by
  rw [oN_c (Or.inr (by omega)), el_chk]
  unfold m_Model_numbers lm_Model_numbers_1 lm_Model_numbers_2 lm_Model_numbers_3
  by_cases h : rr 1 v w = (rr 1 v w).toInt32.toInt64
  · rw [if_pos h]
    have h' : lg_cmp (rr 1 v w) (rr 1 v w).toInt32.toInt64 = nI 0 := (lg_cmp_eq _ _).mpr h
    rw [show rr 1 v w = v.toInt64 - w.toInt64 from rfl] at h' ⊢
    simp (disch := omega) only [q_o, q_0, q_1, q_2, q_3, q_4, q_5, q_6, q_7, q_8, q_9, q_10, q_11, q_12, q_13, q_14, q_15, q_16, q_17, q_18, q_19, q_20, q_21, q_22, q_23, q_24, q_25, q_26, q_27, q_28, q_29, q_30, q_31, q_32, q_33, q_34, q_35, q_36, q_37, q_38, q_39, q_40, q_41, q_42, q_43, q_44, q_45, q_46, q_47, q_48, q_49, q_50, q_51, q_52, q_53, q_63, q_64, q_126, q_128, q_255, q_512, q_1024, q_1026, q_2000, q_2048, q_2049, q_4095, q_4096, q_8192, q_16383, q_65535, q_65536, q_69632, q_131072, q_132000, q_262144, q_300000, q_1000000, q_lt_t, q_lt_f, q_le_t, q_le_f, q_eq_t, q_eq_f, q_cl, q_add, q_mul, q_sub, q_nle_f, q_nle_t, q_nlt_f, q_nlt_t, q_neq_f, eq_self, q_n1, q_n2, q_m1, q_m1', q_m2, q_m21, q_m0, q_ml, upd_e, upd_n, updL_e, updL_n, updF_e, updF_n, let_d, tk_s, bind_s, or_false, false_or, and_true, true_and, if_true, if_false, ite_true, ite_false, reduceIte, not_true, not_false_iff, Nat.zero_add, Nat.add_zero, Nat.sub_zero, h1, h2, h']
    rfl
  · rw [if_neg h]
    have h' : ¬ lg_cmp (rr 1 v w) (rr 1 v w).toInt32.toInt64 = nI 0 := fun e => h ((lg_cmp_eq _ _).mp e)
    rw [show rr 1 v w = v.toInt64 - w.toInt64 from rfl] at h'
    simp (disch := omega) only [q_o, q_0, q_1, q_2, q_3, q_4, q_5, q_6, q_7, q_8, q_9, q_10, q_11, q_12, q_13, q_14, q_15, q_16, q_17, q_18, q_19, q_20, q_21, q_22, q_23, q_24, q_25, q_26, q_27, q_28, q_29, q_30, q_31, q_32, q_33, q_34, q_35, q_36, q_37, q_38, q_39, q_40, q_41, q_42, q_43, q_44, q_45, q_46, q_47, q_48, q_49, q_50, q_51, q_52, q_53, q_63, q_64, q_126, q_128, q_255, q_512, q_1024, q_1026, q_2000, q_2048, q_2049, q_4095, q_4096, q_8192, q_16383, q_65535, q_65536, q_69632, q_131072, q_132000, q_262144, q_300000, q_1000000, q_lt_t, q_lt_f, q_le_t, q_le_f, q_eq_t, q_eq_f, q_cl, q_add, q_mul, q_sub, q_nle_f, q_nle_t, q_nlt_f, q_nlt_t, q_neq_f, eq_self, q_n1, q_n2, q_m1, q_m1', q_m2, q_m21, q_m0, q_ml, upd_e, upd_n, updL_e, updL_n, updF_e, updF_n, let_d, tk_s, bind_s, or_false, false_or, and_true, true_and, if_true, if_false, ite_true, ite_false, reduceIte, not_true, not_false_iff, Nat.zero_add, Nat.add_zero, Nat.sub_zero, h1, h2, h']
    exact bind_3 _
theorem nm_2 {v w : Int32} (h1 : m_Model_scalar N I F (nI 1) = some w) (h2 : m_Model_scalar N I F (nI 2) = some v) : m_Model_numbers N I F (nI 2) (nI 0) = Sum.elim (fun g => m_Model_raiseGlobal N I F (nI 2) (nI g)) (gvR N I F 2) (oN 2 v w) := by
  rw [oN_c (Or.inr (by omega)), el_chk]
  unfold m_Model_numbers lm_Model_numbers_1 lm_Model_numbers_2 lm_Model_numbers_3
  by_cases h : rr 2 v w = (rr 2 v w).toInt32.toInt64
  · rw [if_pos h]
    have h' : lg_cmp (rr 2 v w) (rr 2 v w).toInt32.toInt64 = nI 0 := (lg_cmp_eq _ _).mpr h
    rw [show rr 2 v w = v.toInt64 * w.toInt64 from rfl] at h' ⊢
    simp (disch := omega) only [q_o, q_0, q_1, q_2, q_3, q_4, q_5, q_6, q_7, q_8, q_9, q_10, q_11, q_12, q_13, q_14, q_15, q_16, q_17, q_18, q_19, q_20, q_21, q_22, q_23, q_24, q_25, q_26, q_27, q_28, q_29, q_30, q_31, q_32, q_33, q_34, q_35, q_36, q_37, q_38, q_39, q_40, q_41, q_42, q_43, q_44, q_45, q_46, q_47, q_48, q_49, q_50, q_51, q_52, q_53, q_63, q_64, q_126, q_128, q_255, q_512, q_1024, q_1026, q_2000, q_2048, q_2049, q_4095, q_4096, q_8192, q_16383, q_65535, q_65536, q_69632, q_131072, q_132000, q_262144, q_300000, q_1000000, q_lt_t, q_lt_f, q_le_t, q_le_f, q_eq_t, q_eq_f, q_cl, q_add, q_mul, q_sub, q_nle_f, q_nle_t, q_nlt_f, q_nlt_t, q_neq_f, eq_self, q_n1, q_n2, q_m1, q_m1', q_m2, q_m21, q_m0, q_ml, upd_e, upd_n, updL_e, updL_n, updF_e, updF_n, let_d, tk_s, bind_s, or_false, false_or, and_true, true_and, if_true, if_false, ite_true, ite_false, reduceIte, not_true, not_false_iff, Nat.zero_add, Nat.add_zero, Nat.sub_zero, h1, h2, h']
    rfl
  · rw [if_neg h]
    have h' : ¬ lg_cmp (rr 2 v w) (rr 2 v w).toInt32.toInt64 = nI 0 := fun e => h ((lg_cmp_eq _ _).mp e)
    rw [show rr 2 v w = v.toInt64 * w.toInt64 from rfl] at h'
    simp (disch := omega) only [q_o, q_0, q_1, q_2, q_3, q_4, q_5, q_6, q_7, q_8, q_9, q_10, q_11, q_12, q_13, q_14, q_15, q_16, q_17, q_18, q_19, q_20, q_21, q_22, q_23, q_24, q_25, q_26, q_27, q_28, q_29, q_30, q_31, q_32, q_33, q_34, q_35, q_36, q_37, q_38, q_39, q_40, q_41, q_42, q_43, q_44, q_45, q_46, q_47, q_48, q_49, q_50, q_51, q_52, q_53, q_63, q_64, q_126, q_128, q_255, q_512, q_1024, q_1026, q_2000, q_2048, q_2049, q_4095, q_4096, q_8192, q_16383, q_65535, q_65536, q_69632, q_131072, q_132000, q_262144, q_300000, q_1000000, q_lt_t, q_lt_f, q_le_t, q_le_f, q_eq_t, q_eq_f, q_cl, q_add, q_mul, q_sub, q_nle_f, q_nle_t, q_nlt_f, q_nlt_t, q_neq_f, eq_self, q_n1, q_n2, q_m1, q_m1', q_m2, q_m21, q_m0, q_ml, upd_e, upd_n, updL_e, updL_n, updF_e, updF_n, let_d, tk_s, bind_s, or_false, false_or, and_true, true_and, if_true, if_false, ite_true, ite_false, reduceIte, not_true, not_false_iff, Nat.zero_add, Nat.add_zero, Nat.sub_zero, h1, h2, h']
    exact bind_3 _
theorem nm_3 {w : Int32} (h1 : m_Model_scalar N I F (nI 1) = some w) : m_Model_numbers N I F (nI 3) (nI 1) = Sum.elim (fun g => m_Model_raiseGlobal N I F (nI 1) (nI g)) (gvR N I F 1) (oN 3 w w) := by
  rw [oN_c (Or.inr (by omega)), el_chk]
  unfold m_Model_numbers lm_Model_numbers_1 lm_Model_numbers_2 lm_Model_numbers_3
  by_cases h : rr 3 w w = (rr 3 w w).toInt32.toInt64
  · rw [if_pos h]
    have h' : lg_cmp (rr 3 w w) (rr 3 w w).toInt32.toInt64 = nI 0 := (lg_cmp_eq _ _).mpr h
    rw [show rr 3 w w = -w.toInt64 from rfl] at h' ⊢
    simp (disch := omega) only [q_o, q_0, q_1, q_2, q_3, q_4, q_5, q_6, q_7, q_8, q_9, q_10, q_11, q_12, q_13, q_14, q_15, q_16, q_17, q_18, q_19, q_20, q_21, q_22, q_23, q_24, q_25, q_26, q_27, q_28, q_29, q_30, q_31, q_32, q_33, q_34, q_35, q_36, q_37, q_38, q_39, q_40, q_41, q_42, q_43, q_44, q_45, q_46, q_47, q_48, q_49, q_50, q_51, q_52, q_53, q_63, q_64, q_126, q_128, q_255, q_512, q_1024, q_1026, q_2000, q_2048, q_2049, q_4095, q_4096, q_8192, q_16383, q_65535, q_65536, q_69632, q_131072, q_132000, q_262144, q_300000, q_1000000, q_lt_t, q_lt_f, q_le_t, q_le_f, q_eq_t, q_eq_f, q_cl, q_add, q_mul, q_sub, q_nle_f, q_nle_t, q_nlt_f, q_nlt_t, q_neq_f, eq_self, q_n1, q_n2, q_m1, q_m1', q_m2, q_m21, q_m0, q_ml, upd_e, upd_n, updL_e, updL_n, updF_e, updF_n, let_d, tk_s, bind_s, or_false, false_or, and_true, true_and, if_true, if_false, ite_true, ite_false, reduceIte, not_true, not_false_iff, Nat.zero_add, Nat.add_zero, Nat.sub_zero, h1, h']
    rfl
  · rw [if_neg h]
    have h' : ¬ lg_cmp (rr 3 w w) (rr 3 w w).toInt32.toInt64 = nI 0 := fun e => h ((lg_cmp_eq _ _).mp e)
    rw [show rr 3 w w = -w.toInt64 from rfl] at h'
    simp (disch := omega) only [q_o, q_0, q_1, q_2, q_3, q_4, q_5, q_6, q_7, q_8, q_9, q_10, q_11, q_12, q_13, q_14, q_15, q_16, q_17, q_18, q_19, q_20, q_21, q_22, q_23, q_24, q_25, q_26, q_27, q_28, q_29, q_30, q_31, q_32, q_33, q_34, q_35, q_36, q_37, q_38, q_39, q_40, q_41, q_42, q_43, q_44, q_45, q_46, q_47, q_48, q_49, q_50, q_51, q_52, q_53, q_63, q_64, q_126, q_128, q_255, q_512, q_1024, q_1026, q_2000, q_2048, q_2049, q_4095, q_4096, q_8192, q_16383, q_65535, q_65536, q_69632, q_131072, q_132000, q_262144, q_300000, q_1000000, q_lt_t, q_lt_f, q_le_t, q_le_f, q_eq_t, q_eq_f, q_cl, q_add, q_mul, q_sub, q_nle_f, q_nle_t, q_nlt_f, q_nlt_t, q_neq_f, eq_self, q_n1, q_n2, q_m1, q_m1', q_m2, q_m21, q_m0, q_ml, upd_e, upd_n, updL_e, updL_n, updF_e, updF_n, let_d, tk_s, bind_s, or_false, false_or, and_true, true_and, if_true, if_false, ite_true, ite_false, reduceIte, not_true, not_false_iff, Nat.zero_add, Nat.add_zero, Nat.sub_zero, h1, h']
    exact bind_3 _
theorem nm_4 {w : Int32} (h1 : m_Model_scalar N I F (nI 1) = some w) : m_Model_numbers N I F (nI 4) (nI 1) = Sum.elim (fun g => m_Model_raiseGlobal N I F (nI 1) (nI g)) (gvR N I F 1) (oN 4 w w) := by
  rw [oN_c (Or.inr (by omega)), el_chk]
  unfold m_Model_numbers lm_Model_numbers_1 lm_Model_numbers_2 lm_Model_numbers_3
  have hrr : rr 4 w w = if nI 0 ≤ w then w.toInt64 else -w.toInt64 := rfl
  by_cases hw : nI 0 ≤ w
  · rw [if_pos hw] at hrr
    have h : w.toInt64 = w.toInt64.toInt32.toInt64 := by rw [lg_l2i_i2l]
    rw [hrr, if_pos h]
    have h' : lg_cmp w.toInt64 w.toInt64.toInt32.toInt64 = nI 0 := (lg_cmp_eq _ _).mpr h
    simp (disch := omega) only [q_o, q_0, q_1, q_2, q_3, q_4, q_5, q_6, q_7, q_8, q_9, q_10, q_11, q_12, q_13, q_14, q_15, q_16, q_17, q_18, q_19, q_20, q_21, q_22, q_23, q_24, q_25, q_26, q_27, q_28, q_29, q_30, q_31, q_32, q_33, q_34, q_35, q_36, q_37, q_38, q_39, q_40, q_41, q_42, q_43, q_44, q_45, q_46, q_47, q_48, q_49, q_50, q_51, q_52, q_53, q_63, q_64, q_126, q_128, q_255, q_512, q_1024, q_1026, q_2000, q_2048, q_2049, q_4095, q_4096, q_8192, q_16383, q_65535, q_65536, q_69632, q_131072, q_132000, q_262144, q_300000, q_1000000, q_lt_t, q_lt_f, q_le_t, q_le_f, q_eq_t, q_eq_f, q_cl, q_add, q_mul, q_sub, q_nle_f, q_nle_t, q_nlt_f, q_nlt_t, q_neq_f, eq_self, q_n1, q_n2, q_m1, q_m1', q_m2, q_m21, q_m0, q_ml, upd_e, upd_n, updL_e, updL_n, updF_e, updF_n, let_d, tk_s, bind_s, or_false, false_or, and_true, true_and, if_true, if_false, ite_true, ite_false, reduceIte, not_true, not_false_iff, Nat.zero_add, Nat.add_zero, Nat.sub_zero, h1, h', hw]
    rfl
  · rw [if_neg hw] at hrr
    rw [hrr]
    by_cases h : -w.toInt64 = (-w.toInt64).toInt32.toInt64
    · rw [if_pos h]
      have h' : lg_cmp (-w.toInt64) (-w.toInt64).toInt32.toInt64 = nI 0 := (lg_cmp_eq _ _).mpr h
      simp (disch := omega) only [q_o, q_0, q_1, q_2, q_3, q_4, q_5, q_6, q_7, q_8, q_9, q_10, q_11, q_12, q_13, q_14, q_15, q_16, q_17, q_18, q_19, q_20, q_21, q_22, q_23, q_24, q_25, q_26, q_27, q_28, q_29, q_30, q_31, q_32, q_33, q_34, q_35, q_36, q_37, q_38, q_39, q_40, q_41, q_42, q_43, q_44, q_45, q_46, q_47, q_48, q_49, q_50, q_51, q_52, q_53, q_63, q_64, q_126, q_128, q_255, q_512, q_1024, q_1026, q_2000, q_2048, q_2049, q_4095, q_4096, q_8192, q_16383, q_65535, q_65536, q_69632, q_131072, q_132000, q_262144, q_300000, q_1000000, q_lt_t, q_lt_f, q_le_t, q_le_f, q_eq_t, q_eq_f, q_cl, q_add, q_mul, q_sub, q_nle_f, q_nle_t, q_nlt_f, q_nlt_t, q_neq_f, eq_self, q_n1, q_n2, q_m1, q_m1', q_m2, q_m21, q_m0, q_ml, upd_e, upd_n, updL_e, updL_n, updF_e, updF_n, let_d, tk_s, bind_s, or_false, false_or, and_true, true_and, if_true, if_false, ite_true, ite_false, reduceIte, not_true, not_false_iff, Nat.zero_add, Nat.add_zero, Nat.sub_zero, h1, h', hw]
      rfl
    · rw [if_neg h]
      have h' : ¬ lg_cmp (-w.toInt64) (-w.toInt64).toInt32.toInt64 = nI 0 := fun e => h ((lg_cmp_eq _ _).mp e)
      simp (disch := omega) only [q_o, q_0, q_1, q_2, q_3, q_4, q_5, q_6, q_7, q_8, q_9, q_10, q_11, q_12, q_13, q_14, q_15, q_16, q_17, q_18, q_19, q_20, q_21, q_22, q_23, q_24, q_25, q_26, q_27, q_28, q_29, q_30, q_31, q_32, q_33, q_34, q_35, q_36, q_37, q_38, q_39, q_40, q_41, q_42, q_43, q_44, q_45, q_46, q_47, q_48, q_49, q_50, q_51, q_52, q_53, q_63, q_64, q_126, q_128, q_255, q_512, q_1024, q_1026, q_2000, q_2048, q_2049, q_4095, q_4096, q_8192, q_16383, q_65535, q_65536, q_69632, q_131072, q_132000, q_262144, q_300000, q_1000000, q_lt_t, q_lt_f, q_le_t, q_le_f, q_eq_t, q_eq_f, q_cl, q_add, q_mul, q_sub, q_nle_f, q_nle_t, q_nlt_f, q_nlt_t, q_neq_f, eq_self, q_n1, q_n2, q_m1, q_m1', q_m2, q_m21, q_m0, q_ml, upd_e, upd_n, updL_e, updL_n, updF_e, updF_n, let_d, tk_s, bind_s, or_false, false_or, and_true, true_and, if_true, if_false, ite_true, ite_false, reduceIte, not_true, not_false_iff, Nat.zero_add, Nat.add_zero, Nat.sub_zero, h1, h', hw]
      exact bind_3 _
theorem nm_5 {v w : Int32} (h1 : m_Model_scalar N I F (nI 1) = some w) (h2 : m_Model_scalar N I F (nI 2) = some v) : m_Model_numbers N I F (nI 5) (nI 0) = Sum.elim (fun g => m_Model_raiseGlobal N I F (nI 2) (nI g)) (gvR N I F 2) (oN 5 v w) := by
  unfold m_Model_numbers lm_Model_numbers_1 lm_Model_numbers_2
  simp (disch := omega) only [q_o, q_0, q_1, q_2, q_3, q_4, q_5, q_6, q_7, q_8, q_9, q_10, q_11, q_12, q_13, q_14, q_15, q_16, q_17, q_18, q_19, q_20, q_21, q_22, q_23, q_24, q_25, q_26, q_27, q_28, q_29, q_30, q_31, q_32, q_33, q_34, q_35, q_36, q_37, q_38, q_39, q_40, q_41, q_42, q_43, q_44, q_45, q_46, q_47, q_48, q_49, q_50, q_51, q_52, q_53, q_63, q_64, q_126, q_128, q_255, q_512, q_1024, q_1026, q_2000, q_2048, q_2049, q_4095, q_4096, q_8192, q_16383, q_65535, q_65536, q_69632, q_131072, q_132000, q_262144, q_300000, q_1000000, q_lt_t, q_lt_f, q_le_t, q_le_f, q_eq_t, q_eq_f, q_cl, q_add, q_mul, q_sub, q_nle_f, q_nle_t, q_nlt_f, q_nlt_t, q_neq_f, eq_self, q_n1, q_n2, q_m1, q_m1', q_m2, q_m21, q_m0, q_ml, upd_e, upd_n, updL_e, updL_n, updF_e, updF_n, let_d, tk_s, bind_s, or_false, false_or, and_true, true_and, if_true, if_false, ite_true, ite_false, reduceIte, not_true, not_false_iff, Nat.zero_add, Nat.add_zero, Nat.sub_zero, h1, h2]
  refine (bind_3 _).trans ?_
  by_cases h : w = nI 0
  · subst h
    rw [oN_0 (by omega), div_0]
    rfl
  · rw [oN_c (Or.inl h), div_5 h]
theorem nm_6 {v w : Int32} (h1 : m_Model_scalar N I F (nI 1) = some w) (h2 : m_Model_scalar N I F (nI 2) = some v) : m_Model_numbers N I F (nI 6) (nI 0) = Sum.elim (fun g => m_Model_raiseGlobal N I F (nI 2) (nI g)) (gvR N I F 2) (oN 6 v w) := by
  unfold m_Model_numbers lm_Model_numbers_1 lm_Model_numbers_2
  simp (disch := omega) only [q_o, q_0, q_1, q_2, q_3, q_4, q_5, q_6, q_7, q_8, q_9, q_10, q_11, q_12, q_13, q_14, q_15, q_16, q_17, q_18, q_19, q_20, q_21, q_22, q_23, q_24, q_25, q_26, q_27, q_28, q_29, q_30, q_31, q_32, q_33, q_34, q_35, q_36, q_37, q_38, q_39, q_40, q_41, q_42, q_43, q_44, q_45, q_46, q_47, q_48, q_49, q_50, q_51, q_52, q_53, q_63, q_64, q_126, q_128, q_255, q_512, q_1024, q_1026, q_2000, q_2048, q_2049, q_4095, q_4096, q_8192, q_16383, q_65535, q_65536, q_69632, q_131072, q_132000, q_262144, q_300000, q_1000000, q_lt_t, q_lt_f, q_le_t, q_le_f, q_eq_t, q_eq_f, q_cl, q_add, q_mul, q_sub, q_nle_f, q_nle_t, q_nlt_f, q_nlt_t, q_neq_f, eq_self, q_n1, q_n2, q_m1, q_m1', q_m2, q_m21, q_m0, q_ml, upd_e, upd_n, updL_e, updL_n, updF_e, updF_n, let_d, tk_s, bind_s, or_false, false_or, and_true, true_and, if_true, if_false, ite_true, ite_false, reduceIte, not_true, not_false_iff, Nat.zero_add, Nat.add_zero, Nat.sub_zero, h1, h2]
  refine (bind_3 _).trans ?_
  by_cases h : w = nI 0
  · subst h
    rw [oN_0 (by omega), div_0]
    rfl
  · rw [oN_c (Or.inl h), div_6 h]
    have hr := fM_r v w h
    rw [show rr 6 v w = fM v.toInt64 w.toInt64 from rfl, chk_r hr.1 hr.2]
    rfl
theorem nm_14 {v w : Int32} (h1 : m_Model_scalar N I F (nI 1) = some w) (h2 : m_Model_scalar N I F (nI 2) = some v) : m_Model_numbers N I F (nI 14) (nI 0) = Sum.elim (fun g => m_Model_raiseGlobal N I F (nI 2) (nI g)) (gvR N I F 2) (oN 14 v w) := by
  unfold m_Model_numbers lm_Model_numbers_1 lm_Model_numbers_2
  simp (disch := omega) only [q_o, q_0, q_1, q_2, q_3, q_4, q_5, q_6, q_7, q_8, q_9, q_10, q_11, q_12, q_13, q_14, q_15, q_16, q_17, q_18, q_19, q_20, q_21, q_22, q_23, q_24, q_25, q_26, q_27, q_28, q_29, q_30, q_31, q_32, q_33, q_34, q_35, q_36, q_37, q_38, q_39, q_40, q_41, q_42, q_43, q_44, q_45, q_46, q_47, q_48, q_49, q_50, q_51, q_52, q_53, q_63, q_64, q_126, q_128, q_255, q_512, q_1024, q_1026, q_2000, q_2048, q_2049, q_4095, q_4096, q_8192, q_16383, q_65535, q_65536, q_69632, q_131072, q_132000, q_262144, q_300000, q_1000000, q_lt_t, q_lt_f, q_le_t, q_le_f, q_eq_t, q_eq_f, q_cl, q_add, q_mul, q_sub, q_nle_f, q_nle_t, q_nlt_f, q_nlt_t, q_neq_f, eq_self, q_n1, q_n2, q_m1, q_m1', q_m2, q_m21, q_m0, q_ml, upd_e, upd_n, updL_e, updL_n, updF_e, updF_n, let_d, tk_s, bind_s, or_false, false_or, and_true, true_and, if_true, if_false, ite_true, ite_false, reduceIte, not_true, not_false_iff, Nat.zero_add, Nat.add_zero, Nat.sub_zero, h1, h2]
  refine (bind_3 _).trans ?_
  by_cases h : w = nI 0
  · subst h
    rw [oN_0 (by omega), div_0]
    rfl
  · rw [oN_c (Or.inl h), div_14 h]
    show _ = Sum.elim _ _ (chk (Int32.toInt64 _))
    rw [chk_i]
    rfl
theorem nm_15 {v w : Int32} (h1 : m_Model_scalar N I F (nI 1) = some w) (h2 : m_Model_scalar N I F (nI 2) = some v) : m_Model_numbers N I F (nI 15) (nI 0) = Sum.elim (fun g => m_Model_raiseGlobal N I F (nI 2) (nI g)) (gvR N I F 2) (oN 15 v w) := by
  unfold m_Model_numbers lm_Model_numbers_1 lm_Model_numbers_2
  simp (disch := omega) only [q_o, q_0, q_1, q_2, q_3, q_4, q_5, q_6, q_7, q_8, q_9, q_10, q_11, q_12, q_13, q_14, q_15, q_16, q_17, q_18, q_19, q_20, q_21, q_22, q_23, q_24, q_25, q_26, q_27, q_28, q_29, q_30, q_31, q_32, q_33, q_34, q_35, q_36, q_37, q_38, q_39, q_40, q_41, q_42, q_43, q_44, q_45, q_46, q_47, q_48, q_49, q_50, q_51, q_52, q_53, q_63, q_64, q_126, q_128, q_255, q_512, q_1024, q_1026, q_2000, q_2048, q_2049, q_4095, q_4096, q_8192, q_16383, q_65535, q_65536, q_69632, q_131072, q_132000, q_262144, q_300000, q_1000000, q_lt_t, q_lt_f, q_le_t, q_le_f, q_eq_t, q_eq_f, q_cl, q_add, q_mul, q_sub, q_nle_f, q_nle_t, q_nlt_f, q_nlt_t, q_neq_f, eq_self, q_n1, q_n2, q_m1, q_m1', q_m2, q_m21, q_m0, q_ml, upd_e, upd_n, updL_e, updL_n, updF_e, updF_n, let_d, tk_s, bind_s, or_false, false_or, and_true, true_and, if_true, if_false, ite_true, ite_false, reduceIte, not_true, not_false_iff, Nat.zero_add, Nat.add_zero, Nat.sub_zero, h1, h2]
  refine (bind_3 _).trans ?_
  by_cases h : w = nI 0
  · subst h
    rw [oN_0 (by omega), div_0]
    rfl
  · rw [oN_c (Or.inl h), div_15 h]
    show _ = Sum.elim _ _ (chk (Int32.toInt64 _))
    rw [chk_i]
    rfl
theorem nm_7 {v w : Int32} (h1 : m_Model_scalar N I F (nI 1) = some w) (h2 : m_Model_scalar N I F (nI 2) = some v) : m_Model_numbers N I F (nI 7) (nI 0) = Sum.elim (fun g => m_Model_raiseGlobal N I F (nI 2) (nI g)) (gvR N I F 2) (oN 7 v w) := by
  rw [oN_c (Or.inr (by omega)), cp_7]
  unfold m_Model_numbers lm_Model_numbers_1 lm_Model_numbers_2
  simp (disch := omega) only [q_o, q_0, q_1, q_2, q_3, q_4, q_5, q_6, q_7, q_8, q_9, q_10, q_11, q_12, q_13, q_14, q_15, q_16, q_17, q_18, q_19, q_20, q_21, q_22, q_23, q_24, q_25, q_26, q_27, q_28, q_29, q_30, q_31, q_32, q_33, q_34, q_35, q_36, q_37, q_38, q_39, q_40, q_41, q_42, q_43, q_44, q_45, q_46, q_47, q_48, q_49, q_50, q_51, q_52, q_53, q_63, q_64, q_126, q_128, q_255, q_512, q_1024, q_1026, q_2000, q_2048, q_2049, q_4095, q_4096, q_8192, q_16383, q_65535, q_65536, q_69632, q_131072, q_132000, q_262144, q_300000, q_1000000, q_lt_t, q_lt_f, q_le_t, q_le_f, q_eq_t, q_eq_f, q_cl, q_add, q_mul, q_sub, q_nle_f, q_nle_t, q_nlt_f, q_nlt_t, q_neq_f, eq_self, q_n1, q_n2, q_m1, q_m1', q_m2, q_m21, q_m0, q_ml, upd_e, upd_n, updL_e, updL_n, updF_e, updF_n, let_d, tk_s, bind_s, or_false, false_or, and_true, true_and, if_true, if_false, ite_true, ite_false, reduceIte, not_true, not_false_iff, Nat.zero_add, Nat.add_zero, Nat.sub_zero, h1, h2, pl_7]
  rfl
theorem nm_8 {v w : Int32} (h1 : m_Model_scalar N I F (nI 1) = some w) (h2 : m_Model_scalar N I F (nI 2) = some v) : m_Model_numbers N I F (nI 8) (nI 0) = Sum.elim (fun g => m_Model_raiseGlobal N I F (nI 2) (nI g)) (gvR N I F 2) (oN 8 v w) := by
  rw [oN_c (Or.inr (by omega)), cp_8]
  unfold m_Model_numbers lm_Model_numbers_1 lm_Model_numbers_2
  simp (disch := omega) only [q_o, q_0, q_1, q_2, q_3, q_4, q_5, q_6, q_7, q_8, q_9, q_10, q_11, q_12, q_13, q_14, q_15, q_16, q_17, q_18, q_19, q_20, q_21, q_22, q_23, q_24, q_25, q_26, q_27, q_28, q_29, q_30, q_31, q_32, q_33, q_34, q_35, q_36, q_37, q_38, q_39, q_40, q_41, q_42, q_43, q_44, q_45, q_46, q_47, q_48, q_49, q_50, q_51, q_52, q_53, q_63, q_64, q_126, q_128, q_255, q_512, q_1024, q_1026, q_2000, q_2048, q_2049, q_4095, q_4096, q_8192, q_16383, q_65535, q_65536, q_69632, q_131072, q_132000, q_262144, q_300000, q_1000000, q_lt_t, q_lt_f, q_le_t, q_le_f, q_eq_t, q_eq_f, q_cl, q_add, q_mul, q_sub, q_nle_f, q_nle_t, q_nlt_f, q_nlt_t, q_neq_f, eq_self, q_n1, q_n2, q_m1, q_m1', q_m2, q_m21, q_m0, q_ml, upd_e, upd_n, updL_e, updL_n, updF_e, updF_n, let_d, tk_s, bind_s, or_false, false_or, and_true, true_and, if_true, if_false, ite_true, ite_false, reduceIte, not_true, not_false_iff, Nat.zero_add, Nat.add_zero, Nat.sub_zero, h1, h2, pl_8]
  rfl
theorem nm_9 {v w : Int32} (h1 : m_Model_scalar N I F (nI 1) = some w) (h2 : m_Model_scalar N I F (nI 2) = some v) : m_Model_numbers N I F (nI 9) (nI 0) = Sum.elim (fun g => m_Model_raiseGlobal N I F (nI 2) (nI g)) (gvR N I F 2) (oN 9 v w) := by
  rw [oN_c (Or.inr (by omega)), cp_9]
  unfold m_Model_numbers lm_Model_numbers_1 lm_Model_numbers_2
  simp (disch := omega) only [q_o, q_0, q_1, q_2, q_3, q_4, q_5, q_6, q_7, q_8, q_9, q_10, q_11, q_12, q_13, q_14, q_15, q_16, q_17, q_18, q_19, q_20, q_21, q_22, q_23, q_24, q_25, q_26, q_27, q_28, q_29, q_30, q_31, q_32, q_33, q_34, q_35, q_36, q_37, q_38, q_39, q_40, q_41, q_42, q_43, q_44, q_45, q_46, q_47, q_48, q_49, q_50, q_51, q_52, q_53, q_63, q_64, q_126, q_128, q_255, q_512, q_1024, q_1026, q_2000, q_2048, q_2049, q_4095, q_4096, q_8192, q_16383, q_65535, q_65536, q_69632, q_131072, q_132000, q_262144, q_300000, q_1000000, q_lt_t, q_lt_f, q_le_t, q_le_f, q_eq_t, q_eq_f, q_cl, q_add, q_mul, q_sub, q_nle_f, q_nle_t, q_nlt_f, q_nlt_t, q_neq_f, eq_self, q_n1, q_n2, q_m1, q_m1', q_m2, q_m21, q_m0, q_ml, upd_e, upd_n, updL_e, updL_n, updF_e, updF_n, let_d, tk_s, bind_s, or_false, false_or, and_true, true_and, if_true, if_false, ite_true, ite_false, reduceIte, not_true, not_false_iff, Nat.zero_add, Nat.add_zero, Nat.sub_zero, h1, h2, pl_9]
  rfl
theorem nm_10 {v w : Int32} (h1 : m_Model_scalar N I F (nI 1) = some w) (h2 : m_Model_scalar N I F (nI 2) = some v) : m_Model_numbers N I F (nI 10) (nI 0) = Sum.elim (fun g => m_Model_raiseGlobal N I F (nI 2) (nI g)) (gvR N I F 2) (oN 10 v w) := by
  rw [oN_c (Or.inr (by omega)), cp_10]
  unfold m_Model_numbers lm_Model_numbers_1 lm_Model_numbers_2
  simp (disch := omega) only [q_o, q_0, q_1, q_2, q_3, q_4, q_5, q_6, q_7, q_8, q_9, q_10, q_11, q_12, q_13, q_14, q_15, q_16, q_17, q_18, q_19, q_20, q_21, q_22, q_23, q_24, q_25, q_26, q_27, q_28, q_29, q_30, q_31, q_32, q_33, q_34, q_35, q_36, q_37, q_38, q_39, q_40, q_41, q_42, q_43, q_44, q_45, q_46, q_47, q_48, q_49, q_50, q_51, q_52, q_53, q_63, q_64, q_126, q_128, q_255, q_512, q_1024, q_1026, q_2000, q_2048, q_2049, q_4095, q_4096, q_8192, q_16383, q_65535, q_65536, q_69632, q_131072, q_132000, q_262144, q_300000, q_1000000, q_lt_t, q_lt_f, q_le_t, q_le_f, q_eq_t, q_eq_f, q_cl, q_add, q_mul, q_sub, q_nle_f, q_nle_t, q_nlt_f, q_nlt_t, q_neq_f, eq_self, q_n1, q_n2, q_m1, q_m1', q_m2, q_m21, q_m0, q_ml, upd_e, upd_n, updL_e, updL_n, updF_e, updF_n, let_d, tk_s, bind_s, or_false, false_or, and_true, true_and, if_true, if_false, ite_true, ite_false, reduceIte, not_true, not_false_iff, Nat.zero_add, Nat.add_zero, Nat.sub_zero, h1, h2, pl_10]
  rfl
theorem nm_11 {v w : Int32} (h1 : m_Model_scalar N I F (nI 1) = some w) (h2 : m_Model_scalar N I F (nI 2) = some v) : m_Model_numbers N I F (nI 11) (nI 0) = Sum.elim (fun g => m_Model_raiseGlobal N I F (nI 2) (nI g)) (gvR N I F 2) (oN 11 v w) := by
  rw [oN_c (Or.inr (by omega)), cp_11]
  unfold m_Model_numbers lm_Model_numbers_1 lm_Model_numbers_2
  simp (disch := omega) only [q_o, q_0, q_1, q_2, q_3, q_4, q_5, q_6, q_7, q_8, q_9, q_10, q_11, q_12, q_13, q_14, q_15, q_16, q_17, q_18, q_19, q_20, q_21, q_22, q_23, q_24, q_25, q_26, q_27, q_28, q_29, q_30, q_31, q_32, q_33, q_34, q_35, q_36, q_37, q_38, q_39, q_40, q_41, q_42, q_43, q_44, q_45, q_46, q_47, q_48, q_49, q_50, q_51, q_52, q_53, q_63, q_64, q_126, q_128, q_255, q_512, q_1024, q_1026, q_2000, q_2048, q_2049, q_4095, q_4096, q_8192, q_16383, q_65535, q_65536, q_69632, q_131072, q_132000, q_262144, q_300000, q_1000000, q_lt_t, q_lt_f, q_le_t, q_le_f, q_eq_t, q_eq_f, q_cl, q_add, q_mul, q_sub, q_nle_f, q_nle_t, q_nlt_f, q_nlt_t, q_neq_f, eq_self, q_n1, q_n2, q_m1, q_m1', q_m2, q_m21, q_m0, q_ml, upd_e, upd_n, updL_e, updL_n, updF_e, updF_n, let_d, tk_s, bind_s, or_false, false_or, and_true, true_and, if_true, if_false, ite_true, ite_false, reduceIte, not_true, not_false_iff, Nat.zero_add, Nat.add_zero, Nat.sub_zero, h1, h2, pl_11]
  rfl
theorem nm_12 {v w : Int32} (h1 : m_Model_scalar N I F (nI 1) = some w) (h2 : m_Model_scalar N I F (nI 2) = some v) : m_Model_numbers N I F (nI 12) (nI 0) = Sum.elim (fun g => m_Model_raiseGlobal N I F (nI 2) (nI g)) (gvR N I F 2) (oN 12 v w) := by
  rw [oN_c (Or.inr (by omega)), cp_12]
  unfold m_Model_numbers lm_Model_numbers_1 lm_Model_numbers_2
  simp (disch := omega) only [q_o, q_0, q_1, q_2, q_3, q_4, q_5, q_6, q_7, q_8, q_9, q_10, q_11, q_12, q_13, q_14, q_15, q_16, q_17, q_18, q_19, q_20, q_21, q_22, q_23, q_24, q_25, q_26, q_27, q_28, q_29, q_30, q_31, q_32, q_33, q_34, q_35, q_36, q_37, q_38, q_39, q_40, q_41, q_42, q_43, q_44, q_45, q_46, q_47, q_48, q_49, q_50, q_51, q_52, q_53, q_63, q_64, q_126, q_128, q_255, q_512, q_1024, q_1026, q_2000, q_2048, q_2049, q_4095, q_4096, q_8192, q_16383, q_65535, q_65536, q_69632, q_131072, q_132000, q_262144, q_300000, q_1000000, q_lt_t, q_lt_f, q_le_t, q_le_f, q_eq_t, q_eq_f, q_cl, q_add, q_mul, q_sub, q_nle_f, q_nle_t, q_nlt_f, q_nlt_t, q_neq_f, eq_self, q_n1, q_n2, q_m1, q_m1', q_m2, q_m21, q_m0, q_ml, upd_e, upd_n, updL_e, updL_n, updF_e, updF_n, let_d, tk_s, bind_s, or_false, false_or, and_true, true_and, if_true, if_false, ite_true, ite_false, reduceIte, not_true, not_false_iff, Nat.zero_add, Nat.add_zero, Nat.sub_zero, h1, h2, pl_12]
  rfl
theorem nm_13 {v w : Int32} (h1 : m_Model_scalar N I F (nI 1) = some w) (h2 : m_Model_scalar N I F (nI 2) = some v) : m_Model_numbers N I F (nI 13) (nI 0) = Sum.elim (fun g => m_Model_raiseGlobal N I F (nI 2) (nI g)) (gvR N I F 2) (oN 13 v w) := by
  rw [oN_c (Or.inr (by omega)), cp_13]
  unfold m_Model_numbers lm_Model_numbers_1 lm_Model_numbers_2
  simp (disch := omega) only [q_o, q_0, q_1, q_2, q_3, q_4, q_5, q_6, q_7, q_8, q_9, q_10, q_11, q_12, q_13, q_14, q_15, q_16, q_17, q_18, q_19, q_20, q_21, q_22, q_23, q_24, q_25, q_26, q_27, q_28, q_29, q_30, q_31, q_32, q_33, q_34, q_35, q_36, q_37, q_38, q_39, q_40, q_41, q_42, q_43, q_44, q_45, q_46, q_47, q_48, q_49, q_50, q_51, q_52, q_53, q_63, q_64, q_126, q_128, q_255, q_512, q_1024, q_1026, q_2000, q_2048, q_2049, q_4095, q_4096, q_8192, q_16383, q_65535, q_65536, q_69632, q_131072, q_132000, q_262144, q_300000, q_1000000, q_lt_t, q_lt_f, q_le_t, q_le_f, q_eq_t, q_eq_f, q_cl, q_add, q_mul, q_sub, q_nle_f, q_nle_t, q_nlt_f, q_nlt_t, q_neq_f, eq_self, q_n1, q_n2, q_m1, q_m1', q_m2, q_m21, q_m0, q_ml, upd_e, upd_n, updL_e, updL_n, updF_e, updF_n, let_d, tk_s, bind_s, or_false, false_or, and_true, true_and, if_true, if_false, ite_true, ite_false, reduceIte, not_true, not_false_iff, Nat.zero_add, Nat.add_zero, Nat.sub_zero, h1, h2, pl_13]
  rfl
theorem nm_16 {v w : Int32} (h1 : m_Model_scalar N I F (nI 1) = some w) (h2 : m_Model_scalar N I F (nI 2) = some v) : m_Model_numbers N I F (nI 16) (nI 0) = Sum.elim (fun g => m_Model_raiseGlobal N I F (nI 2) (nI g)) (gvR N I F 2) (oN 16 v w) := by
  rw [oN_c (Or.inr (by omega)), cp_16]
  unfold m_Model_numbers lm_Model_numbers_1 lm_Model_numbers_2
  simp (disch := omega) only [q_o, q_0, q_1, q_2, q_3, q_4, q_5, q_6, q_7, q_8, q_9, q_10, q_11, q_12, q_13, q_14, q_15, q_16, q_17, q_18, q_19, q_20, q_21, q_22, q_23, q_24, q_25, q_26, q_27, q_28, q_29, q_30, q_31, q_32, q_33, q_34, q_35, q_36, q_37, q_38, q_39, q_40, q_41, q_42, q_43, q_44, q_45, q_46, q_47, q_48, q_49, q_50, q_51, q_52, q_53, q_63, q_64, q_126, q_128, q_255, q_512, q_1024, q_1026, q_2000, q_2048, q_2049, q_4095, q_4096, q_8192, q_16383, q_65535, q_65536, q_69632, q_131072, q_132000, q_262144, q_300000, q_1000000, q_lt_t, q_lt_f, q_le_t, q_le_f, q_eq_t, q_eq_f, q_cl, q_add, q_mul, q_sub, q_nle_f, q_nle_t, q_nlt_f, q_nlt_t, q_neq_f, eq_self, q_n1, q_n2, q_m1, q_m1', q_m2, q_m21, q_m0, q_ml, upd_e, upd_n, updL_e, updL_n, updF_e, updF_n, let_d, tk_s, bind_s, or_false, false_or, and_true, true_and, if_true, if_false, ite_true, ite_false, reduceIte, not_true, not_false_iff, Nat.zero_add, Nat.add_zero, Nat.sub_zero, h1, h2, pl_16]
  rfl
theorem nm_17 {v w : Int32} (h1 : m_Model_scalar N I F (nI 1) = some w) (h2 : m_Model_scalar N I F (nI 2) = some v) : m_Model_numbers N I F (nI 17) (nI 0) = Sum.elim (fun g => m_Model_raiseGlobal N I F (nI 2) (nI g)) (gvR N I F 2) (oN 17 v w) := by
  rw [oN_c (Or.inr (by omega)), cp_17]
  unfold m_Model_numbers lm_Model_numbers_1 lm_Model_numbers_2
  simp (disch := omega) only [q_o, q_0, q_1, q_2, q_3, q_4, q_5, q_6, q_7, q_8, q_9, q_10, q_11, q_12, q_13, q_14, q_15, q_16, q_17, q_18, q_19, q_20, q_21, q_22, q_23, q_24, q_25, q_26, q_27, q_28, q_29, q_30, q_31, q_32, q_33, q_34, q_35, q_36, q_37, q_38, q_39, q_40, q_41, q_42, q_43, q_44, q_45, q_46, q_47, q_48, q_49, q_50, q_51, q_52, q_53, q_63, q_64, q_126, q_128, q_255, q_512, q_1024, q_1026, q_2000, q_2048, q_2049, q_4095, q_4096, q_8192, q_16383, q_65535, q_65536, q_69632, q_131072, q_132000, q_262144, q_300000, q_1000000, q_lt_t, q_lt_f, q_le_t, q_le_f, q_eq_t, q_eq_f, q_cl, q_add, q_mul, q_sub, q_nle_f, q_nle_t, q_nlt_f, q_nlt_t, q_neq_f, eq_self, q_n1, q_n2, q_m1, q_m1', q_m2, q_m21, q_m0, q_ml, upd_e, upd_n, updL_e, updL_n, updF_e, updF_n, let_d, tk_s, bind_s, or_false, false_or, and_true, true_and, if_true, if_false, ite_true, ite_false, reduceIte, not_true, not_false_iff, Nat.zero_add, Nat.add_zero, Nat.sub_zero, h1, h2, pl_17]
  rfl
theorem nm_18 {v w : Int32} (h1 : m_Model_scalar N I F (nI 1) = some w) (h2 : m_Model_scalar N I F (nI 2) = some v) : m_Model_numbers N I F (nI 18) (nI 0) = Sum.elim (fun g => m_Model_raiseGlobal N I F (nI 2) (nI g)) (gvR N I F 2) (oN 18 v w) := by
  rw [oN_c (Or.inr (by omega)), cp_18]
  unfold m_Model_numbers lm_Model_numbers_1 lm_Model_numbers_2
  simp (disch := omega) only [q_o, q_0, q_1, q_2, q_3, q_4, q_5, q_6, q_7, q_8, q_9, q_10, q_11, q_12, q_13, q_14, q_15, q_16, q_17, q_18, q_19, q_20, q_21, q_22, q_23, q_24, q_25, q_26, q_27, q_28, q_29, q_30, q_31, q_32, q_33, q_34, q_35, q_36, q_37, q_38, q_39, q_40, q_41, q_42, q_43, q_44, q_45, q_46, q_47, q_48, q_49, q_50, q_51, q_52, q_53, q_63, q_64, q_126, q_128, q_255, q_512, q_1024, q_1026, q_2000, q_2048, q_2049, q_4095, q_4096, q_8192, q_16383, q_65535, q_65536, q_69632, q_131072, q_132000, q_262144, q_300000, q_1000000, q_lt_t, q_lt_f, q_le_t, q_le_f, q_eq_t, q_eq_f, q_cl, q_add, q_mul, q_sub, q_nle_f, q_nle_t, q_nlt_f, q_nlt_t, q_neq_f, eq_self, q_n1, q_n2, q_m1, q_m1', q_m2, q_m21, q_m0, q_ml, upd_e, upd_n, updL_e, updL_n, updF_e, updF_n, let_d, tk_s, bind_s, or_false, false_or, and_true, true_and, if_true, if_false, ite_true, ite_false, reduceIte, not_true, not_false_iff, Nat.zero_add, Nat.add_zero, Nat.sub_zero, h1, h2, pl_18]
  rfl
theorem nm_19 {v w : Int32} (h1 : m_Model_scalar N I F (nI 1) = some w) (h2 : m_Model_scalar N I F (nI 2) = some v) : m_Model_numbers N I F (nI 19) (nI 0) = Sum.elim (fun g => m_Model_raiseGlobal N I F (nI 2) (nI g)) (gvR N I F 2) (oN 19 v w) := by
  rw [oN_c (Or.inr (by omega)), cp_19]
  unfold m_Model_numbers lm_Model_numbers_1 lm_Model_numbers_2
  simp (disch := omega) only [q_o, q_0, q_1, q_2, q_3, q_4, q_5, q_6, q_7, q_8, q_9, q_10, q_11, q_12, q_13, q_14, q_15, q_16, q_17, q_18, q_19, q_20, q_21, q_22, q_23, q_24, q_25, q_26, q_27, q_28, q_29, q_30, q_31, q_32, q_33, q_34, q_35, q_36, q_37, q_38, q_39, q_40, q_41, q_42, q_43, q_44, q_45, q_46, q_47, q_48, q_49, q_50, q_51, q_52, q_53, q_63, q_64, q_126, q_128, q_255, q_512, q_1024, q_1026, q_2000, q_2048, q_2049, q_4095, q_4096, q_8192, q_16383, q_65535, q_65536, q_69632, q_131072, q_132000, q_262144, q_300000, q_1000000, q_lt_t, q_lt_f, q_le_t, q_le_f, q_eq_t, q_eq_f, q_cl, q_add, q_mul, q_sub, q_nle_f, q_nle_t, q_nlt_f, q_nlt_t, q_neq_f, eq_self, q_n1, q_n2, q_m1, q_m1', q_m2, q_m21, q_m0, q_ml, upd_e, upd_n, updL_e, updL_n, updF_e, updF_n, let_d, tk_s, bind_s, or_false, false_or, and_true, true_and, if_true, if_false, ite_true, ite_false, reduceIte, not_true, not_false_iff, Nat.zero_add, Nat.add_zero, Nat.sub_zero, h1, h2, pl_19]
  rfl
theorem nm_20 {v w : Int32} (h1 : m_Model_scalar N I F (nI 1) = some w) (h2 : m_Model_scalar N I F (nI 2) = some v) : m_Model_numbers N I F (nI 20) (nI 0) = Sum.elim (fun g => m_Model_raiseGlobal N I F (nI 2) (nI g)) (gvR N I F 2) (oN 20 v w) := by
  rw [oN_c (Or.inr (by omega)), cp_20]
  unfold m_Model_numbers lm_Model_numbers_1 lm_Model_numbers_2
  simp (disch := omega) only [q_o, q_0, q_1, q_2, q_3, q_4, q_5, q_6, q_7, q_8, q_9, q_10, q_11, q_12, q_13, q_14, q_15, q_16, q_17, q_18, q_19, q_20, q_21, q_22, q_23, q_24, q_25, q_26, q_27, q_28, q_29, q_30, q_31, q_32, q_33, q_34, q_35, q_36, q_37, q_38, q_39, q_40, q_41, q_42, q_43, q_44, q_45, q_46, q_47, q_48, q_49, q_50, q_51, q_52, q_53, q_63, q_64, q_126, q_128, q_255, q_512, q_1024, q_1026, q_2000, q_2048, q_2049, q_4095, q_4096, q_8192, q_16383, q_65535, q_65536, q_69632, q_131072, q_132000, q_262144, q_300000, q_1000000, q_lt_t, q_lt_f, q_le_t, q_le_f, q_eq_t, q_eq_f, q_cl, q_add, q_mul, q_sub, q_nle_f, q_nle_t, q_nlt_f, q_nlt_t, q_neq_f, eq_self, q_n1, q_n2, q_m1, q_m1', q_m2, q_m21, q_m0, q_ml, upd_e, upd_n, updL_e, updL_n, updF_e, updF_n, let_d, tk_s, bind_s, or_false, false_or, and_true, true_and, if_true, if_false, ite_true, ite_false, reduceIte, not_true, not_false_iff, Nat.zero_add, Nat.add_zero, Nat.sub_zero, h1, h2, pl_20]
  rfl
theorem nm_21 {v w : Int32} (h1 : m_Model_scalar N I F (nI 1) = some w) (h2 : m_Model_scalar N I F (nI 2) = some v) : m_Model_numbers N I F (nI 21) (nI 0) = Sum.elim (fun g => m_Model_raiseGlobal N I F (nI 2) (nI g)) (gvR N I F 2) (oN 21 v w) := by
  rw [oN_c (Or.inr (by omega)), cp_21]
  unfold m_Model_numbers lm_Model_numbers_1 lm_Model_numbers_2
  simp (disch := omega) only [q_o, q_0, q_1, q_2, q_3, q_4, q_5, q_6, q_7, q_8, q_9, q_10, q_11, q_12, q_13, q_14, q_15, q_16, q_17, q_18, q_19, q_20, q_21, q_22, q_23, q_24, q_25, q_26, q_27, q_28, q_29, q_30, q_31, q_32, q_33, q_34, q_35, q_36, q_37, q_38, q_39, q_40, q_41, q_42, q_43, q_44, q_45, q_46, q_47, q_48, q_49, q_50, q_51, q_52, q_53, q_63, q_64, q_126, q_128, q_255, q_512, q_1024, q_1026, q_2000, q_2048, q_2049, q_4095, q_4096, q_8192, q_16383, q_65535, q_65536, q_69632, q_131072, q_132000, q_262144, q_300000, q_1000000, q_lt_t, q_lt_f, q_le_t, q_le_f, q_eq_t, q_eq_f, q_cl, q_add, q_mul, q_sub, q_nle_f, q_nle_t, q_nlt_f, q_nlt_t, q_neq_f, eq_self, q_n1, q_n2, q_m1, q_m1', q_m2, q_m21, q_m0, q_ml, upd_e, upd_n, updL_e, updL_n, updF_e, updF_n, let_d, tk_s, bind_s, or_false, false_or, and_true, true_and, if_true, if_false, ite_true, ite_false, reduceIte, not_true, not_false_iff, Nat.zero_add, Nat.add_zero, Nat.sub_zero, h1, h2, pl_21]
  rfl
theorem nm_22 {v w : Int32} (h1 : m_Model_scalar N I F (nI 1) = some w) (h2 : m_Model_scalar N I F (nI 2) = some v) : m_Model_numbers N I F (nI 22) (nI 0) = Sum.elim (fun g => m_Model_raiseGlobal N I F (nI 2) (nI g)) (gvR N I F 2) (oN 22 v w) := by
  rw [oN_c (Or.inr (by omega)), cp_22]
  unfold m_Model_numbers lm_Model_numbers_1 lm_Model_numbers_2
  simp (disch := omega) only [q_o, q_0, q_1, q_2, q_3, q_4, q_5, q_6, q_7, q_8, q_9, q_10, q_11, q_12, q_13, q_14, q_15, q_16, q_17, q_18, q_19, q_20, q_21, q_22, q_23, q_24, q_25, q_26, q_27, q_28, q_29, q_30, q_31, q_32, q_33, q_34, q_35, q_36, q_37, q_38, q_39, q_40, q_41, q_42, q_43, q_44, q_45, q_46, q_47, q_48, q_49, q_50, q_51, q_52, q_53, q_63, q_64, q_126, q_128, q_255, q_512, q_1024, q_1026, q_2000, q_2048, q_2049, q_4095, q_4096, q_8192, q_16383, q_65535, q_65536, q_69632, q_131072, q_132000, q_262144, q_300000, q_1000000, q_lt_t, q_lt_f, q_le_t, q_le_f, q_eq_t, q_eq_f, q_cl, q_add, q_mul, q_sub, q_nle_f, q_nle_t, q_nlt_f, q_nlt_t, q_neq_f, eq_self, q_n1, q_n2, q_m1, q_m1', q_m2, q_m21, q_m0, q_ml, upd_e, upd_n, updL_e, updL_n, updF_e, updF_n, let_d, tk_s, bind_s, or_false, false_or, and_true, true_and, if_true, if_false, ite_true, ite_false, reduceIte, not_true, not_false_iff, Nat.zero_add, Nat.add_zero, Nat.sub_zero, h1, h2, pl_22]
  rfl
theorem nm_24 {v w : Int32} (h1 : m_Model_scalar N I F (nI 1) = some w) (h2 : m_Model_scalar N I F (nI 2) = some v) : m_Model_numbers N I F (nI 24) (nI 0) = Sum.elim (fun g => m_Model_raiseGlobal N I F (nI 2) (nI g)) (gvR N I F 2) (oN 24 v w) := by
  rw [oN_c (Or.inr (by omega)), cp_24]
  unfold m_Model_numbers lm_Model_numbers_1 lm_Model_numbers_2
  simp (disch := omega) only [q_o, q_0, q_1, q_2, q_3, q_4, q_5, q_6, q_7, q_8, q_9, q_10, q_11, q_12, q_13, q_14, q_15, q_16, q_17, q_18, q_19, q_20, q_21, q_22, q_23, q_24, q_25, q_26, q_27, q_28, q_29, q_30, q_31, q_32, q_33, q_34, q_35, q_36, q_37, q_38, q_39, q_40, q_41, q_42, q_43, q_44, q_45, q_46, q_47, q_48, q_49, q_50, q_51, q_52, q_53, q_63, q_64, q_126, q_128, q_255, q_512, q_1024, q_1026, q_2000, q_2048, q_2049, q_4095, q_4096, q_8192, q_16383, q_65535, q_65536, q_69632, q_131072, q_132000, q_262144, q_300000, q_1000000, q_lt_t, q_lt_f, q_le_t, q_le_f, q_eq_t, q_eq_f, q_cl, q_add, q_mul, q_sub, q_nle_f, q_nle_t, q_nlt_f, q_nlt_t, q_neq_f, eq_self, q_n1, q_n2, q_m1, q_m1', q_m2, q_m21, q_m0, q_ml, upd_e, upd_n, updL_e, updL_n, updF_e, updF_n, let_d, tk_s, bind_s, or_false, false_or, and_true, true_and, if_true, if_false, ite_true, ite_false, reduceIte, not_true, not_false_iff, Nat.zero_add, Nat.add_zero, Nat.sub_zero, h1, h2, pl_24]
  rfl
theorem nm_25 {v w : Int32} (h1 : m_Model_scalar N I F (nI 1) = some w) (h2 : m_Model_scalar N I F (nI 2) = some v) : m_Model_numbers N I F (nI 25) (nI 0) = Sum.elim (fun g => m_Model_raiseGlobal N I F (nI 2) (nI g)) (gvR N I F 2) (oN 25 v w) := by
  rw [oN_c (Or.inr (by omega)), cp_25]
  unfold m_Model_numbers lm_Model_numbers_1 lm_Model_numbers_2
  simp (disch := omega) only [q_o, q_0, q_1, q_2, q_3, q_4, q_5, q_6, q_7, q_8, q_9, q_10, q_11, q_12, q_13, q_14, q_15, q_16, q_17, q_18, q_19, q_20, q_21, q_22, q_23, q_24, q_25, q_26, q_27, q_28, q_29, q_30, q_31, q_32, q_33, q_34, q_35, q_36, q_37, q_38, q_39, q_40, q_41, q_42, q_43, q_44, q_45, q_46, q_47, q_48, q_49, q_50, q_51, q_52, q_53, q_63, q_64, q_126, q_128, q_255, q_512, q_1024, q_1026, q_2000, q_2048, q_2049, q_4095, q_4096, q_8192, q_16383, q_65535, q_65536, q_69632, q_131072, q_132000, q_262144, q_300000, q_1000000, q_lt_t, q_lt_f, q_le_t, q_le_f, q_eq_t, q_eq_f, q_cl, q_add, q_mul, q_sub, q_nle_f, q_nle_t, q_nlt_f, q_nlt_t, q_neq_f, eq_self, q_n1, q_n2, q_m1, q_m1', q_m2, q_m21, q_m0, q_ml, upd_e, upd_n, updL_e, updL_n, updF_e, updF_n, let_d, tk_s, bind_s, or_false, false_or, and_true, true_and, if_true, if_false, ite_true, ite_false, reduceIte, not_true, not_false_iff, Nat.zero_add, Nat.add_zero, Nat.sub_zero, h1, h2, pl_25]
  rfl
theorem nm_23 {w : Int32} (h1 : m_Model_scalar N I F (nI 1) = some w) : m_Model_numbers N I F (nI 23) (nI 1) = Sum.elim (fun g => m_Model_raiseGlobal N I F (nI 1) (nI g)) (gvR N I F 1) (oN 23 w w) := by
  rw [oN_c (Or.inr (by omega)), cp_23]
  unfold m_Model_numbers lm_Model_numbers_1 lm_Model_numbers_2
  simp (disch := omega) only [q_o, q_0, q_1, q_2, q_3, q_4, q_5, q_6, q_7, q_8, q_9, q_10, q_11, q_12, q_13, q_14, q_15, q_16, q_17, q_18, q_19, q_20, q_21, q_22, q_23, q_24, q_25, q_26, q_27, q_28, q_29, q_30, q_31, q_32, q_33, q_34, q_35, q_36, q_37, q_38, q_39, q_40, q_41, q_42, q_43, q_44, q_45, q_46, q_47, q_48, q_49, q_50, q_51, q_52, q_53, q_63, q_64, q_126, q_128, q_255, q_512, q_1024, q_1026, q_2000, q_2048, q_2049, q_4095, q_4096, q_8192, q_16383, q_65535, q_65536, q_69632, q_131072, q_132000, q_262144, q_300000, q_1000000, q_lt_t, q_lt_f, q_le_t, q_le_f, q_eq_t, q_eq_f, q_cl, q_add, q_mul, q_sub, q_nle_f, q_nle_t, q_nlt_f, q_nlt_t, q_neq_f, eq_self, q_n1, q_n2, q_m1, q_m1', q_m2, q_m21, q_m0, q_ml, upd_e, upd_n, updL_e, updL_n, updF_e, updF_n, let_d, tk_s, bind_s, or_false, false_or, and_true, true_and, if_true, if_false, ite_true, ite_false, reduceIte, not_true, not_false_iff, Nat.zero_add, Nat.add_zero, Nat.sub_zero, h1, pl_23]
  rfl
theorem nm_26 {w : Int32} (h1 : m_Model_scalar N I F (nI 1) = some w) : m_Model_numbers N I F (nI 26) (nI 1) = Sum.elim (fun g => m_Model_raiseGlobal N I F (nI 1) (nI g)) (gvR N I F 1) (oN 26 w w) := by
  rw [oN_c (Or.inr (by omega)), c_26]
  unfold m_Model_numbers lm_Model_numbers_1 lm_Model_numbers_2
  have hp : m_Model_plain N (nI 26) w w = some w := by
    unfold m_Model_plain
    simp (disch := omega) only [q_o, q_0, q_1, q_2, q_3, q_4, q_5, q_6, q_7, q_8, q_9, q_10, q_11, q_12, q_13, q_14, q_15, q_16, q_17, q_18, q_19, q_20, q_21, q_22, q_23, q_24, q_25, q_26, q_27, q_28, q_29, q_30, q_31, q_32, q_33, q_34, q_35, q_36, q_37, q_38, q_39, q_40, q_41, q_42, q_43, q_44, q_45, q_46, q_47, q_48, q_49, q_50, q_51, q_52, q_53, q_63, q_64, q_126, q_128, q_255, q_512, q_1024, q_1026, q_2000, q_2048, q_2049, q_4095, q_4096, q_8192, q_16383, q_65535, q_65536, q_69632, q_131072, q_132000, q_262144, q_300000, q_1000000, q_lt_t, q_lt_f, q_le_t, q_le_f, q_eq_t, q_eq_f, q_cl, q_add, q_mul, q_sub, q_nle_f, q_nle_t, q_nlt_f, q_nlt_t, q_neq_f, eq_self, q_n1, q_n2, q_m1, q_m1', q_m2, q_m21, q_m0, q_ml, upd_e, upd_n, updL_e, updL_n, updF_e, updF_n, let_d, tk_s, bind_s, or_false, false_or, and_true, true_and, if_true, if_false, ite_true, ite_false, reduceIte, not_true, not_false_iff, Nat.zero_add, Nat.add_zero, Nat.sub_zero]
  by_cases h : nI 0 ≤ w
  · rw [if_pos h]
    simp (disch := omega) only [q_o, q_0, q_1, q_2, q_3, q_4, q_5, q_6, q_7, q_8, q_9, q_10, q_11, q_12, q_13, q_14, q_15, q_16, q_17, q_18, q_19, q_20, q_21, q_22, q_23, q_24, q_25, q_26, q_27, q_28, q_29, q_30, q_31, q_32, q_33, q_34, q_35, q_36, q_37, q_38, q_39, q_40, q_41, q_42, q_43, q_44, q_45, q_46, q_47, q_48, q_49, q_50, q_51, q_52, q_53, q_63, q_64, q_126, q_128, q_255, q_512, q_1024, q_1026, q_2000, q_2048, q_2049, q_4095, q_4096, q_8192, q_16383, q_65535, q_65536, q_69632, q_131072, q_132000, q_262144, q_300000, q_1000000, q_lt_t, q_lt_f, q_le_t, q_le_f, q_eq_t, q_eq_f, q_cl, q_add, q_mul, q_sub, q_nle_f, q_nle_t, q_nlt_f, q_nlt_t, q_neq_f, eq_self, q_n1, q_n2, q_m1, q_m1', q_m2, q_m21, q_m0, q_ml, upd_e, upd_n, updL_e, updL_n, updF_e, updF_n, let_d, tk_s, bind_s, or_false, false_or, and_true, true_and, if_true, if_false, ite_true, ite_false, reduceIte, not_true, not_false_iff, Nat.zero_add, Nat.add_zero, Nat.sub_zero, h1, h, hp]
    rfl
  · rw [if_neg h]
    simp (disch := omega) only [q_o, q_0, q_1, q_2, q_3, q_4, q_5, q_6, q_7, q_8, q_9, q_10, q_11, q_12, q_13, q_14, q_15, q_16, q_17, q_18, q_19, q_20, q_21, q_22, q_23, q_24, q_25, q_26, q_27, q_28, q_29, q_30, q_31, q_32, q_33, q_34, q_35, q_36, q_37, q_38, q_39, q_40, q_41, q_42, q_43, q_44, q_45, q_46, q_47, q_48, q_49, q_50, q_51, q_52, q_53, q_63, q_64, q_126, q_128, q_255, q_512, q_1024, q_1026, q_2000, q_2048, q_2049, q_4095, q_4096, q_8192, q_16383, q_65535, q_65536, q_69632, q_131072, q_132000, q_262144, q_300000, q_1000000, q_lt_t, q_lt_f, q_le_t, q_le_f, q_eq_t, q_eq_f, q_cl, q_add, q_mul, q_sub, q_nle_f, q_nle_t, q_nlt_f, q_nlt_t, q_neq_f, eq_self, q_n1, q_n2, q_m1, q_m1', q_m2, q_m21, q_m0, q_ml, upd_e, upd_n, updL_e, updL_n, updF_e, updF_n, let_d, tk_s, bind_s, or_false, false_or, and_true, true_and, if_true, if_false, ite_true, ite_false, reduceIte, not_true, not_false_iff, Nat.zero_add, Nat.add_zero, Nat.sub_zero, h1, h]
    exact bind_3 _
abbrev tk1 (q : Nat) : Prop := q = 3 ∨ q = 4 ∨ q = 23 ∨ q = 26
/-- how many a primitive takes; how many of them are strings -/
def tkn (q : Nat) : Nat := ([2, 2, 2, 1, 1, 2, 2, 2, 2, 2, 2, 2, 2, 2, 2, 2, 2, 2, 2, 2, 2, 2, 2, 1, 2, 2, 1, 2, 1, 1, 3, 2, 2, 2, 2, 2, 2, 1, 1, 1, 1, 1] : List Nat).getD q 0
def tks (q : Nat) : Nat := ([0, 0, 0, 0, 0, 0, 0, 0, 0, 0, 0, 0, 0, 0, 0, 0, 0, 0, 0, 0, 0, 0, 0, 0, 0, 0, 0, 2, 1, 0, 1, 1, 2, 2, 2, 2, 2, 1, 0, 0, 0, 1] : List Nat).getD q 0
theorem tk3 : ∀ q, q < 42 → tab3 q = nI (tkn q) ∧ tab4 q = nI (tks q) ∧ 1 ≤ tkn q ∧ tkn q ≤ 3 ∧ tks q ≤ 2 := by decide +kernel
theorem tkn_1 : ∀ q, q < 27 → (tk1 q → tkn q = 1) ∧ (¬ tk1 q → tkn q = 2) ∧ tks q = 0 := by decide +kernel
theorem nums_R {q : Nat} {v w : Int32} (hq : q < 27) (h1 : m_Model_scalar N I F (nI 1) = some w) (h2 : ¬ tk1 q → m_Model_scalar N I F (nI 2) = some v) (h3 : tk1 q → v = w) : m_Model_numbers N I F (nI q) (nI (if tk1 q then 1 else 0)) = Sum.elim (fun g => m_Model_raiseGlobal N I F (nI (tkn q)) (nI g)) (gvR N I F (tkn q)) (oN q v w) := by
  match q, hq with
  | 0, _ => exact nm_0 h1 (h2 (by decide))
  | 1, _ => exact nm_1 h1 (h2 (by decide))
  | 2, _ => exact nm_2 h1 (h2 (by decide))
  | 3, _ => have e := h3 (by decide); subst e; exact nm_3 h1
  | 4, _ => have e := h3 (by decide); subst e; exact nm_4 h1
  | 5, _ => exact nm_5 h1 (h2 (by decide))
  | 6, _ => exact nm_6 h1 (h2 (by decide))
  | 7, _ => exact nm_7 h1 (h2 (by decide))
  | 8, _ => exact nm_8 h1 (h2 (by decide))
  | 9, _ => exact nm_9 h1 (h2 (by decide))
  | 10, _ => exact nm_10 h1 (h2 (by decide))
  | 11, _ => exact nm_11 h1 (h2 (by decide))
  | 12, _ => exact nm_12 h1 (h2 (by decide))
  | 13, _ => exact nm_13 h1 (h2 (by decide))
  | 14, _ => exact nm_14 h1 (h2 (by decide))
  | 15, _ => exact nm_15 h1 (h2 (by decide))
  | 16, _ => exact nm_16 h1 (h2 (by decide))
  | 17, _ => exact nm_17 h1 (h2 (by decide))
  | 18, _ => exact nm_18 h1 (h2 (by decide))
  | 19, _ => exact nm_19 h1 (h2 (by decide))
  | 20, _ => exact nm_20 h1 (h2 (by decide))
  | 21, _ => exact nm_21 h1 (h2 (by decide))
  | 22, _ => exact nm_22 h1 (h2 (by decide))
  | 23, _ => have e := h3 (by decide); subst e; exact nm_23 h1
  | 24, _ => exact nm_24 h1 (h2 (by decide))
  | 25, _ => exact nm_25 h1 (h2 (by decide))
  | 26, _ => have e := h3 (by decide); subst e; exact nm_26 h1
  | n + 27, h => exact absurd h (by omega)
theorem ap1_a {ζ : Type} {q : Nat} {v w : Int32} (hq : q < 27) (h : ¬ w = nI 0 ∨ ¬ (q = 5 ∨ q = 6 ∨ q = 14 ∨ q = 15)) (k : Int64 → Option ζ) : lm_Numbers_apply_1 N (nI q) w v k = k (rr q v w) := by
  match q, hq with
  | 0, _ => exact ap1_0 k v w
  | 1, _ => exact ap1_1 k v w
  | 2, _ => exact ap1_2 k v w
  | 3, _ => exact ap1_3 k v w
  | 4, _ => exact ap1_4 k v w
  | 5, _ => exact ap1_5 k v w (h.elim id (fun e => absurd (by omega) e))
  | 6, _ => exact ap1_6 k v w (h.elim id (fun e => absurd (by omega) e))
  | 7, _ => exact ap1_7 k v w
  | 8, _ => exact ap1_8 k v w
  | 9, _ => exact ap1_9 k v w
  | 10, _ => exact ap1_10 k v w
  | 11, _ => exact ap1_11 k v w
  | 12, _ => exact ap1_12 k v w
  | 13, _ => exact ap1_13 k v w
  | 14, _ => exact ap1_14 k v w (h.elim id (fun e => absurd (by omega) e))
  | 15, _ => exact ap1_15 k v w (h.elim id (fun e => absurd (by omega) e))
  | 16, _ => exact ap1_16 k v w
  | 17, _ => exact ap1_17 k v w
  | 18, _ => exact ap1_18 k v w
  | 19, _ => exact ap1_19 k v w
  | 20, _ => exact ap1_20 k v w
  | 21, _ => exact ap1_21 k v w
  | 22, _ => exact ap1_22 k v w
  | 23, _ => exact ap1_23 k v w
  | 24, _ => exact ap1_24 k v w
  | 25, _ => exact ap1_25 k v w
  | 26, _ => exact ap1_26 k v w
  | n + 27, h => exact absurd h (by omega)
theorem ap2_a {ζ : Type} {q : Nat} {v w : Int32} (hq : q < 27) (h : ¬ w = nI 0 ∨ ¬ (q = 5 ∨ q = 6 ∨ q = 14 ∨ q = 15)) (k : Int64 → Option ζ) : lm_Numbers_apply_2 N (nI q) w v k = k (rr q v w) := by
  match q, hq with
  | 0, _ => exact ap2_0 k v w
  | 1, _ => exact ap2_1 k v w
  | 2, _ => exact ap2_2 k v w
  | 3, _ => exact ap2_3 k v w
  | 4, _ => exact ap2_4 k v w
  | 5, _ => exact ap2_5 k v w (h.elim id (fun e => absurd (by omega) e))
  | 6, _ => exact ap2_6 k v w (h.elim id (fun e => absurd (by omega) e))
  | 7, _ => exact ap2_7 k v w
  | 8, _ => exact ap2_8 k v w
  | 9, _ => exact ap2_9 k v w
  | 10, _ => exact ap2_10 k v w
  | 11, _ => exact ap2_11 k v w
  | 12, _ => exact ap2_12 k v w
  | 13, _ => exact ap2_13 k v w
  | 14, _ => exact ap2_14 k v w (h.elim id (fun e => absurd (by omega) e))
  | 15, _ => exact ap2_15 k v w (h.elim id (fun e => absurd (by omega) e))
  | 16, _ => exact ap2_16 k v w
  | 17, _ => exact ap2_17 k v w
  | 18, _ => exact ap2_18 k v w
  | 19, _ => exact ap2_19 k v w
  | 20, _ => exact ap2_20 k v w
  | 21, _ => exact ap2_21 k v w
  | 22, _ => exact ap2_22 k v w
  | 23, _ => exact ap2_23 k v w
  | 24, _ => exact ap2_24 k v w
  | 25, _ => exact ap2_25 k v w
  | 26, _ => exact ap2_26 k v w
  | n + 27, h => exact absurd h (by omega)
theorem apply_E {q : Nat} {v w : Int32} (hq : q < 27) (h0 : m_Stacks_peek N S_top S_frames S_handlers n_S_values f_S_values (nI 0) = some (scW w)) (hT : m_Stacks_peek N S_top S_frames S_handlers n_S_values f_S_values (nI (tkn q) - nI 1) = some (scW v)) : m_Numbers_apply N S_top S_frames S_handlers n_S_values f_S_values (nI q) (nI (tkn q)) = Sum.elim (fun g => some (nI (16 + g), f_S_values, S_top)) (fun x => m_Stacks_replace N S_top S_frames S_handlers n_S_values f_S_values (nI (tkn q)) (scW x)) (oN q v w) := by
  have hn : ∀ x, m_Value_number N (scW x) = some x := fun x => congrArg some (nu_sc x)
  have hs : ∀ x, m_Value_scalar N x = some (scW x) := fun x => rfl
  have hfin : ∀ r : Int64, (if (lg_cmp r r.toInt32.toInt64) = 0 then ((m_Value_scalar N r.toInt32).bind fun z => ((m_Stacks_replace N S_top S_frames S_handlers n_S_values f_S_values (nI (tkn q)) z).bind fun (z27_1, z27_2, z27_3) => some (z27_1, z27_2, z27_3))) else some ((18 : Int32), f_S_values, S_top)) = Sum.elim (fun g => some (nI (16 + g), f_S_values, S_top)) (fun x => m_Stacks_replace N S_top S_frames S_handlers n_S_values f_S_values (nI (tkn q)) (scW x)) (chk r) := by
    intro r
    rw [el_chk]
    by_cases h : r = r.toInt32.toInt64
    · rw [if_pos h, if_pos ((lg_cmp_eq _ _).mpr h), hs, bind_s, bind_3]
    · rw [if_neg h, if_neg (fun e => h ((lg_cmp_eq _ _).mp e))]
      rfl
  unfold m_Numbers_apply
  rw [show (0 : Int32) = nI 0 from rfl, h0, bind_s, hn, bind_s, show (1 : Int32) = nI 1 from rfl, hT, bind_s, hn, bind_s]
  by_cases hw : w = nI 0
  · rw [if_pos hw]
    by_cases h5 : q = 5 ∨ q = 6 ∨ q = 14 ∨ q = 15
    · rw [hw, oN_0 h5]
      rcases h5 with rfl | rfl | rfl | rfl
      · rfl
      · rfl
      · rfl
      · rfl
    · rw [if_neg (show ¬ nI q = 5 by rw [show (5 : Int32) = nI 5 from rfl, q_eq_f (by omega) (by omega) (by omega)]; exact id), if_neg (show ¬ nI q = 6 by rw [show (6 : Int32) = nI 6 from rfl, q_eq_f (by omega) (by omega) (by omega)]; exact id), if_neg (show ¬ nI q = 14 by rw [show (14 : Int32) = nI 14 from rfl, q_eq_f (by omega) (by omega) (by omega)]; exact id), if_neg (show ¬ nI q = 15 by rw [show (15 : Int32) = nI 15 from rfl, q_eq_f (by omega) (by omega) (by omega)]; exact id), ap2_a hq (Or.inr h5), oN_c (Or.inr h5)]
      exact hfin _
  · rw [if_neg hw, ap1_a hq (Or.inl hw), oN_c (Or.inl hw)]
    exact hfin _
end NU
