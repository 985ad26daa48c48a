/-! Instruction 37 -/
section OPS
variable {N : Nat}
variable {nk : Nat → Nat} {nm : Nat} {nid : Nat} {G : Nat → GO} {lE : List Nat} {gg : Nat → AV} {t : Nat} {gs : Nat → AV} {fr : Nat} {gc : Nat → AV} {hn : Nat} {gb : Nat → Nat} {gf : Nat → Nat} {gr : Nat → Int32} {hF : Nat → Nat} {hH : Nat → Nat} {hP : Nat → Int32} {hD : Nat → Int32} {lR : List Nat} {P_size : Int32} {P_constants : Int32} {P_closed : Int32} {P_open : Int32} {O_size : Int32} {S_top : Int32} {S_frames : Int32} {S_handlers : Int32} {H_globalsUsed : Int32} {H_used : Int32} {H_spareUsed : Int32} {H_old : Int32} {H_oldLeadsToNew : Int32} {H_limit : Int32} {H_every : Int32} {H_fresh : Int32} {H_made : Int32} {H_madeLimit : Int32} {H_reachedFromGlobals : Int32} {H_reachedInAll : Int32} {H_keptGlobalsUsed : Int32} {H_kept : Int32} {B_names : Int32} {Q_size : Int32} {M_status : Int32} {M_place : Int32} {M_next : Int32} {M_fuel : Int32} {M_ticks : Int32} {M_depth : Int32} {M_depthLimit : Int32} {M_done : Int32} {n_P_words : Nat} {f_P_words : Nat → Int32} {n_P_bytes : Nat} {f_P_bytes : Nat → Int32} {n_P_ends : Nat} {f_P_ends : Nat → Int32} {n_O_bytes : Nat} {f_O_bytes : Nat → Int32} {n_S_values : Nat} {f_S_values : Nat → Int64} {n_S_bases : Nat} {f_S_bases : Nat → Int32} {n_S_floors : Nat} {f_S_floors : Nat → Int32} {n_S_returns : Nat} {f_S_returns : Nat → Int32} {n_S_closures : Nat} {f_S_closures : Nat → Int64} {n_S_handlerFrames : Nat} {f_S_handlerFrames : Nat → Int32} {n_S_handlerPlaces : Nat} {f_S_handlerPlaces : Nat → Int32} {n_S_handlerHeights : Nat} {f_S_handlerHeights : Nat → Int32} {n_S_handlerDepths : Nat} {f_S_handlerDepths : Nat → Int32} {n_H_globals : Nat} {f_H_globals : Nat → Int64} {n_H_cells : Nat} {f_H_cells : Nat → Int64} {n_H_spare : Nat} {f_H_spare : Nat → Int64} {n_Q_links : Nat} {f_Q_links : Nat → Int32} {n_Q_pairs : Nat} {f_Q_pairs : Nat → Int64} {I : Nat → Int32} {F : Nat → Nat → Int32}
def zr (f : Nat → Int64) (a e : Nat) : Nat → Int64 := fun j => if a ≤ j ∧ j < e then 0 else f j
def zrI (f : Nat → Int32) (a e : Nat) : Nat → Int32 := fun j => if a ≤ j ∧ j < e then nI 0 else f j
theorem zr_in {f : Nat → Int64} {a e j : Nat} (h : a ≤ j ∧ j < e) : zr f a e j = 0 := if_pos h
theorem zr_out {f : Nat → Int64} {a e j : Nat} (h : ¬ (a ≤ j ∧ j < e)) : zr f a e j = f j := if_neg h
theorem zrI_in {f : Nat → Int32} {a e j : Nat} (h : a ≤ j ∧ j < e) : zrI f a e j = nI 0 := if_pos h
theorem zrI_out {f : Nat → Int32} {a e j : Nat} (h : ¬ (a ≤ j ∧ j < e)) : zrI f a e j = f j := if_neg h
theorem sl1 {α : Type} {fr nV n g : Nat} {fB : Nat → Int32} {k : Int32 → (Nat → Int64) → Option (α × Nat × Nat)} (h1 : 1 ≤ fr) (h2 : fr ≤ 8192) (hb : fB (fr - 1) = nI g) (he : g + n ≤ nV) (hV : nV ≤ 65536) :
    ∀ (m i : Nat) (f : Nat → Int64), i ≤ 65536 → g + n - i < m → lm_Stacks_setLocals_1 N (nI fr) nV fB (nI n) k m (nI i) f = k (nI (max i (g + n))) (zr f i (g + n))
  | 0, i, f, _, h => absurd h (Nat.not_lt_zero _)
  | m + 1, i, f, hi, h => by
    rw [lm_Stacks_setLocals_1]
    by_cases e : g + n ≤ i
    · have e1 : max i (g + n) = i := by omega
      have e2 : zr f i (g + n) = f := by
        funext j
        exact zr_out (by omega)
      rw [e1, e2]
      simp (disch := omega) only [q_o, q_0, q_1, q_2, q_3, q_4, q_5, q_6, q_7, q_8, q_9, q_10, q_11, q_12, q_13, q_14, q_15, q_16, q_17, q_18, q_19, q_20, q_21, q_22, q_23, q_24, q_25, q_26, q_27, q_28, q_29, q_30, q_31, q_32, q_33, q_34, q_35, q_36, q_37, q_38, q_39, q_40, q_41, q_42, q_43, q_44, q_45, q_46, q_47, q_48, q_49, q_50, q_51, q_52, q_53, q_63, q_64, q_126, q_128, q_255, q_512, q_1024, q_1026, q_2000, q_2048, q_2049, q_4095, q_4096, q_8192, q_16383, q_65535, q_65536, q_69632, q_131072, q_132000, q_262144, q_300000, q_1000000, q_lt_t, q_lt_f, q_le_t, q_le_f, q_eq_t, q_eq_f, q_cl, q_add, q_mul, q_sub, q_nle_f, q_nle_t, q_nlt_f, q_nlt_t, q_neq_f, eq_self, q_n1, q_n2, q_m1, q_m1', q_m2, q_m21, q_m0, q_ml, upd_e, upd_n, updL_e, updL_n, updF_e, updF_n, let_d, tk_s, bind_s, or_false, false_or, and_true, true_and, if_true, if_false, ite_true, ite_false, reduceIte, not_true, not_false_iff, Nat.zero_add, Nat.add_zero, Nat.sub_zero, hb]
    · have ih := sl1 (k := k) (α := α) h1 h2 hb he hV m (i + 1) (vp_updL f i 0) (by omega) (by omega)
      have e1 : max (i + 1) (g + n) = max i (g + n) := by omega
      have e2 : zr (vp_updL f i 0) (i + 1) (g + n) = zr f i (g + n) := by
        funext j
        by_cases hj : i + 1 ≤ j ∧ j < g + n
        · rw [zr_in hj, zr_in (by omega)]
        · rw [zr_out hj]
          by_cases hji : j = i
          · rw [updL_e hji, zr_in (by omega)]
          · rw [updL_n hji, zr_out (by omega)]
      rw [e1, e2] at ih
      simp (disch := omega) only [q_o, q_0, q_1, q_2, q_3, q_4, q_5, q_6, q_7, q_8, q_9, q_10, q_11, q_12, q_13, q_14, q_15, q_16, q_17, q_18, q_19, q_20, q_21, q_22, q_23, q_24, q_25, q_26, q_27, q_28, q_29, q_30, q_31, q_32, q_33, q_34, q_35, q_36, q_37, q_38, q_39, q_40, q_41, q_42, q_43, q_44, q_45, q_46, q_47, q_48, q_49, q_50, q_51, q_52, q_53, q_63, q_64, q_126, q_128, q_255, q_512, q_1024, q_1026, q_2000, q_2048, q_2049, q_4095, q_4096, q_8192, q_16383, q_65535, q_65536, q_69632, q_131072, q_132000, q_262144, q_300000, q_1000000, q_lt_t, q_lt_f, q_le_t, q_le_f, q_eq_t, q_eq_f, q_cl, q_add, q_mul, q_sub, q_nle_f, q_nle_t, q_nlt_f, q_nlt_t, q_neq_f, eq_self, q_n1, q_n2, q_m1, q_m1', q_m2, q_m21, q_m0, q_ml, upd_e, upd_n, updL_e, updL_n, updF_e, updF_n, let_d, tk_s, bind_s, or_false, false_or, and_true, true_and, if_true, if_false, ite_true, ite_false, reduceIte, not_true, not_false_iff, Nat.zero_add, Nat.add_zero, Nat.sub_zero, hb, ih]
theorem sl2 {α : Type} {fr nV n g : Nat} {fB : Nat → Int32} {k : Int32 → (Nat → Int64) → Option (α × Nat × Nat)} (h1 : 1 ≤ fr) (h2 : fr ≤ 8192) (hb : fB (fr - 1) = nI g) (he : g + n ≤ nV) (hV : nV ≤ 65536) :
    ∀ (m i : Nat) (f : Nat → Int64), i ≤ 65536 → g + n - i < m → lm_Stacks_setLocals_2 N (nI fr) fB (nI n) nV k m (nI i) f = k (nI (max i (g + n))) (zr f i (g + n))
  | 0, i, f, _, h => absurd h (Nat.not_lt_zero _)
  | m + 1, i, f, hi, h => by
    rw [lm_Stacks_setLocals_2]
    by_cases e : g + n ≤ i
    · have e1 : max i (g + n) = i := by omega
      have e2 : zr f i (g + n) = f := by
        funext j
        exact zr_out (by omega)
      rw [e1, e2]
      simp (disch := omega) only [q_o, q_0, q_1, q_2, q_3, q_4, q_5, q_6, q_7, q_8, q_9, q_10, q_11, q_12, q_13, q_14, q_15, q_16, q_17, q_18, q_19, q_20, q_21, q_22, q_23, q_24, q_25, q_26, q_27, q_28, q_29, q_30, q_31, q_32, q_33, q_34, q_35, q_36, q_37, q_38, q_39, q_40, q_41, q_42, q_43, q_44, q_45, q_46, q_47, q_48, q_49, q_50, q_51, q_52, q_53, q_63, q_64, q_126, q_128, q_255, q_512, q_1024, q_1026, q_2000, q_2048, q_2049, q_4095, q_4096, q_8192, q_16383, q_65535, q_65536, q_69632, q_131072, q_132000, q_262144, q_300000, q_1000000, q_lt_t, q_lt_f, q_le_t, q_le_f, q_eq_t, q_eq_f, q_cl, q_add, q_mul, q_sub, q_nle_f, q_nle_t, q_nlt_f, q_nlt_t, q_neq_f, eq_self, q_n1, q_n2, q_m1, q_m1', q_m2, q_m21, q_m0, q_ml, upd_e, upd_n, updL_e, updL_n, updF_e, updF_n, let_d, tk_s, bind_s, or_false, false_or, and_true, true_and, if_true, if_false, ite_true, ite_false, reduceIte, not_true, not_false_iff, Nat.zero_add, Nat.add_zero, Nat.sub_zero, hb]
    · have ih := sl2 (k := k) (α := α) h1 h2 hb he hV m (i + 1) (vp_updL f i 0) (by omega) (by omega)
      have e1 : max (i + 1) (g + n) = max i (g + n) := by omega
      have e2 : zr (vp_updL f i 0) (i + 1) (g + n) = zr f i (g + n) := by
        funext j
        by_cases hj : i + 1 ≤ j ∧ j < g + n
        · rw [zr_in hj, zr_in (by omega)]
        · rw [zr_out hj]
          by_cases hji : j = i
          · rw [updL_e hji, zr_in (by omega)]
          · rw [updL_n hji, zr_out (by omega)]
      rw [e1, e2] at ih
      simp (disch := omega) only [q_o, q_0, q_1, q_2, q_3, q_4, q_5, q_6, q_7, q_8, q_9, q_10, q_11, q_12, q_13, q_14, q_15, q_16, q_17, q_18, q_19, q_20, q_21, q_22, q_23, q_24, q_25, q_26, q_27, q_28, q_29, q_30, q_31, q_32, q_33, q_34, q_35, q_36, q_37, q_38, q_39, q_40, q_41, q_42, q_43, q_44, q_45, q_46, q_47, q_48, q_49, q_50, q_51, q_52, q_53, q_63, q_64, q_126, q_128, q_255, q_512, q_1024, q_1026, q_2000, q_2048, q_2049, q_4095, q_4096, q_8192, q_16383, q_65535, q_65536, q_69632, q_131072, q_132000, q_262144, q_300000, q_1000000, q_lt_t, q_lt_f, q_le_t, q_le_f, q_eq_t, q_eq_f, q_cl, q_add, q_mul, q_sub, q_nle_f, q_nle_t, q_nlt_f, q_nlt_t, q_neq_f, eq_self, q_n1, q_n2, q_m1, q_m1', q_m2, q_m21, q_m0, q_ml, upd_e, upd_n, updL_e, updL_n, updF_e, updF_n, let_d, tk_s, bind_s, or_false, false_or, and_true, true_and, if_true, if_false, ite_true, ite_false, reduceIte, not_true, not_false_iff, Nat.zero_add, Nat.add_zero, Nat.sub_zero, hb, ih]
theorem slR {fr n g : Nat} (h1 : 1 ≤ fr) (h2 : fr ≤ 8192) (h22 : I 22 = nI fr) (he : g + n ≤ 65536) :
    ∀ (m i : Nat) (F : Nat → Nat → Int32), F 24 (fr - 1) = nI g → i ≤ 65536 → n - i < m → ∃ F', (∀ j, j ≠ 27 → j ≠ 28 → F' j = F j) ∧ F' 27 = zrI (F 27) (g + i) (g + n) ∧ F' 28 = zrI (F 28) (g + i) (g + n) ∧ ∀ (ζ : Type) (k : Int32 → (Nat → Nat → Int32) → Option ζ), lm_Model_setLocals_1 N I (nI n) k m (nI i) F = k (nI (max i n)) F'
  | 0, i, F, _, _, h => absurd h (Nat.not_lt_zero _)
  | m + 1, i, F, hb, hi, h => by
    by_cases e : n ≤ i
    · refine ⟨F, fun _ _ _ => rfl, ?_, ?_, ?_⟩
      · funext j; rw [zrI_out (by omega)]
      · funext j; rw [zrI_out (by omega)]
      · intro ζ k
        have e1 : max i n = i := by omega
        rw [lm_Model_setLocals_1, e1]
        simp (disch := omega) only [q_o, q_0, q_1, q_2, q_3, q_4, q_5, q_6, q_7, q_8, q_9, q_10, q_11, q_12, q_13, q_14, q_15, q_16, q_17, q_18, q_19, q_20, q_21, q_22, q_23, q_24, q_25, q_26, q_27, q_28, q_29, q_30, q_31, q_32, q_33, q_34, q_35, q_36, q_37, q_38, q_39, q_40, q_41, q_42, q_43, q_44, q_45, q_46, q_47, q_48, q_49, q_50, q_51, q_52, q_53, q_63, q_64, q_126, q_128, q_255, q_512, q_1024, q_1026, q_2000, q_2048, q_2049, q_4095, q_4096, q_8192, q_16383, q_65535, q_65536, q_69632, q_131072, q_132000, q_262144, q_300000, q_1000000, q_lt_t, q_lt_f, q_le_t, q_le_f, q_eq_t, q_eq_f, q_cl, q_add, q_mul, q_sub, q_nle_f, q_nle_t, q_nlt_f, q_nlt_t, q_neq_f, eq_self, q_n1, q_n2, q_m1, q_m1', q_m2, q_m21, q_m0, q_ml, upd_e, upd_n, updL_e, updL_n, updF_e, updF_n, let_d, tk_s, bind_s, or_false, false_or, and_true, true_and, if_true, if_false, ite_true, ite_false, reduceIte, not_true, not_false_iff, Nat.zero_add, Nat.add_zero, Nat.sub_zero]
    · obtain ⟨F', a1, a2, a3, a4⟩ := slR h1 h2 h22 he m (i + 1) (updF (updF F 27 (upd (F 27) (g + i) (nI 0))) 28 (upd (F 28) (g + i) (nI 0))) (by rw [updF_n (by omega), updF_n (by omega)]; exact hb) (by omega) (by omega)
      have key : ∀ f : Nat → Int32, zrI (upd f (g + i) (nI 0)) (g + (i + 1)) (g + n) = zrI f (g + i) (g + n) := by
        intro f
        funext j
        by_cases hj : g + (i + 1) ≤ j ∧ j < g + n
        · rw [zrI_in hj, zrI_in (by omega)]
        · rw [zrI_out hj]
          by_cases hji : j = g + i
          · rw [upd_e hji, zrI_in (by omega)]
          · rw [upd_n hji, zrI_out (by omega)]
      refine ⟨F', fun j h27 h28 => by rw [a1 j h27 h28, updF_n h28, updF_n h27], ?_, ?_, ?_⟩
      · rw [a2, updF_n (by omega), updF_e rfl, key]
      · rw [a3, updF_e rfl, key]
      · intro ζ k
        have e1 : max (i + 1) n = max i n := by omega
        rw [e1] at a4
        rw [lm_Model_setLocals_1]
        simp (disch := omega) only [q_o, q_0, q_1, q_2, q_3, q_4, q_5, q_6, q_7, q_8, q_9, q_10, q_11, q_12, q_13, q_14, q_15, q_16, q_17, q_18, q_19, q_20, q_21, q_22, q_23, q_24, q_25, q_26, q_27, q_28, q_29, q_30, q_31, q_32, q_33, q_34, q_35, q_36, q_37, q_38, q_39, q_40, q_41, q_42, q_43, q_44, q_45, q_46, q_47, q_48, q_49, q_50, q_51, q_52, q_53, q_63, q_64, q_126, q_128, q_255, q_512, q_1024, q_1026, q_2000, q_2048, q_2049, q_4095, q_4096, q_8192, q_16383, q_65535, q_65536, q_69632, q_131072, q_132000, q_262144, q_300000, q_1000000, q_lt_t, q_lt_f, q_le_t, q_le_f, q_eq_t, q_eq_f, q_cl, q_add, q_mul, q_sub, q_nle_f, q_nle_t, q_nlt_f, q_nlt_t, q_neq_f, eq_self, q_n1, q_n2, q_m1, q_m1', q_m2, q_m21, q_m0, q_ml, upd_e, upd_n, updL_e, updL_n, updF_e, updF_n, let_d, tk_s, bind_s, or_false, false_or, and_true, true_and, if_true, if_false, ite_true, ite_false, reduceIte, not_true, not_false_iff, Nat.zero_add, Nat.add_zero, Nat.sub_zero, h22, hb, a4]
theorem setLocals_E {t fr nV nF n g fl : Nat} {fV : Nat → Int64} {fB fF : Nat → Int32} {sh : Int32} (hN : 200000 ≤ N) (h1 : 1 ≤ fr) (h2 : fr ≤ 8192) (h3 : fr ≤ nF) (hb : fB (fr - 1) = nI g) (hf : fF (fr - 1) = nI fl) (hfl : fl ≤ 65536) (hn : n ≤ 16383) (he : g + n ≤ 65536) (hV1 : 128 ≤ nV) (hV : nV ≤ 65536) (hflV : fl ≤ nV) :
    ∃ (nV' : Nat) (fV' : Nat → Int64) (c s : Nat), m_Stacks_setLocals N (nI t) (nI fr) sh nV fV nF fB nF fF (nI n) = some ((nI 5, upd fF (fr - 1) (nI (g + n)), nI (g + n), nV', fV'), c, s) ∧ g + n ≤ nV' ∧ 128 ≤ nV' ∧ nV' ≤ 65536 ∧ (∀ k, k < fl → fV' k = fV k) ∧ (∀ k, fl ≤ k → k < g + n → fV' k = 0) ∧ s + 150 * c + pot 65536 nV ≤ pot 65536 nV' := by
  by_cases hlt : g + n ≤ nV
  · refine ⟨nV, zr fV fl (g + n), 0, 0, ?_, hlt, hV1, hV, fun k hk => zr_out (by omega), fun k h1 h2 => zr_in ⟨h1, h2⟩, by omega⟩
    have hs := fun k => sl1 (N := N) (α := Int32 × (Nat → Int32) × Int32 × Nat × (Nat → Int64)) (k := k) (n := n) h1 h2 hb hlt hV N fl fV hfl (by omega)
    unfold m_Stacks_setLocals
    simp (disch := omega) only [q_o, q_0, q_1, q_2, q_3, q_4, q_5, q_6, q_7, q_8, q_9, q_10, q_11, q_12, q_13, q_14, q_15, q_16, q_17, q_18, q_19, q_20, q_21, q_22, q_23, q_24, q_25, q_26, q_27, q_28, q_29, q_30, q_31, q_32, q_33, q_34, q_35, q_36, q_37, q_38, q_39, q_40, q_41, q_42, q_43, q_44, q_45, q_46, q_47, q_48, q_49, q_50, q_51, q_52, q_53, q_63, q_64, q_126, q_128, q_255, q_512, q_1024, q_1026, q_2000, q_2048, q_2049, q_4095, q_4096, q_8192, q_16383, q_65535, q_65536, q_69632, q_131072, q_132000, q_262144, q_300000, q_1000000, q_lt_t, q_lt_f, q_le_t, q_le_f, q_eq_t, q_eq_f, q_cl, q_add, q_mul, q_sub, q_nle_f, q_nle_t, q_nlt_f, q_nlt_t, q_neq_f, eq_self, q_n1, q_n2, q_m1, q_m1', q_m2, q_m21, q_m0, q_ml, upd_e, upd_n, updL_e, updL_n, updF_e, updF_n, let_d, tk_s, bind_s, or_false, false_or, and_true, true_and, if_true, if_false, ite_true, ite_false, reduceIte, not_true, not_false_iff, Nat.zero_add, Nat.add_zero, Nat.sub_zero, hb, hf, hs]
  · have hl := longer_E (N := N) (n := nV) (need := g + n) (m := 65536) (by omega) (by omega) (by omega)
    have hc := copyJ_E (N := N) (n := nV) (m := min 65536 (max (g + n) (2 * nV))) (f := fV) (by omega) (by omega)
    have hp := pot_new (n := nV) (m := 65536) (k := min 65536 (max (g + n) (2 * nV))) (by omega) (by omega)
    have hM1 : g + n ≤ min 65536 (max (g + n) (2 * nV)) := by omega
    have hM2 : 128 ≤ min 65536 (max (g + n) (2 * nV)) := by omega
    have hM3 : min 65536 (max (g + n) (2 * nV)) ≤ 65536 := by omega
    revert hl hc hp hM1 hM2 hM3
    generalize min 65536 (max (g + n) (2 * nV)) = M
    intro hl hc hp hM1 hM2 hM3
    refine ⟨M, zr (va_cpy fV (fun _ => 0) 0 0 nV) fl (g + n), 1, M, ?_, hM1, hM2, hM3, fun k hk => ?_, fun k h1 h2 => zr_in ⟨h1, h2⟩, by omega⟩
    · have hs := fun k => sl2 (N := N) (α := Int32 × (Nat → Int32) × Int32 × Nat × (Nat → Int64)) (k := k) (n := n) h1 h2 hb hM1 hM3 N fl (va_cpy fV (fun _ => 0) 0 0 nV) hfl (by omega)
      unfold m_Stacks_setLocals m_Stacks_widen
      simp (disch := omega) only [q_o, q_0, q_1, q_2, q_3, q_4, q_5, q_6, q_7, q_8, q_9, q_10, q_11, q_12, q_13, q_14, q_15, q_16, q_17, q_18, q_19, q_20, q_21, q_22, q_23, q_24, q_25, q_26, q_27, q_28, q_29, q_30, q_31, q_32, q_33, q_34, q_35, q_36, q_37, q_38, q_39, q_40, q_41, q_42, q_43, q_44, q_45, q_46, q_47, q_48, q_49, q_50, q_51, q_52, q_53, q_63, q_64, q_126, q_128, q_255, q_512, q_1024, q_1026, q_2000, q_2048, q_2049, q_4095, q_4096, q_8192, q_16383, q_65535, q_65536, q_69632, q_131072, q_132000, q_262144, q_300000, q_1000000, q_lt_t, q_lt_f, q_le_t, q_le_f, q_eq_t, q_eq_f, q_cl, q_add, q_mul, q_sub, q_nle_f, q_nle_t, q_nlt_f, q_nlt_t, q_neq_f, eq_self, q_n1, q_n2, q_m1, q_m1', q_m2, q_m21, q_m0, q_ml, upd_e, upd_n, updL_e, updL_n, updF_e, updF_n, let_d, tk_s, bind_s, or_false, false_or, and_true, true_and, if_true, if_false, ite_true, ite_false, reduceIte, not_true, not_false_iff, Nat.zero_add, Nat.add_zero, Nat.sub_zero, hb, hf, hl, hc, hs]
    · rw [zr_out (by omega), cpy_lt (by omega)]
theorem setLocals_R {n : Nat} (hN : 200000 ≤ N) (hr : rR nk nm nid G lR gg t gs fr gc hn gb gf gr hF hH hP hD I F) (hs : shp t fr hn gb gf hF hH) (hn' : n ≤ 16383) (he : gb (fr - 1) + n ≤ 65536) :
    ∃ F', m_Model_setLocals N I F (nI n) = some (nI 5, F', upd I 29 (nI (gb (fr - 1) + n))) ∧ (∀ j, j ≠ 25 → j ≠ 27 → j ≠ 28 → F' j = F j) ∧ F' 25 = upd (F 25) (fr - 1) (nI n) ∧ F' 27 = zrI (F 27) (gf (fr - 1)) (gb (fr - 1) + n) ∧ F' 28 = zrI (F 28) (gf (fr - 1)) (gb (fr - 1) + n) := by
  obtain ⟨s1, s2, s3, s4, s5, s6, s7⟩ := hs
  obtain ⟨y1, y2, y3, y4, y5⟩ := frR hr s1
  have hg := s6 (fr - 1) (by omega)
  obtain ⟨F', a1, a2, a3, a4⟩ := slR (N := N) s1 s2 y2 he N (gf (fr - 1) - gb (fr - 1)) F y4 (by omega) (by omega)
  rw [show gb (fr - 1) + (gf (fr - 1) - gb (fr - 1)) = gf (fr - 1) by omega] at a2 a3
  refine ⟨updF F' 25 (upd (F 25) (fr - 1) (nI n)), ?_, fun j h25 h27 h28 => by rw [updF_n h25, a1 j h27 h28], updF_e rfl, by rw [updF_n (by omega), a2], by rw [updF_n (by omega), a3]⟩
  have hb' : F' 24 (fr - 1) = nI (gb (fr - 1)) := by rw [a1 24 (by omega) (by omega)]; exact y4
  have h25' : F' 25 = F 25 := a1 25 (by omega) (by omega)
  unfold m_Model_setLocals
  simp (disch := omega) only [q_o, q_0, q_1, q_2, q_3, q_4, q_5, q_6, q_7, q_8, q_9, q_10, q_11, q_12, q_13, q_14, q_15, q_16, q_17, q_18, q_19, q_20, q_21, q_22, q_23, q_24, q_25, q_26, q_27, q_28, q_29, q_30, q_31, q_32, q_33, q_34, q_35, q_36, q_37, q_38, q_39, q_40, q_41, q_42, q_43, q_44, q_45, q_46, q_47, q_48, q_49, q_50, q_51, q_52, q_53, q_63, q_64, q_126, q_128, q_255, q_512, q_1024, q_1026, q_2000, q_2048, q_2049, q_4095, q_4096, q_8192, q_16383, q_65535, q_65536, q_69632, q_131072, q_132000, q_262144, q_300000, q_1000000, q_lt_t, q_lt_f, q_le_t, q_le_f, q_eq_t, q_eq_f, q_cl, q_add, q_mul, q_sub, q_nle_f, q_nle_t, q_nlt_f, q_nlt_t, q_neq_f, eq_self, q_n1, q_n2, q_m1, q_m1', q_m2, q_m21, q_m0, q_ml, upd_e, upd_n, updL_e, updL_n, updF_e, updF_n, let_d, tk_s, bind_s, or_false, false_or, and_true, true_and, if_true, if_false, ite_true, ite_false, reduceIte, not_true, not_false_iff, Nat.zero_add, Nat.add_zero, Nat.sub_zero, y2, y4, y5, a4, hb', h25']
theorem eR_loc {n nV' : Nat} {fV' : Nat → Int64} (he : eR nk nm nid G lE gg t gs fr gc hn gb gf gr hF hH hP hD S_top S_frames S_handlers n_S_values f_S_values n_S_bases f_S_bases n_S_floors f_S_floors n_S_returns f_S_returns n_S_closures f_S_closures n_S_handlerFrames f_S_handlerFrames n_S_handlerPlaces f_S_handlerPlaces n_S_handlerHeights f_S_handlerHeights n_S_handlerDepths f_S_handlerDepths H_globalsUsed H_used H_old H_oldLeadsToNew f_H_globals n_H_cells f_H_cells n_H_spare) (hle : gb (fr - 1) + n ≤ 65536) (h1 : gb (fr - 1) + n ≤ nV') (h2 : 128 ≤ nV') (h3 : nV' ≤ 65536) (h4 : ∀ k, k < gf (fr - 1) → fV' k = f_S_values k) (h5 : ∀ k, gf (fr - 1) ≤ k → k < gb (fr - 1) + n → fV' k = 0) : eR nk nm nid G lE gg (gb (fr - 1) + n) (fun j => if gf (fr - 1) ≤ j ∧ j < gb (fr - 1) + n then vS (nI 0) else gs j) fr gc hn gb (upN gf (fr - 1) (gb (fr - 1) + n)) gr hF hH hP hD (nI (gb (fr - 1) + n)) S_frames S_handlers nV' fV' n_S_bases f_S_bases n_S_floors (upd f_S_floors (fr - 1) (nI (gb (fr - 1) + n))) n_S_returns f_S_returns n_S_closures f_S_closures n_S_handlerFrames f_S_handlerFrames n_S_handlerPlaces f_S_handlerPlaces n_S_handlerHeights f_S_handlerHeights n_S_handlerDepths f_S_handlerDepths H_globalsUsed H_used H_old H_oldLeadsToNew f_H_globals n_H_cells f_H_cells n_H_spare := by
  obtain ⟨⟨s1, s2, s3, s4, s5, s6, s7, s8, s9⟩, ⟨l1, l2, l3⟩, ⟨t1, t2, t3, t4, t5, t6, t7, t8, t9⟩, ⟨w1, w2⟩, e5, e6, e7⟩ := he
  refine ⟨⟨s1, s2, hle, s4, ?_, fun k hk => ?_, fun i j h1 h2 => ?_, s8, s9⟩, ⟨h2, h3, l3⟩, ⟨rfl, t2, t3, h1, t5, t6, fun k hk => ?_, t8, t9⟩, ⟨fun k hk => ?_, w2⟩, e5, e6, e7⟩
  · rw [upN_e rfl]; omega
  · by_cases e : k = fr - 1
    · rw [upN_e e, e]; omega
    · rw [upN_n e]; exact s6 k hk
  · rw [upN_n (by omega)]; exact s7 i j h1 h2
  · by_cases e : k = fr - 1
    · rw [upd_e e, upN_e e, e]; exact ⟨(t7 (fr - 1) (by omega)).1, rfl⟩
    · rw [upd_n e, upN_n e]; exact t7 k hk
  · dsimp only
    by_cases e : gf (fr - 1) ≤ k ∧ k < gb (fr - 1) + n
    · rw [if_pos e, h5 k e.1 e.2]
      exact ⟨scW_0.symm, trivial⟩
    · rw [if_neg e, h4 k (by omega)]
      exact w1 k (by omega)
theorem rR_loc {n : Nat} {F' : Nat → Nat → Int32} (hr : rR nk nm nid G lR gg t gs fr gc hn gb gf gr hF hH hP hD I F) (hs : shp t fr hn gb gf hF hH) (h1 : ∀ j, j ≠ 25 → j ≠ 27 → j ≠ 28 → F' j = F j) (h2 : F' 25 = upd (F 25) (fr - 1) (nI n)) (h3 : F' 27 = zrI (F 27) (gf (fr - 1)) (gb (fr - 1) + n)) (h4 : F' 28 = zrI (F 28) (gf (fr - 1)) (gb (fr - 1) + n)) : rR nk nm nid G lR gg (gb (fr - 1) + n) (fun j => if gf (fr - 1) ≤ j ∧ j < gb (fr - 1) + n then vS (nI 0) else gs j) fr gc hn gb (upN gf (fr - 1) (gb (fr - 1) + n)) gr hF hH hP hD (upd I 29 (nI (gb (fr - 1) + n))) F' := by
  obtain ⟨s1, s2, s3, s4, s5, s6, s7⟩ := hs
  obtain ⟨⟨a1, a2, a3, a4, a5, a6, a7, a8⟩, ⟨b1, b2⟩, c⟩ := hr
  refine ⟨⟨upd_e rfl, ?_, ?_, fun k hk => ?_, ?_, ?_, ?_, ?_⟩, ⟨fun k hk => ?_, ?_⟩, hpR_c c (fun j hj => upd_n (by omega)) (fun j hj => h1 j (by omega) (by omega) (by omega))⟩
  · rw [upd_n (by omega)]; exact a2
  · rw [upd_n (by omega)]; exact a3
  · rw [h1 24 (by omega) (by omega) (by omega), h2]
    by_cases e : k = fr - 1
    · rw [upd_e e, upN_e e, e]
      refine ⟨(a4 (fr - 1) (by omega)).1, ?_⟩
      congr 1; omega
    · rw [upd_n e, upN_n e]; exact a4 k hk
  · rw [h1 26 (by omega) (by omega) (by omega)]; exact a5
  · rw [h1 31 (by omega) (by omega) (by omega), h1 32 (by omega) (by omega) (by omega), h1 33 (by omega) (by omega) (by omega), h1 34 (by omega) (by omega) (by omega)]; exact a6
  · rw [upd_n (by omega)]; exact a7
  · rw [upd_n (by omega)]; exact a8
  · rw [h3, h4]
    dsimp only
    by_cases e : gf (fr - 1) ≤ k ∧ k < gb (fr - 1) + n
    · rw [if_pos e, zrI_in e, zrI_in e]; exact ⟨trivial, rfl, rfl⟩
    · rw [if_neg e, zrI_out e, zrI_out e]; exact b1 k (by omega)
  · rw [h1 23 (by omega) (by omega) (by omega)]; exact b2
set_option maxRecDepth 4000 in
set_option maxHeartbeats 4000000 in
theorem op_37 {a wd : Int32} {p L : Nat} (hN : 400000 ≤ N) (he : eR nk nm nid G lE gg t gs fr gc hn gb gf gr hF hH hP hD S_top S_frames S_handlers n_S_values f_S_values n_S_bases f_S_bases n_S_floors f_S_floors n_S_returns f_S_returns n_S_closures f_S_closures n_S_handlerFrames f_S_handlerFrames n_S_handlerPlaces f_S_handlerPlaces n_S_handlerHeights f_S_handlerHeights n_S_handlerDepths f_S_handlerDepths H_globalsUsed H_used H_old H_oldLeadsToNew f_H_globals n_H_cells f_H_cells n_H_spare) (hr : rR nk nm nid G lR gg t gs fr gc hn gb gf gr hF hH hP hD I F) (hx : xR nm M_fuel M_ticks H_made M_depth B_names O_size n_O_bytes f_O_bytes n_Q_links f_Q_links n_Q_pairs n_H_cells I F) (h35 : I 35 = nI p) (hp : p < 262144) (hop : F 14 p = nI 37) (hh : gf (fr - 1) + 0 ≤ t) (h43 : I 43 = nI L) (hL : L ≤ 131072) : opR nm n_H_cells I F (potE n_S_values n_S_bases n_S_handlerFrames n_H_cells n_H_spare n_Q_links n_Q_pairs n_O_bytes) (m_Machine_perform N P_size P_constants P_closed P_open O_size S_top S_frames S_handlers H_globalsUsed H_used H_spareUsed H_old H_oldLeadsToNew (nI L) H_every H_fresh H_made (I 44) H_reachedFromGlobals H_reachedInAll H_keptGlobalsUsed H_kept B_names Q_size M_status (nI p) (nI (p + 2)) M_fuel M_ticks M_depth (I 45) M_done n_P_words f_P_words n_P_bytes f_P_bytes n_P_ends f_P_ends n_O_bytes f_O_bytes n_S_values f_S_values n_S_bases f_S_bases n_S_floors f_S_floors n_S_returns f_S_returns n_S_closures f_S_closures n_S_handlerFrames f_S_handlerFrames n_S_handlerPlaces f_S_handlerPlaces n_S_handlerHeights f_S_handlerHeights n_S_handlerDepths f_S_handlerDepths 2049 f_H_globals n_H_cells f_H_cells n_H_spare f_H_spare n_Q_links f_Q_links n_Q_pairs f_Q_pairs (nI 37) a) (sw N I F a wd) := by
  obtain ⟨q1, q2, q3, qt, qs, qh, qb, qf, q4, q5, q6, q7, q8, q9, qx, qy, qz⟩ := frE he
  obtain ⟨y1, y2, y3, y4, y5⟩ := frR hr q1
  subst qt qs qh
  by_cases ha : a < nI 0
  · refine ⟨nI 4, f_H_globals, Q_size, H_fresh, H_globalsUsed, H_made, H_old, H_oldLeadsToNew, H_reachedFromGlobals, H_reachedInAll, H_spareUsed, H_used, M_depth, M_fuel, (nI (p + 2)), M_ticks, B_names, O_size, (nI fr), (nI hn), (nI t), n_Q_links, f_Q_links, n_Q_pairs, f_Q_pairs, n_H_cells, f_H_cells, n_H_spare, f_H_spare, n_O_bytes, f_O_bytes, n_S_bases, f_S_bases, n_S_closures, f_S_closures, n_S_floors, f_S_floors, n_S_handlerDepths, f_S_handlerDepths, n_S_handlerFrames, f_S_handlerFrames, n_S_handlerHeights, f_S_handlerHeights, n_S_handlerPlaces, f_S_handlerPlaces, n_S_returns, f_S_returns, n_S_values, f_S_values, 0, 0, I, F, ?_, ?_, pst_same (by omega) he hr hx⟩
    · rw [pf_37]; simp (disch := omega) only [q_o, q_0, q_1, q_2, q_3, q_4, q_5, q_6, q_7, q_8, q_9, q_10, q_11, q_12, q_13, q_14, q_15, q_16, q_17, q_18, q_19, q_20, q_21, q_22, q_23, q_24, q_25, q_26, q_27, q_28, q_29, q_30, q_31, q_32, q_33, q_34, q_35, q_36, q_37, q_38, q_39, q_40, q_41, q_42, q_43, q_44, q_45, q_46, q_47, q_48, q_49, q_50, q_51, q_52, q_53, q_63, q_64, q_126, q_128, q_255, q_512, q_1024, q_1026, q_2000, q_2048, q_2049, q_4095, q_4096, q_8192, q_16383, q_65535, q_65536, q_69632, q_131072, q_132000, q_262144, q_300000, q_1000000, q_lt_t, q_lt_f, q_le_t, q_le_f, q_eq_t, q_eq_f, q_cl, q_add, q_mul, q_sub, q_nle_f, q_nle_t, q_nlt_f, q_nlt_t, q_neq_f, eq_self, q_n1, q_n2, q_m1, q_m1', q_m2, q_m21, q_m0, q_ml, upd_e, upd_n, updL_e, updL_n, updF_e, updF_n, let_d, tk_s, bind_s, or_false, false_or, and_true, true_and, if_true, if_false, ite_true, ite_false, reduceIte, not_true, not_false_iff, Nat.zero_add, Nat.add_zero, Nat.sub_zero, m_Stacks_setLocals, ha]
    · rw [sw_37 (by rw [h35, q_cl (by omega)]; exact hop)]; simp (maxSteps := 2000000) (disch := omega) only [q_o, q_0, q_1, q_2, q_3, q_4, q_5, q_6, q_7, q_8, q_9, q_10, q_11, q_12, q_13, q_14, q_15, q_16, q_17, q_18, q_19, q_20, q_21, q_22, q_23, q_24, q_25, q_26, q_27, q_28, q_29, q_30, q_31, q_32, q_33, q_34, q_35, q_36, q_37, q_38, q_39, q_40, q_41, q_42, q_43, q_44, q_45, q_46, q_47, q_48, q_49, q_50, q_51, q_52, q_53, q_63, q_64, q_126, q_128, q_255, q_512, q_1024, q_1026, q_2000, q_2048, q_2049, q_4095, q_4096, q_8192, q_16383, q_65535, q_65536, q_69632, q_131072, q_132000, q_262144, q_300000, q_1000000, q_lt_t, q_lt_f, q_le_t, q_le_f, q_eq_t, q_eq_f, q_cl, q_add, q_mul, q_sub, q_nle_f, q_nle_t, q_nlt_f, q_nlt_t, q_neq_f, eq_self, q_n1, q_n2, q_m1, q_m1', q_m2, q_m21, q_m0, q_ml, upd_e, upd_n, updL_e, updL_n, updF_e, updF_n, let_d, tk_s, bind_s, or_false, false_or, and_true, true_and, if_true, if_false, ite_true, ite_false, reduceIte, not_true, not_false_iff, Nat.zero_add, Nat.add_zero, Nat.sub_zero, h35, next_5, next_n, ot_37, m_Model_setLocals, ha]
  · obtain ⟨j, hj, rfl⟩ := nI_of ha
    by_cases hlt : j ≤ 16383
    · by_cases hle : gb (fr - 1) + j ≤ 65536
      · obtain ⟨l1, l2, l3, l4, l5, l6⟩ := he.2.1
        obtain ⟨nV', fV', cc, ss, z1, z2, z3, z4, z5, z6, z7⟩ := setLocals_E (N := N) (t := t) (nF := n_S_bases) (fV := f_S_values) (fB := f_S_bases) (fF := f_S_floors) (sh := nI hn) (by omega) q1 q2 q8 qb qf (by omega) hlt hle l1 l2 (by omega)
        obtain ⟨F', r1, r2, r3, r4, r5⟩ := setLocals_R (N := N) (by omega) hr he.1 hlt hle
        have hE' := eR_loc he hle z2 z3 z4 z5 z6
        have hR' := rR_loc hr he.1 r2 r3 r4 r5
        rw [← l5] at z1
        refine ⟨nI 5, f_H_globals, Q_size, H_fresh, H_globalsUsed, H_made, H_old, H_oldLeadsToNew, H_reachedFromGlobals, H_reachedInAll, H_spareUsed, H_used, M_depth, M_fuel, (nI (p + 2)), M_ticks, B_names, O_size, (nI fr), (nI hn), (nI (gb (fr - 1) + j)), n_Q_links, f_Q_links, n_Q_pairs, f_Q_pairs, n_H_cells, f_H_cells, n_H_spare, f_H_spare, n_O_bytes, f_O_bytes, n_S_bases, f_S_bases, n_S_closures, f_S_closures, n_S_floors, (upd f_S_floors (fr - 1) (nI (gb (fr - 1) + j))), n_S_handlerDepths, f_S_handlerDepths, n_S_handlerFrames, f_S_handlerFrames, n_S_handlerHeights, f_S_handlerHeights, n_S_handlerPlaces, f_S_handlerPlaces, n_S_returns, f_S_returns, nV', fV', cc, ss, upd (upd I 29 (nI (gb (fr - 1) + j))) 35 (nI (p + 2)), F', ?_, ?_, pst_on hE' (rR_35 hR' _) (xR_c hx (fun j hj => by rw [upd_n (by omega), upd_n (by omega)]) (r2 41 (by omega) (by omega) (by omega))) (by omega) ⟨fun j hj => r2 j (by omega) (by omega) (by omega), fun j hj => by rw [upd_n (by omega), upd_n (by omega)]⟩ (by rw [upd_e rfl]) (by unfold potE; omega)⟩
        · clear hE' hR' hx
          rw [l5] at z1 ⊢
          rw [pf_37]; simp (disch := omega) only [q_o, q_0, q_1, q_2, q_3, q_4, q_5, q_6, q_7, q_8, q_9, q_10, q_11, q_12, q_13, q_14, q_15, q_16, q_17, q_18, q_19, q_20, q_21, q_22, q_23, q_24, q_25, q_26, q_27, q_28, q_29, q_30, q_31, q_32, q_33, q_34, q_35, q_36, q_37, q_38, q_39, q_40, q_41, q_42, q_43, q_44, q_45, q_46, q_47, q_48, q_49, q_50, q_51, q_52, q_53, q_63, q_64, q_126, q_128, q_255, q_512, q_1024, q_1026, q_2000, q_2048, q_2049, q_4095, q_4096, q_8192, q_16383, q_65535, q_65536, q_69632, q_131072, q_132000, q_262144, q_300000, q_1000000, q_lt_t, q_lt_f, q_le_t, q_le_f, q_eq_t, q_eq_f, q_cl, q_add, q_mul, q_sub, q_nle_f, q_nle_t, q_nlt_f, q_nlt_t, q_neq_f, eq_self, q_n1, q_n2, q_m1, q_m1', q_m2, q_m21, q_m0, q_ml, upd_e, upd_n, updL_e, updL_n, updF_e, updF_n, let_d, tk_s, bind_s, or_false, false_or, and_true, true_and, if_true, if_false, ite_true, ite_false, reduceIte, not_true, not_false_iff, Nat.zero_add, Nat.add_zero, Nat.sub_zero, z1]
        · clear hE' hR' hx he
          rw [sw_37 (by rw [h35, q_cl (by omega)]; exact hop)]; simp (maxSteps := 2000000) (disch := omega) only [q_o, q_0, q_1, q_2, q_3, q_4, q_5, q_6, q_7, q_8, q_9, q_10, q_11, q_12, q_13, q_14, q_15, q_16, q_17, q_18, q_19, q_20, q_21, q_22, q_23, q_24, q_25, q_26, q_27, q_28, q_29, q_30, q_31, q_32, q_33, q_34, q_35, q_36, q_37, q_38, q_39, q_40, q_41, q_42, q_43, q_44, q_45, q_46, q_47, q_48, q_49, q_50, q_51, q_52, q_53, q_63, q_64, q_126, q_128, q_255, q_512, q_1024, q_1026, q_2000, q_2048, q_2049, q_4095, q_4096, q_8192, q_16383, q_65535, q_65536, q_69632, q_131072, q_132000, q_262144, q_300000, q_1000000, q_lt_t, q_lt_f, q_le_t, q_le_f, q_eq_t, q_eq_f, q_cl, q_add, q_mul, q_sub, q_nle_f, q_nle_t, q_nlt_f, q_nlt_t, q_neq_f, eq_self, q_n1, q_n2, q_m1, q_m1', q_m2, q_m21, q_m0, q_ml, upd_e, upd_n, updL_e, updL_n, updF_e, updF_n, let_d, tk_s, bind_s, or_false, false_or, and_true, true_and, if_true, if_false, ite_true, ite_false, reduceIte, not_true, not_false_iff, Nat.zero_add, Nat.add_zero, Nat.sub_zero, h35, next_5, next_n, ot_37, r1]
      · refine ⟨nI 3, f_H_globals, Q_size, H_fresh, H_globalsUsed, H_made, H_old, H_oldLeadsToNew, H_reachedFromGlobals, H_reachedInAll, H_spareUsed, H_used, M_depth, M_fuel, (nI (p + 2)), M_ticks, B_names, O_size, (nI fr), (nI hn), (nI t), n_Q_links, f_Q_links, n_Q_pairs, f_Q_pairs, n_H_cells, f_H_cells, n_H_spare, f_H_spare, n_O_bytes, f_O_bytes, n_S_bases, f_S_bases, n_S_closures, f_S_closures, n_S_floors, f_S_floors, n_S_handlerDepths, f_S_handlerDepths, n_S_handlerFrames, f_S_handlerFrames, n_S_handlerHeights, f_S_handlerHeights, n_S_handlerPlaces, f_S_handlerPlaces, n_S_returns, f_S_returns, n_S_values, f_S_values, 0, 0, I, F, ?_, ?_, pst_same (by omega) he hr hx⟩
        · rw [pf_37]; simp (disch := omega) only [q_o, q_0, q_1, q_2, q_3, q_4, q_5, q_6, q_7, q_8, q_9, q_10, q_11, q_12, q_13, q_14, q_15, q_16, q_17, q_18, q_19, q_20, q_21, q_22, q_23, q_24, q_25, q_26, q_27, q_28, q_29, q_30, q_31, q_32, q_33, q_34, q_35, q_36, q_37, q_38, q_39, q_40, q_41, q_42, q_43, q_44, q_45, q_46, q_47, q_48, q_49, q_50, q_51, q_52, q_53, q_63, q_64, q_126, q_128, q_255, q_512, q_1024, q_1026, q_2000, q_2048, q_2049, q_4095, q_4096, q_8192, q_16383, q_65535, q_65536, q_69632, q_131072, q_132000, q_262144, q_300000, q_1000000, q_lt_t, q_lt_f, q_le_t, q_le_f, q_eq_t, q_eq_f, q_cl, q_add, q_mul, q_sub, q_nle_f, q_nle_t, q_nlt_f, q_nlt_t, q_neq_f, eq_self, q_n1, q_n2, q_m1, q_m1', q_m2, q_m21, q_m0, q_ml, upd_e, upd_n, updL_e, updL_n, updF_e, updF_n, let_d, tk_s, bind_s, or_false, false_or, and_true, true_and, if_true, if_false, ite_true, ite_false, reduceIte, not_true, not_false_iff, Nat.zero_add, Nat.add_zero, Nat.sub_zero, m_Stacks_setLocals, qb]
        · rw [sw_37 (by rw [h35, q_cl (by omega)]; exact hop)]; simp (maxSteps := 2000000) (disch := omega) only [q_o, q_0, q_1, q_2, q_3, q_4, q_5, q_6, q_7, q_8, q_9, q_10, q_11, q_12, q_13, q_14, q_15, q_16, q_17, q_18, q_19, q_20, q_21, q_22, q_23, q_24, q_25, q_26, q_27, q_28, q_29, q_30, q_31, q_32, q_33, q_34, q_35, q_36, q_37, q_38, q_39, q_40, q_41, q_42, q_43, q_44, q_45, q_46, q_47, q_48, q_49, q_50, q_51, q_52, q_53, q_63, q_64, q_126, q_128, q_255, q_512, q_1024, q_1026, q_2000, q_2048, q_2049, q_4095, q_4096, q_8192, q_16383, q_65535, q_65536, q_69632, q_131072, q_132000, q_262144, q_300000, q_1000000, q_lt_t, q_lt_f, q_le_t, q_le_f, q_eq_t, q_eq_f, q_cl, q_add, q_mul, q_sub, q_nle_f, q_nle_t, q_nlt_f, q_nlt_t, q_neq_f, eq_self, q_n1, q_n2, q_m1, q_m1', q_m2, q_m21, q_m0, q_ml, upd_e, upd_n, updL_e, updL_n, updF_e, updF_n, let_d, tk_s, bind_s, or_false, false_or, and_true, true_and, if_true, if_false, ite_true, ite_false, reduceIte, not_true, not_false_iff, Nat.zero_add, Nat.add_zero, Nat.sub_zero, h35, next_5, next_n, ot_37, m_Model_setLocals, y2, y4]
    · refine ⟨nI 4, f_H_globals, Q_size, H_fresh, H_globalsUsed, H_made, H_old, H_oldLeadsToNew, H_reachedFromGlobals, H_reachedInAll, H_spareUsed, H_used, M_depth, M_fuel, (nI (p + 2)), M_ticks, B_names, O_size, (nI fr), (nI hn), (nI t), n_Q_links, f_Q_links, n_Q_pairs, f_Q_pairs, n_H_cells, f_H_cells, n_H_spare, f_H_spare, n_O_bytes, f_O_bytes, n_S_bases, f_S_bases, n_S_closures, f_S_closures, n_S_floors, f_S_floors, n_S_handlerDepths, f_S_handlerDepths, n_S_handlerFrames, f_S_handlerFrames, n_S_handlerHeights, f_S_handlerHeights, n_S_handlerPlaces, f_S_handlerPlaces, n_S_returns, f_S_returns, n_S_values, f_S_values, 0, 0, I, F, ?_, ?_, pst_same (by omega) he hr hx⟩
      · rw [pf_37]; simp (disch := omega) only [q_o, q_0, q_1, q_2, q_3, q_4, q_5, q_6, q_7, q_8, q_9, q_10, q_11, q_12, q_13, q_14, q_15, q_16, q_17, q_18, q_19, q_20, q_21, q_22, q_23, q_24, q_25, q_26, q_27, q_28, q_29, q_30, q_31, q_32, q_33, q_34, q_35, q_36, q_37, q_38, q_39, q_40, q_41, q_42, q_43, q_44, q_45, q_46, q_47, q_48, q_49, q_50, q_51, q_52, q_53, q_63, q_64, q_126, q_128, q_255, q_512, q_1024, q_1026, q_2000, q_2048, q_2049, q_4095, q_4096, q_8192, q_16383, q_65535, q_65536, q_69632, q_131072, q_132000, q_262144, q_300000, q_1000000, q_lt_t, q_lt_f, q_le_t, q_le_f, q_eq_t, q_eq_f, q_cl, q_add, q_mul, q_sub, q_nle_f, q_nle_t, q_nlt_f, q_nlt_t, q_neq_f, eq_self, q_n1, q_n2, q_m1, q_m1', q_m2, q_m21, q_m0, q_ml, upd_e, upd_n, updL_e, updL_n, updF_e, updF_n, let_d, tk_s, bind_s, or_false, false_or, and_true, true_and, if_true, if_false, ite_true, ite_false, reduceIte, not_true, not_false_iff, Nat.zero_add, Nat.add_zero, Nat.sub_zero, m_Stacks_setLocals]
      · rw [sw_37 (by rw [h35, q_cl (by omega)]; exact hop)]; simp (maxSteps := 2000000) (disch := omega) only [q_o, q_0, q_1, q_2, q_3, q_4, q_5, q_6, q_7, q_8, q_9, q_10, q_11, q_12, q_13, q_14, q_15, q_16, q_17, q_18, q_19, q_20, q_21, q_22, q_23, q_24, q_25, q_26, q_27, q_28, q_29, q_30, q_31, q_32, q_33, q_34, q_35, q_36, q_37, q_38, q_39, q_40, q_41, q_42, q_43, q_44, q_45, q_46, q_47, q_48, q_49, q_50, q_51, q_52, q_53, q_63, q_64, q_126, q_128, q_255, q_512, q_1024, q_1026, q_2000, q_2048, q_2049, q_4095, q_4096, q_8192, q_16383, q_65535, q_65536, q_69632, q_131072, q_132000, q_262144, q_300000, q_1000000, q_lt_t, q_lt_f, q_le_t, q_le_f, q_eq_t, q_eq_f, q_cl, q_add, q_mul, q_sub, q_nle_f, q_nle_t, q_nlt_f, q_nlt_t, q_neq_f, eq_self, q_n1, q_n2, q_m1, q_m1', q_m2, q_m21, q_m0, q_ml, upd_e, upd_n, updL_e, updL_n, updF_e, updF_n, let_d, tk_s, bind_s, or_false, false_or, and_true, true_and, if_true, if_false, ite_true, ite_false, reduceIte, not_true, not_false_iff, Nat.zero_add, Nat.add_zero, Nat.sub_zero, h35, next_5, next_n, ot_37, m_Model_setLocals]
end OPS
