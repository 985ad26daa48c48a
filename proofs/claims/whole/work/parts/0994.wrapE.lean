/-! The engine wraps values -/
section WR
variable {N : Nat}
variable {nk : Nat → Nat} {nm : Nat} {nid : Nat} {G : Nat → GO} {lE : List Nat} {gg : Nat → AV} {t : Nat} {gs : Nat → AV} {fr : Nat} {gc : Nat → AV} {hn : Nat} {gb : Nat → Nat} {gf : Nat → Nat} {gr : Nat → Int32} {hF : Nat → Nat} {hH : Nat → Nat} {hP : Nat → Int32} {hD : Nat → Int32} {lR : List Nat} {P_size : Int32} {P_constants : Int32} {P_closed : Int32} {P_open : Int32} {O_size : Int32} {S_top : Int32} {S_frames : Int32} {S_handlers : Int32} {H_globalsUsed : Int32} {H_used : Int32} {H_spareUsed : Int32} {H_old : Int32} {H_oldLeadsToNew : Int32} {H_limit : Int32} {H_every : Int32} {H_fresh : Int32} {H_made : Int32} {H_madeLimit : Int32} {H_reachedFromGlobals : Int32} {H_reachedInAll : Int32} {H_keptGlobalsUsed : Int32} {H_kept : Int32} {B_names : Int32} {Q_size : Int32} {M_status : Int32} {M_place : Int32} {M_next : Int32} {M_fuel : Int32} {M_ticks : Int32} {M_depth : Int32} {M_depthLimit : Int32} {M_done : Int32} {n_P_words : Nat} {f_P_words : Nat → Int32} {n_P_bytes : Nat} {f_P_bytes : Nat → Int32} {n_P_ends : Nat} {f_P_ends : Nat → Int32} {n_O_bytes : Nat} {f_O_bytes : Nat → Int32} {n_S_values : Nat} {f_S_values : Nat → Int64} {n_S_bases : Nat} {f_S_bases : Nat → Int32} {n_S_floors : Nat} {f_S_floors : Nat → Int32} {n_S_returns : Nat} {f_S_returns : Nat → Int32} {n_S_closures : Nat} {f_S_closures : Nat → Int64} {n_S_handlerFrames : Nat} {f_S_handlerFrames : Nat → Int32} {n_S_handlerPlaces : Nat} {f_S_handlerPlaces : Nat → Int32} {n_S_handlerHeights : Nat} {f_S_handlerHeights : Nat → Int32} {n_S_handlerDepths : Nat} {f_S_handlerDepths : Nat → Int32} {n_H_globals : Nat} {f_H_globals : Nat → Int64} {n_H_cells : Nat} {f_H_cells : Nat → Int64} {n_H_spare : Nat} {f_H_spare : Nat → Int64} {n_Q_links : Nat} {f_Q_links : Nat → Int32} {n_Q_pairs : Nat} {f_Q_pairs : Nat → Int64} {I : Nat → Int32} {F : Nat → Nat → Int32}
def cpV (c : Nat → Int64) (d s m : Nat) (va : Nat → Int64) : Nat → Int64 := fun j => if d ≤ j ∧ j < d + m then va (s + (j - d)) else c j
theorem cpV_in {c va : Nat → Int64} {d s m j : Nat} (h : d ≤ j ∧ j < d + m) : cpV c d s m va j = va (s + (j - d)) := if_pos h
theorem cpV_out {c va : Nat → Int64} {d s m j : Nat} (h : ¬ (d ≤ j ∧ j < d + m)) : cpV c d s m va j = c j := if_neg h
theorem wr1 {α : Type} {t n nV nC a : Nat} {va : Nat → Int64} {k : Int32 → (Nat → Int64) → Option (α × Nat × Nat)} (h1 : n ≤ t) (h2 : t ≤ nV) (h3 : nV ≤ 65536) (h4 : a + 1 + n ≤ nC) (h5 : nC ≤ 131072) :
    ∀ (m i : Nat) (c : Nat → Int64), i ≤ n → n - i < m → lm_Objects_wrap_1 N (nI t) nV (nI n) va nC (nI a) k m (nI i) c = k (nI n) (cpV c (a + 1 + i) (t - n + i) (n - i) va)
  | 0, i, c, _, h => absurd h (Nat.not_lt_zero _)
  | m + 1, i, c, hi, h => by
    rw [lm_Objects_wrap_1]
    by_cases e : i = n
    · have e2 : cpV c (a + 1 + i) (t - n + i) (n - i) va = c := by
        funext j
        exact cpV_out (by omega)
      rw [e2]
      simp (disch := omega) only [q_o, q_0, q_1, q_2, q_3, q_4, q_5, q_6, q_7, q_8, q_9, q_10, q_11, q_12, q_13, q_14, q_15, q_16, q_17, q_18, q_19, q_20, q_21, q_22, q_23, q_24, q_25, q_26, q_27, q_28, q_29, q_30, q_31, q_32, q_33, q_34, q_35, q_36, q_37, q_38, q_39, q_40, q_41, q_42, q_43, q_44, q_45, q_46, q_47, q_48, q_49, q_50, q_51, q_52, q_53, q_63, q_64, q_126, q_128, q_255, q_512, q_1024, q_1026, q_2000, q_2048, q_2049, q_4095, q_4096, q_8192, q_16383, q_65535, q_65536, q_69632, q_131072, q_132000, q_262144, q_300000, q_1000000, q_lt_t, q_lt_f, q_le_t, q_le_f, q_eq_t, q_eq_f, q_cl, q_add, q_mul, q_sub, q_nle_f, q_nle_t, q_nlt_f, q_nlt_t, q_neq_f, eq_self, q_n1, q_n2, q_m1, q_m1', q_m2, q_m21, q_m0, q_ml, upd_e, upd_n, updL_e, updL_n, updF_e, updF_n, let_d, tk_s, bind_s, or_false, false_or, and_true, true_and, if_true, if_false, ite_true, ite_false, reduceIte, not_true, not_false_iff, Nat.zero_add, Nat.add_zero, Nat.sub_zero]
      rw [e]
    · have ih := wr1 (k := k) (α := α) (va := va) h1 h2 h3 h4 h5 m (i + 1) (vp_updL c (a + 1 + i) (va (t - n + i))) (by omega) (by omega)
      have e2 : cpV (vp_updL c (a + 1 + i) (va (t - n + i))) (a + 1 + (i + 1)) (t - n + (i + 1)) (n - (i + 1)) va = cpV c (a + 1 + i) (t - n + i) (n - i) va := by
        funext j
        by_cases hj : a + 1 + (i + 1) ≤ j ∧ j < a + 1 + (i + 1) + (n - (i + 1))
        · rw [cpV_in hj, cpV_in (by omega)]
          congr 1
          omega
        · rw [cpV_out hj]
          by_cases hji : j = a + 1 + i
          · rw [updL_e hji, cpV_in (by omega)]
            congr 1
            omega
          · rw [updL_n hji, cpV_out (by omega)]
      rw [e2] at ih
      simp (disch := omega) only [q_o, q_0, q_1, q_2, q_3, q_4, q_5, q_6, q_7, q_8, q_9, q_10, q_11, q_12, q_13, q_14, q_15, q_16, q_17, q_18, q_19, q_20, q_21, q_22, q_23, q_24, q_25, q_26, q_27, q_28, q_29, q_30, q_31, q_32, q_33, q_34, q_35, q_36, q_37, q_38, q_39, q_40, q_41, q_42, q_43, q_44, q_45, q_46, q_47, q_48, q_49, q_50, q_51, q_52, q_53, q_63, q_64, q_126, q_128, q_255, q_512, q_1024, q_1026, q_2000, q_2048, q_2049, q_4095, q_4096, q_8192, q_16383, q_65535, q_65536, q_69632, q_131072, q_132000, q_262144, q_300000, q_1000000, q_lt_t, q_lt_f, q_le_t, q_le_f, q_eq_t, q_eq_f, q_cl, q_add, q_mul, q_sub, q_nle_f, q_nle_t, q_nlt_f, q_nlt_t, q_neq_f, eq_self, q_n1, q_n2, q_m1, q_m1', q_m2, q_m21, q_m0, q_ml, upd_e, upd_n, updL_e, updL_n, updF_e, updF_n, let_d, tk_s, bind_s, or_false, false_or, and_true, true_and, if_true, if_false, ite_true, ite_false, reduceIte, not_true, not_false_iff, Nat.zero_add, Nat.add_zero, Nat.sub_zero, ih]
theorem wr2 {α : Type} {t n nV nC a : Nat} {va : Nat → Int64} {k : Int32 → (Nat → Int64) → Option (α × Nat × Nat)} (h1 : n ≤ t) (h2 : t ≤ nV) (h3 : nV ≤ 65536) (h4 : a + 1 + n ≤ nC) (h5 : nC ≤ 131072) :
    ∀ (m i : Nat) (c : Nat → Int64), i ≤ n → n - i < m → lm_Objects_wrap_2 N (nI t) nV (nI n) va nC (nI a) k m (nI i) c = k (nI n) (cpV c (a + 1 + i) (t - n + i) (n - i) va)
  | 0, i, c, _, h => absurd h (Nat.not_lt_zero _)
  | m + 1, i, c, hi, h => by
    rw [lm_Objects_wrap_2]
    by_cases e : i = n
    · have e2 : cpV c (a + 1 + i) (t - n + i) (n - i) va = c := by
        funext j
        exact cpV_out (by omega)
      rw [e2]
      simp (disch := omega) only [q_o, q_0, q_1, q_2, q_3, q_4, q_5, q_6, q_7, q_8, q_9, q_10, q_11, q_12, q_13, q_14, q_15, q_16, q_17, q_18, q_19, q_20, q_21, q_22, q_23, q_24, q_25, q_26, q_27, q_28, q_29, q_30, q_31, q_32, q_33, q_34, q_35, q_36, q_37, q_38, q_39, q_40, q_41, q_42, q_43, q_44, q_45, q_46, q_47, q_48, q_49, q_50, q_51, q_52, q_53, q_63, q_64, q_126, q_128, q_255, q_512, q_1024, q_1026, q_2000, q_2048, q_2049, q_4095, q_4096, q_8192, q_16383, q_65535, q_65536, q_69632, q_131072, q_132000, q_262144, q_300000, q_1000000, q_lt_t, q_lt_f, q_le_t, q_le_f, q_eq_t, q_eq_f, q_cl, q_add, q_mul, q_sub, q_nle_f, q_nle_t, q_nlt_f, q_nlt_t, q_neq_f, eq_self, q_n1, q_n2, q_m1, q_m1', q_m2, q_m21, q_m0, q_ml, upd_e, upd_n, updL_e, updL_n, updF_e, updF_n, let_d, tk_s, bind_s, or_false, false_or, and_true, true_and, if_true, if_false, ite_true, ite_false, reduceIte, not_true, not_false_iff, Nat.zero_add, Nat.add_zero, Nat.sub_zero]
      rw [e]
    · have ih := wr2 (k := k) (α := α) (va := va) h1 h2 h3 h4 h5 m (i + 1) (vp_updL c (a + 1 + i) (va (t - n + i))) (by omega) (by omega)
      have e2 : cpV (vp_updL c (a + 1 + i) (va (t - n + i))) (a + 1 + (i + 1)) (t - n + (i + 1)) (n - (i + 1)) va = cpV c (a + 1 + i) (t - n + i) (n - i) va := by
        funext j
        by_cases hj : a + 1 + (i + 1) ≤ j ∧ j < a + 1 + (i + 1) + (n - (i + 1))
        · rw [cpV_in hj, cpV_in (by omega)]
          congr 1
          omega
        · rw [cpV_out hj]
          by_cases hji : j = a + 1 + i
          · rw [updL_e hji, cpV_in (by omega)]
            congr 1
            omega
          · rw [updL_n hji, cpV_out (by omega)]
      rw [e2] at ih
      simp (disch := omega) only [q_o, q_0, q_1, q_2, q_3, q_4, q_5, q_6, q_7, q_8, q_9, q_10, q_11, q_12, q_13, q_14, q_15, q_16, q_17, q_18, q_19, q_20, q_21, q_22, q_23, q_24, q_25, q_26, q_27, q_28, q_29, q_30, q_31, q_32, q_33, q_34, q_35, q_36, q_37, q_38, q_39, q_40, q_41, q_42, q_43, q_44, q_45, q_46, q_47, q_48, q_49, q_50, q_51, q_52, q_53, q_63, q_64, q_126, q_128, q_255, q_512, q_1024, q_1026, q_2000, q_2048, q_2049, q_4095, q_4096, q_8192, q_16383, q_65535, q_65536, q_69632, q_131072, q_132000, q_262144, q_300000, q_1000000, q_lt_t, q_lt_f, q_le_t, q_le_f, q_eq_t, q_eq_f, q_cl, q_add, q_mul, q_sub, q_nle_f, q_nle_t, q_nlt_f, q_nlt_t, q_neq_f, eq_self, q_n1, q_n2, q_m1, q_m1', q_m2, q_m21, q_m0, q_ml, upd_e, upd_n, updL_e, updL_n, updF_e, updF_n, let_d, tk_s, bind_s, or_false, false_or, and_true, true_and, if_true, if_false, ite_true, ite_false, reduceIte, not_true, not_false_iff, Nat.zero_add, Nat.add_zero, Nat.sub_zero, ih]
theorem i_add0 (x : Int32) : x + nI 0 = x := Int32.add_zero x
/-- the parts of a new object: n values of the stack -/
def obj (K : Nat) (num : Int32) (n t : Nat) (gs : Nat → AV) : GO := (K, num, n, fun i => gs (t - n + (i - 1)), fun _ => 0)
theorem obj_np {K n : Nat} {num : Int32} (h6 : K ≠ 6) (h7 : K ≠ 7) : gNp (gnew G nid (obj K num n t gs)) nid = n ∧ gZ (gnew G nid (obj K num n t gs)) nid = 1 + n := by
  unfold gNp gZ
  rw [gn_x.1, gn_x.2.2.1]
  exact ⟨by rw [if_neg (show ¬ (obj K num n t gs).1 = 6 from h6), if_neg (show ¬ (obj K num n t gs).1 = 7 from h7)]; rfl, by rw [if_neg (show ¬ (obj K num n t gs).1 = 6 from h6), if_neg (show ¬ (obj K num n t gs).1 = 7 from h7)]; rfl⟩
theorem eR_wrap {K n : Nat} {num : Int32} {cc : Nat → Int64} (he : eR nk nm nid G lE gg t gs fr gc hn gb gf gr hF hH hP hD S_top S_frames S_handlers n_S_values f_S_values n_S_bases f_S_bases n_S_floors f_S_floors n_S_returns f_S_returns n_S_closures f_S_closures n_S_handlerFrames f_S_handlerFrames n_S_handlerPlaces f_S_handlerPlaces n_S_handlerHeights f_S_handlerHeights n_S_handlerDepths f_S_handlerDepths H_globalsUsed H_used H_old H_oldLeadsToNew f_H_globals n_H_cells f_H_cells n_H_spare) (h6 : K < 6) (hnt : gf (fr - 1) + n ≤ t) (hO : okO nk nm (gnew G nid (obj K num n t gs)) nid) (hroom : tot (gZ G) lE + (n + 1) ≤ n_H_cells) (hcc : cc = cpV (vp_updL f_H_cells (tot (gZ G) lE) (hdW K num n)) (tot (gZ G) lE + 1) (t - n) n f_S_values) : eR nk nm (nid + 1) (gnew G nid (obj K num n t gs)) (lE ++ [nid]) gg (t - n) gs fr gc hn gb gf gr hF hH hP hD (nI (t - n)) S_frames S_handlers n_S_values f_S_values n_S_bases f_S_bases n_S_floors f_S_floors n_S_returns f_S_returns n_S_closures f_S_closures n_S_handlerFrames f_S_handlerFrames n_S_handlerPlaces f_S_handlerPlaces n_S_handlerHeights f_S_handlerHeights n_S_handlerDepths f_S_handlerDepths H_globalsUsed (nI (tot (gZ G) lE + (n + 1))) H_old H_oldLeadsToNew f_H_globals n_H_cells cc n_H_spare ∧ wE (gnew G nid (obj K num n t gs)) (lE ++ [nid]) (vO nid) = obW K (tot (gZ G) lE) := by
  have hnp := obj_np (G := G) (nid := nid) (t := t) (gs := gs) (K := K) (n := n) (num := num) (by omega) (by omega)
  have hv := he.2.2.2.1.1
  have hG := he.2.2.2.2.1.1
  subst hcc
  have h := eR_new (x := obj K num n t gs) he ⟨hO, fun i hi hin => ?_⟩ (by rw [hnp.2]; omega) (c' := cpV (vp_updL f_H_cells (tot (gZ G) lE) (hdW K num n)) (tot (gZ G) lE + 1) (t - n) n f_S_values) (fun a ha => ?_) ?_ (fun i hi hin => ?_) (fun e => absurd (show K = 6 from e) (by omega))
  · rw [hnp.2, Nat.add_comm 1 n] at h
    refine ⟨eR_drop h hnt, ?_⟩
    show obW (gK _ _) (adr _ _ _) = _
    rw [adr_nid hG, gn_x.1]
    rfl
  · rw [hnp.1] at hin
    exact (hv (t - n + (i - 1)) (by omega)).2
  · rw [cpV_out (by omega), updL_n (by omega)]
  · rw [cpV_out (by omega), updL_e rfl]
    unfold hE
    rw [gn_x.1, gn_x.2.1, gn_x.2.2.1, if_neg (show ¬ (obj K num n t gs).1 = 6 by show ¬ K = 6; omega)]
    rfl
  · rw [hnp.1] at hin
    rw [cpV_in (by omega), show t - n + (tot (gZ G) lE + i - (tot (gZ G) lE + 1)) = t - n + (i - 1) by omega]
    exact (hv (t - n + (i - 1)) (by omega)).1
end WR
