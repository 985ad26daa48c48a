/-! The reference's gather -/
section WR
variable {N : Nat}
variable {nk : Nat → Nat} {nm : Nat} {nid : Nat} {G : Nat → GO} {lE : List Nat} {gg : Nat → AV} {t : Nat} {gs : Nat → AV} {fr : Nat} {gc : Nat → AV} {hn : Nat} {gb : Nat → Nat} {gf : Nat → Nat} {gr : Nat → Int32} {hF : Nat → Nat} {hH : Nat → Nat} {hP : Nat → Int32} {hD : Nat → Int32} {lR : List Nat} {P_size : Int32} {P_constants : Int32} {P_closed : Int32} {P_open : Int32} {O_size : Int32} {S_top : Int32} {S_frames : Int32} {S_handlers : Int32} {H_globalsUsed : Int32} {H_used : Int32} {H_spareUsed : Int32} {H_old : Int32} {H_oldLeadsToNew : Int32} {H_limit : Int32} {H_every : Int32} {H_fresh : Int32} {H_made : Int32} {H_madeLimit : Int32} {H_reachedFromGlobals : Int32} {H_reachedInAll : Int32} {H_keptGlobalsUsed : Int32} {H_kept : Int32} {B_names : Int32} {Q_size : Int32} {M_status : Int32} {M_place : Int32} {M_next : Int32} {M_fuel : Int32} {M_ticks : Int32} {M_depth : Int32} {M_depthLimit : Int32} {M_done : Int32} {n_P_words : Nat} {f_P_words : Nat → Int32} {n_P_bytes : Nat} {f_P_bytes : Nat → Int32} {n_P_ends : Nat} {f_P_ends : Nat → Int32} {n_O_bytes : Nat} {f_O_bytes : Nat → Int32} {n_S_values : Nat} {f_S_values : Nat → Int64} {n_S_bases : Nat} {f_S_bases : Nat → Int32} {n_S_floors : Nat} {f_S_floors : Nat → Int32} {n_S_returns : Nat} {f_S_returns : Nat → Int32} {n_S_closures : Nat} {f_S_closures : Nat → Int64} {n_S_handlerFrames : Nat} {f_S_handlerFrames : Nat → Int32} {n_S_handlerPlaces : Nat} {f_S_handlerPlaces : Nat → Int32} {n_S_handlerHeights : Nat} {f_S_handlerHeights : Nat → Int32} {n_S_handlerDepths : Nat} {f_S_handlerDepths : Nat → Int32} {n_H_globals : Nat} {f_H_globals : Nat → Int64} {n_H_cells : Nat} {f_H_cells : Nat → Int64} {n_H_spare : Nat} {f_H_spare : Nat → Int64} {n_Q_links : Nat} {f_Q_links : Nat → Int32} {n_Q_pairs : Nat} {f_Q_pairs : Nat → Int64} {I : Nat → Int32} {F : Nat → Nat → Int32}
def cpI (c : Nat → Int32) (d s m : Nat) (va : Nat → Int32) : Nat → Int32 := fun j => if d ≤ j ∧ j < d + m then va (s + (j - d)) else c j
theorem cpI_in {c va : Nat → Int32} {d s m j : Nat} (h : d ≤ j ∧ j < d + m) : cpI c d s m va j = va (s + (j - d)) := if_pos h
theorem cpI_out {c va : Nat → Int32} {d s m j : Nat} (h : ¬ (d ≤ j ∧ j < d + m)) : cpI c d s m va j = c j := if_neg h
theorem grR1 {t n a : Nat} {J : Nat → Int32} (h29 : J 29 = nI t) (h1 : n ≤ t) (h2 : t ≤ 65536) (h4 : a + 1 + n ≤ 131072) :
    ∀ (m i : Nat) (F : Nat → Nat → Int32), i ≤ n → n - i < m → ∃ F' : Nat → Nat → Int32, (∀ j, j ≠ 0 → j ≠ 1 → F' j = F j) ∧ F' 0 = cpI (F 0) (a + 1 + i) (t - n + i) (n - i) (F 27) ∧ F' 1 = cpI (F 1) (a + 1 + i) (t - n + i) (n - i) (F 28) ∧ ∀ (ζ : Type) (k : Int32 → (Nat → Nat → Int32) → Option ζ), lm_Model_gather_1 N (nI n) (nI a) J k m (nI i) F = k (nI n) F'
  | 0, i, F, _, h => absurd h (Nat.not_lt_zero _)
  | m + 1, i, F, hi, h => by
    by_cases e : i = n
    · refine ⟨F, fun _ _ _ => rfl, ?_, ?_, fun ζ k => ?_⟩
      · funext j; rw [cpI_out (by omega)]
      · funext j; rw [cpI_out (by omega)]
      · rw [lm_Model_gather_1]
        simp (disch := omega) only [q_o, q_0, q_1, q_2, q_3, q_4, q_5, q_6, q_7, q_8, q_9, q_10, q_11, q_12, q_13, q_14, q_15, q_16, q_17, q_18, q_19, q_20, q_21, q_22, q_23, q_24, q_25, q_26, q_27, q_28, q_29, q_30, q_31, q_32, q_33, q_34, q_35, q_36, q_37, q_38, q_39, q_40, q_41, q_42, q_43, q_44, q_45, q_46, q_47, q_48, q_49, q_50, q_51, q_52, q_53, q_63, q_64, q_126, q_128, q_255, q_512, q_1024, q_1026, q_2000, q_2048, q_2049, q_4095, q_4096, q_8192, q_16383, q_65535, q_65536, q_69632, q_131072, q_132000, q_262144, q_300000, q_1000000, q_lt_t, q_lt_f, q_le_t, q_le_f, q_eq_t, q_eq_f, q_cl, q_add, q_mul, q_sub, q_nle_f, q_nle_t, q_nlt_f, q_nlt_t, q_neq_f, eq_self, q_n1, q_n2, q_m1, q_m1', q_m2, q_m21, q_m0, q_ml, upd_e, upd_n, updL_e, updL_n, updF_e, updF_n, let_d, tk_s, bind_s, or_false, false_or, and_true, true_and, if_true, if_false, ite_true, ite_false, reduceIte, not_true, not_false_iff, Nat.zero_add, Nat.add_zero, Nat.sub_zero]
        rw [e]
    · obtain ⟨F', a1, a2, a3, a4⟩ := grR1 h29 h1 h2 h4 m (i + 1) (updF (updF F 0 (upd (F 0) (a + 1 + i) (F 27 (t - n + i)))) 1 (upd (F 1) (a + 1 + i) (F 28 (t - n + i)))) (by omega) (by omega)
      have key : ∀ c va : Nat → Int32, cpI (upd c (a + 1 + i) (va (t - n + i))) (a + 1 + (i + 1)) (t - n + (i + 1)) (n - (i + 1)) va = cpI c (a + 1 + i) (t - n + i) (n - i) va := by
        intro c va
        funext j
        by_cases hj : a + 1 + (i + 1) ≤ j ∧ j < a + 1 + (i + 1) + (n - (i + 1))
        · rw [cpI_in hj, cpI_in (by omega)]
          congr 1
          omega
        · rw [cpI_out hj]
          by_cases hji : j = a + 1 + i
          · rw [upd_e hji, cpI_in (by omega)]
            congr 1
            omega
          · rw [upd_n hji, cpI_out (by omega)]
      refine ⟨F', fun j h0 h1 => by rw [a1 j h0 h1, updF_n h1, updF_n h0], ?_, ?_, fun ζ k => ?_⟩
      · rw [a2, updF_n (by omega), updF_e rfl, updF_n (by omega), updF_n (by omega), key]
      · rw [a3, updF_e rfl, updF_n (by omega), updF_n (by omega), key]
      · rw [lm_Model_gather_1]
        simp (disch := omega) only [q_o, q_0, q_1, q_2, q_3, q_4, q_5, q_6, q_7, q_8, q_9, q_10, q_11, q_12, q_13, q_14, q_15, q_16, q_17, q_18, q_19, q_20, q_21, q_22, q_23, q_24, q_25, q_26, q_27, q_28, q_29, q_30, q_31, q_32, q_33, q_34, q_35, q_36, q_37, q_38, q_39, q_40, q_41, q_42, q_43, q_44, q_45, q_46, q_47, q_48, q_49, q_50, q_51, q_52, q_53, q_63, q_64, q_126, q_128, q_255, q_512, q_1024, q_1026, q_2000, q_2048, q_2049, q_4095, q_4096, q_8192, q_16383, q_65535, q_65536, q_69632, q_131072, q_132000, q_262144, q_300000, q_1000000, q_lt_t, q_lt_f, q_le_t, q_le_f, q_eq_t, q_eq_f, q_cl, q_add, q_mul, q_sub, q_nle_f, q_nle_t, q_nlt_f, q_nlt_t, q_neq_f, eq_self, q_n1, q_n2, q_m1, q_m1', q_m2, q_m21, q_m0, q_ml, upd_e, upd_n, updL_e, updL_n, updF_e, updF_n, let_d, tk_s, bind_s, or_false, false_or, and_true, true_and, if_true, if_false, ite_true, ite_false, reduceIte, not_true, not_false_iff, Nat.zero_add, Nat.add_zero, Nat.sub_zero, h29, a4]
theorem grR2 {t n a : Nat} {J : Nat → Int32} (h29 : J 29 = nI t) (h1 : n ≤ t) (h2 : t ≤ 65536) (h4 : a + 1 + n ≤ 131072) :
    ∀ (m i : Nat) (F : Nat → Nat → Int32), i ≤ n → n - i < m → ∃ F' : Nat → Nat → Int32, (∀ j, j ≠ 0 → j ≠ 1 → F' j = F j) ∧ F' 0 = cpI (F 0) (a + 1 + i) (t - n + i) (n - i) (F 27) ∧ F' 1 = cpI (F 1) (a + 1 + i) (t - n + i) (n - i) (F 28) ∧ ∀ (ζ : Type) (k : Int32 → (Nat → Nat → Int32) → Option ζ), lm_Model_gather_2 N (nI n) (nI a) J k m (nI i) F = k (nI n) F'
  | 0, i, F, _, h => absurd h (Nat.not_lt_zero _)
  | m + 1, i, F, hi, h => by
    by_cases e : i = n
    · refine ⟨F, fun _ _ _ => rfl, ?_, ?_, fun ζ k => ?_⟩
      · funext j; rw [cpI_out (by omega)]
      · funext j; rw [cpI_out (by omega)]
      · rw [lm_Model_gather_2]
        simp (disch := omega) only [q_o, q_0, q_1, q_2, q_3, q_4, q_5, q_6, q_7, q_8, q_9, q_10, q_11, q_12, q_13, q_14, q_15, q_16, q_17, q_18, q_19, q_20, q_21, q_22, q_23, q_24, q_25, q_26, q_27, q_28, q_29, q_30, q_31, q_32, q_33, q_34, q_35, q_36, q_37, q_38, q_39, q_40, q_41, q_42, q_43, q_44, q_45, q_46, q_47, q_48, q_49, q_50, q_51, q_52, q_53, q_63, q_64, q_126, q_128, q_255, q_512, q_1024, q_1026, q_2000, q_2048, q_2049, q_4095, q_4096, q_8192, q_16383, q_65535, q_65536, q_69632, q_131072, q_132000, q_262144, q_300000, q_1000000, q_lt_t, q_lt_f, q_le_t, q_le_f, q_eq_t, q_eq_f, q_cl, q_add, q_mul, q_sub, q_nle_f, q_nle_t, q_nlt_f, q_nlt_t, q_neq_f, eq_self, q_n1, q_n2, q_m1, q_m1', q_m2, q_m21, q_m0, q_ml, upd_e, upd_n, updL_e, updL_n, updF_e, updF_n, let_d, tk_s, bind_s, or_false, false_or, and_true, true_and, if_true, if_false, ite_true, ite_false, reduceIte, not_true, not_false_iff, Nat.zero_add, Nat.add_zero, Nat.sub_zero]
        rw [e]
    · obtain ⟨F', a1, a2, a3, a4⟩ := grR2 h29 h1 h2 h4 m (i + 1) (updF (updF F 0 (upd (F 0) (a + 1 + i) (F 27 (t - n + i)))) 1 (upd (F 1) (a + 1 + i) (F 28 (t - n + i)))) (by omega) (by omega)
      have key : ∀ c va : Nat → Int32, cpI (upd c (a + 1 + i) (va (t - n + i))) (a + 1 + (i + 1)) (t - n + (i + 1)) (n - (i + 1)) va = cpI c (a + 1 + i) (t - n + i) (n - i) va := by
        intro c va
        funext j
        by_cases hj : a + 1 + (i + 1) ≤ j ∧ j < a + 1 + (i + 1) + (n - (i + 1))
        · rw [cpI_in hj, cpI_in (by omega)]
          congr 1
          omega
        · rw [cpI_out hj]
          by_cases hji : j = a + 1 + i
          · rw [upd_e hji, cpI_in (by omega)]
            congr 1
            omega
          · rw [upd_n hji, cpI_out (by omega)]
      refine ⟨F', fun j h0 h1 => by rw [a1 j h0 h1, updF_n h1, updF_n h0], ?_, ?_, fun ζ k => ?_⟩
      · rw [a2, updF_n (by omega), updF_e rfl, updF_n (by omega), updF_n (by omega), key]
      · rw [a3, updF_e rfl, updF_n (by omega), updF_n (by omega), key]
      · rw [lm_Model_gather_2]
        simp (disch := omega) only [q_o, q_0, q_1, q_2, q_3, q_4, q_5, q_6, q_7, q_8, q_9, q_10, q_11, q_12, q_13, q_14, q_15, q_16, q_17, q_18, q_19, q_20, q_21, q_22, q_23, q_24, q_25, q_26, q_27, q_28, q_29, q_30, q_31, q_32, q_33, q_34, q_35, q_36, q_37, q_38, q_39, q_40, q_41, q_42, q_43, q_44, q_45, q_46, q_47, q_48, q_49, q_50, q_51, q_52, q_53, q_63, q_64, q_126, q_128, q_255, q_512, q_1024, q_1026, q_2000, q_2048, q_2049, q_4095, q_4096, q_8192, q_16383, q_65535, q_65536, q_69632, q_131072, q_132000, q_262144, q_300000, q_1000000, q_lt_t, q_lt_f, q_le_t, q_le_f, q_eq_t, q_eq_f, q_cl, q_add, q_mul, q_sub, q_nle_f, q_nle_t, q_nlt_f, q_nlt_t, q_neq_f, eq_self, q_n1, q_n2, q_m1, q_m1', q_m2, q_m21, q_m0, q_ml, upd_e, upd_n, updL_e, updL_n, updF_e, updF_n, let_d, tk_s, bind_s, or_false, false_or, and_true, true_and, if_true, if_false, ite_true, ite_false, reduceIte, not_true, not_false_iff, Nat.zero_add, Nat.add_zero, Nat.sub_zero, h29, a4]
theorem make_R {K n a sz : Nat} {num : Int32} (h3 : I 3 = nI a) (ha : a < 131072) (hK : K < 256) (hn : n < 65536) : m_Model_make N I F (nI K) (nI n) num (nI sz) = some (nI a, updF (updF F 0 (upd (F 0) a (nI (K + 256 * n)))) 1 (upd (F 1) a num), upd I 3 (nI (a + sz))) := by
  unfold m_Model_make
  simp (disch := omega) only [q_o, q_0, q_1, q_2, q_3, q_4, q_5, q_6, q_7, q_8, q_9, q_10, q_11, q_12, q_13, q_14, q_15, q_16, q_17, q_18, q_19, q_20, q_21, q_22, q_23, q_24, q_25, q_26, q_27, q_28, q_29, q_30, q_31, q_32, q_33, q_34, q_35, q_36, q_37, q_38, q_39, q_40, q_41, q_42, q_43, q_44, q_45, q_46, q_47, q_48, q_49, q_50, q_51, q_52, q_53, q_63, q_64, q_126, q_128, q_255, q_512, q_1024, q_1026, q_2000, q_2048, q_2049, q_4095, q_4096, q_8192, q_16383, q_65535, q_65536, q_69632, q_131072, q_132000, q_262144, q_300000, q_1000000, q_lt_t, q_lt_f, q_le_t, q_le_f, q_eq_t, q_eq_f, q_cl, q_add, q_mul, q_sub, q_nle_f, q_nle_t, q_nlt_f, q_nlt_t, q_neq_f, eq_self, q_n1, q_n2, q_m1, q_m1', q_m2, q_m21, q_m0, q_ml, upd_e, upd_n, updL_e, updL_n, updF_e, updF_n, let_d, tk_s, bind_s, or_false, false_or, and_true, true_and, if_true, if_false, ite_true, ite_false, reduceIte, not_true, not_false_iff, Nat.zero_add, Nat.add_zero, Nat.sub_zero, h3, r_shl8, r_or]
/-- rR behind hasRoom -/
theorem rR_room {l' : List Nat} {I' : Nat → Int32} {F' : Nat → Nat → Int32} (hr : rR nk nm nid G lR gg t gs fr gc hn gb gf gr hF hH hP hD I F) (h1 : hpR nk nm nid G l' gg I' F') (h2 : vlR nk nm G l' t gs fr gc F') (h3 : ∀ k, k ≠ 3 → k ≠ 8 → k ≠ 50 → k ≠ 51 → I' k = I k) (h4 : ∀ k, k ≠ 0 → k ≠ 1 → k ≠ 2 → k ≠ 6 → k ≠ 23 → k ≠ 28 → F' k = F k) : rR nk nm nid G l' gg t gs fr gc hn gb gf gr hF hH hP hD I' F' := by
  obtain ⟨⟨a1, a2, a3, a4, a5, a6, a7, a8⟩, _⟩ := hr
  refine ⟨⟨?_, ?_, ?_, ?_, ?_, ?_, ?_, ?_⟩, h2, h1⟩
  · rw [h3 29 (by omega) (by omega) (by omega) (by omega)]; exact a1
  · rw [h3 22 (by omega) (by omega) (by omega) (by omega)]; exact a2
  · rw [h3 30 (by omega) (by omega) (by omega) (by omega)]; exact a3
  · rw [h4 24 (by omega) (by omega) (by omega) (by omega) (by omega) (by omega), h4 25 (by omega) (by omega) (by omega) (by omega) (by omega) (by omega)]; exact a4
  · rw [h4 26 (by omega) (by omega) (by omega) (by omega) (by omega) (by omega)]; exact a5
  · rw [h4 31 (by omega) (by omega) (by omega) (by omega) (by omega) (by omega), h4 32 (by omega) (by omega) (by omega) (by omega) (by omega) (by omega), h4 33 (by omega) (by omega) (by omega) (by omega) (by omega) (by omega), h4 34 (by omega) (by omega) (by omega) (by omega) (by omega) (by omega)]; exact a6
  · rw [h3 20 (by omega) (by omega) (by omega) (by omega)]; exact a7
  · rw [h3 21 (by omega) (by omega) (by omega) (by omega)]; exact a8
/-- what making leaves -/
def frG (I : Nat → Int32) (F : Nat → Nat → Int32) (I' : Nat → Int32) (F' : Nat → Nat → Int32) : Prop := (∀ j, j ≠ 3 → j ≠ 8 → j ≠ 29 → j ≠ 50 → j ≠ 51 → I' j = I j) ∧ (∀ j, j ≠ 0 → j ≠ 1 → j ≠ 2 → j ≠ 6 → j ≠ 23 → j ≠ 27 → j ≠ 28 → F' j = F j)
theorem gather_R {K n L : Nat} {num : Int32} (hN : 400000 ≤ N) (hr : rR nk nm nid G lR gg t gs fr gc hn gb gf gr hF hH hP hD I F) (hs : shp t fr hn gb gf hF hH) (hnm : nm < 134217728) (h2 : 2 ≤ K) (h6 : K < 6) (hn4 : n ≤ 4095) (hnt : gf (fr - 1) + n ≤ t) (hfull : n = 0 → t < 65536) (h43 : I 43 = nI L) (hL : L ≤ 131072) (hO : okO nk nm (gnew G nid (obj K num n t gs)) nid) :
    ∃ (st : Int32) (l' : List Nat) (I' : Nat → Int32) (F' : Nat → Nat → Int32), m_Model_gather N I F (nI K) (nI n) num = some (st, F', I') ∧ frG I F I' F' ∧
      ((st = nI 5 ∧ fits' G (rtA gg t gs fr gc) (n + 1) L ∧ rR nk nm (nid + 1) (gnew G nid (obj K num n t gs)) (l' ++ [nid]) gg (t - n + 1) (upA gs (t - n) (vO nid)) fr gc hn gb gf gr hF hH hP hD I' F') ∨ (st = nI 3 ∧ ¬ fits' G (rtA gg t gs fr gc) (n + 1) L ∧ rR nk nm nid G l' gg t gs fr gc hn gb gf gr hF hH hP hD I' F')) := by
  obtain ⟨s1, s2, s3, s4⟩ := hs
  obtain ⟨F1, I1, l', b, r1, r2, r3, r4, r5, r6⟩ := hasRoom_R (N := N) (n := n + 1) (by omega) hnm hr.2.2 hr.2.1 s3 s2 hr.1.1 hr.1.2.1 hr.1.2.2.2.2.2.2.1 hr.1.2.2.2.2.2.2.2 h43 hL (by omega)
  have hr1 := rR_room hr r2 r3 r4 r5
  have y1 := hr.1.1
  rcases r6 with ⟨rfl, f1, f2⟩ | ⟨rfl, f1⟩
  · have hnp := obj_np (G := G) (nid := nid) (t := t) (gs := gs) (K := K) (n := n) (num := num) (by omega) (by omega)
    have hmk := make_R (N := N) (I := I1) (F := F1) (K := K) (n := n) (a := tot (gZ G) l') (sz := n + 1) (num := num) r2.2.2.1 (by omega) (by omega) (by omega)
    have h29' : upd I1 3 (nI (tot (gZ G) l' + (n + 1))) 29 = nI t := by rw [upd_n (by omega)]; exact hr1.1.1
    have hv1 := hr1.2.1.1
    have hgr : ∃ F3 : Nat → Nat → Int32, (∀ j, j ≠ 0 → j ≠ 1 → F3 j = F1 j) ∧ F3 0 = cpI (upd (F1 0) (tot (gZ G) l') (nI (K + 256 * n))) (tot (gZ G) l' + 1) (t - n) n (F1 27) ∧ F3 1 = cpI (upd (F1 1) (tot (gZ G) l') num) (tot (gZ G) l' + 1) (t - n) n (F1 28) ∧ m_Model_gather N I F (nI K) (nI n) num = (m_Model_give N (upd I1 3 (nI (tot (gZ G) l' + (n + 1)))) F3 (nI n) (nI 2) (nI (tot (gZ G) l'))).bind fun (z24_1, z24_2, z24_3) => some (z24_1, z24_2, z24_3) := by
      by_cases h0 : n = 0
      · subst h0
        obtain ⟨F3, g1, g2, g3, g4⟩ := grR2 (N := N) (t := t) (n := 0) (a := tot (gZ G) l') h29' (by omega) s3 (by omega) N 0 (updF (updF F1 0 (upd (F1 0) (tot (gZ G) l') (nI (K + 256 * 0)))) 1 (upd (F1 1) (tot (gZ G) l') num)) (by omega) (by omega)
        refine ⟨F3, fun j h0 h1 => by rw [g1 j h0 h1, updF_n h1, updF_n h0], ?_, ?_, ?_⟩
        · rw [g2, updF_n (by omega), updF_e rfl, updF_n (by omega), updF_n (by omega)]
          rfl
        · rw [g3, updF_e rfl, updF_n (by omega), updF_n (by omega)]
          rfl
        · simp only [Nat.zero_add] at r1 hmk g4 ⊢
          unfold m_Model_gather
          simp (disch := omega) only [q_o, q_0, q_1, q_2, q_3, q_4, q_5, q_6, q_7, q_8, q_9, q_10, q_11, q_12, q_13, q_14, q_15, q_16, q_17, q_18, q_19, q_20, q_21, q_22, q_23, q_24, q_25, q_26, q_27, q_28, q_29, q_30, q_31, q_32, q_33, q_34, q_35, q_36, q_37, q_38, q_39, q_40, q_41, q_42, q_43, q_44, q_45, q_46, q_47, q_48, q_49, q_50, q_51, q_52, q_53, q_63, q_64, q_126, q_128, q_255, q_512, q_1024, q_1026, q_2000, q_2048, q_2049, q_4095, q_4096, q_8192, q_16383, q_65535, q_65536, q_69632, q_131072, q_132000, q_262144, q_300000, q_1000000, q_lt_t, q_lt_f, q_le_t, q_le_f, q_eq_t, q_eq_f, q_cl, q_add, q_mul, q_sub, q_nle_f, q_nle_t, q_nlt_f, q_nlt_t, q_neq_f, eq_self, q_n1, q_n2, q_m1, q_m1', q_m2, q_m21, q_m0, q_ml, upd_e, upd_n, updL_e, updL_n, updF_e, updF_n, let_d, tk_s, bind_s, or_false, false_or, and_true, true_and, if_true, if_false, ite_true, ite_false, reduceIte, not_true, not_false_iff, Nat.zero_add, Nat.add_zero, Nat.sub_zero, y1, r1, hmk, g4]
      · obtain ⟨F3, g1, g2, g3, g4⟩ := grR1 (N := N) (t := t) (n := n) (a := tot (gZ G) l') h29' (by omega) s3 (by omega) N 0 (updF (updF F1 0 (upd (F1 0) (tot (gZ G) l') (nI (K + 256 * n)))) 1 (upd (F1 1) (tot (gZ G) l') num)) (by omega) (by omega)
        refine ⟨F3, fun j h0 h1 => by rw [g1 j h0 h1, updF_n h1, updF_n h0], ?_, ?_, ?_⟩
        · rw [g2, updF_n (by omega), updF_e rfl, updF_n (by omega), updF_n (by omega)]
          rfl
        · rw [g3, updF_e rfl, updF_n (by omega), updF_n (by omega)]
          rfl
        · unfold m_Model_gather
          simp (disch := omega) only [q_o, q_0, q_1, q_2, q_3, q_4, q_5, q_6, q_7, q_8, q_9, q_10, q_11, q_12, q_13, q_14, q_15, q_16, q_17, q_18, q_19, q_20, q_21, q_22, q_23, q_24, q_25, q_26, q_27, q_28, q_29, q_30, q_31, q_32, q_33, q_34, q_35, q_36, q_37, q_38, q_39, q_40, q_41, q_42, q_43, q_44, q_45, q_46, q_47, q_48, q_49, q_50, q_51, q_52, q_53, q_63, q_64, q_126, q_128, q_255, q_512, q_1024, q_1026, q_2000, q_2048, q_2049, q_4095, q_4096, q_8192, q_16383, q_65535, q_65536, q_69632, q_131072, q_132000, q_262144, q_300000, q_1000000, q_lt_t, q_lt_f, q_le_t, q_le_f, q_eq_t, q_eq_f, q_cl, q_add, q_mul, q_sub, q_nle_f, q_nle_t, q_nlt_f, q_nlt_t, q_neq_f, eq_self, q_n1, q_n2, q_m1, q_m1', q_m2, q_m21, q_m0, q_ml, upd_e, upd_n, updL_e, updL_n, updF_e, updF_n, let_d, tk_s, bind_s, or_false, false_or, and_true, true_and, if_true, if_false, ite_true, ite_false, reduceIte, not_true, not_false_iff, Nat.zero_add, Nat.add_zero, Nat.sub_zero, r1, hmk, g4]
    obtain ⟨F3, g1, g2, g3, g4⟩ := hgr
    have hc1 := r2.1
    have hn2 := rR_new (x := obj K num n t gs) (I' := upd I1 3 (nI (tot (gZ G) l' + (n + 1)))) (F' := F3) hr1 ⟨hO, fun i hi hin => by rw [hnp.1] at hin; exact (hv1 (t - n + (i - 1)) (by omega)).1⟩ (by rw [hnp.2]; omega) (fun a ha => by rw [g2, g3, cpI_out (by omega), cpI_out (by omega), upd_n (by omega), upd_n (by omega)]; exact ⟨rfl, rfl⟩)
      (by
        rw [g2, cpI_out (by omega), upd_e rfl]
        unfold thR
        rw [gn_x.1, gn_x.2.1, gn_x.2.2.1, if_neg (show ¬ (obj K num n t gs).1 = 6 by show ¬ K = 6; omega), if_neg (show ¬ (obj K num n t gs).1 = 7 by show ¬ K = 7; omega)]
        rfl)
      (by
        rw [g3, cpI_out (by omega), upd_e rfl]
        unfold chR
        rw [gn_x.1, gn_x.2.1, if_neg (show ¬ ((obj K num n t gs).1 = 6 ∨ (obj K num n t gs).1 = 7) by show ¬ (K = 6 ∨ K = 7); omega)]
        rfl)
      (fun i hi hin => by
        rw [hnp.1] at hin
        rw [g2, g3, cpI_in (by omega), cpI_in (by omega), show t - n + (tot (gZ G) l' + i - (tot (gZ G) l' + 1)) = t - n + (i - 1) by omega]
        exact (hv1 (t - n + (i - 1)) (by omega)).2)
      (fun e => absurd (show K = 6 from e) (by omega)) g1 (by rw [upd_e rfl, hnp.2, Nat.add_comm 1 n]) (fun j hj => upd_n hj)
    obtain ⟨F4, I4, k1, k2, k3, k4⟩ := give_R (N := N) (v := vO nid) (k := n) hn2 (by omega) (by omega) s3 (List.mem_append_right _ (List.mem_singleton.mpr rfl))
    have k1' : m_Model_give N (upd I1 3 (nI (tot (gZ G) l' + (n + 1)))) F3 (nI n) (nI 2) (nI (tot (gZ G) l')) = some (nI 5, F4, I4) := by
      rw [← k1]
      show _ = m_Model_give N _ F3 (nI n) (nI 2) (nI (adr (gZ (gnew G nid (obj K num n t gs))) (l' ++ [nid]) nid))
      rw [adr_nid hc1]
    refine ⟨nI 5, l', I4, F4, ?_, ⟨fun j h3 h8 h29 h50 h51 => by rw [k3 j h29, upd_n h3, r4 j h3 h8 h50 h51], fun j h0 h1 h2 h6 h23 h27 h28 => by rw [k4 j h27 h28, g1 j h0 h1, r5 j h0 h1 h2 h6 h23 h28]⟩, Or.inl ⟨rfl, f1, k2⟩⟩
    rw [g4, k1']
    rfl
  · refine ⟨nI 3, l', I1, F1, ?_, ⟨fun j h3 h8 h29 h50 h51 => r4 j h3 h8 h50 h51, fun j h0 h1 h2 h6 h23 h27 h28 => r5 j h0 h1 h2 h6 h23 h28⟩, Or.inr ⟨rfl, f1, hr1⟩⟩
    unfold m_Model_gather
    by_cases h0 : n = 0
    · subst h0
      simp only [Nat.zero_add] at r1
      simp (disch := omega) only [q_o, q_0, q_1, q_2, q_3, q_4, q_5, q_6, q_7, q_8, q_9, q_10, q_11, q_12, q_13, q_14, q_15, q_16, q_17, q_18, q_19, q_20, q_21, q_22, q_23, q_24, q_25, q_26, q_27, q_28, q_29, q_30, q_31, q_32, q_33, q_34, q_35, q_36, q_37, q_38, q_39, q_40, q_41, q_42, q_43, q_44, q_45, q_46, q_47, q_48, q_49, q_50, q_51, q_52, q_53, q_63, q_64, q_126, q_128, q_255, q_512, q_1024, q_1026, q_2000, q_2048, q_2049, q_4095, q_4096, q_8192, q_16383, q_65535, q_65536, q_69632, q_131072, q_132000, q_262144, q_300000, q_1000000, q_lt_t, q_lt_f, q_le_t, q_le_f, q_eq_t, q_eq_f, q_cl, q_add, q_mul, q_sub, q_nle_f, q_nle_t, q_nlt_f, q_nlt_t, q_neq_f, eq_self, q_n1, q_n2, q_m1, q_m1', q_m2, q_m21, q_m0, q_ml, upd_e, upd_n, updL_e, updL_n, updF_e, updF_n, let_d, tk_s, bind_s, or_false, false_or, and_true, true_and, if_true, if_false, ite_true, ite_false, reduceIte, not_true, not_false_iff, Nat.zero_add, Nat.add_zero, Nat.sub_zero, y1, r1]
    · simp (disch := omega) only [q_o, q_0, q_1, q_2, q_3, q_4, q_5, q_6, q_7, q_8, q_9, q_10, q_11, q_12, q_13, q_14, q_15, q_16, q_17, q_18, q_19, q_20, q_21, q_22, q_23, q_24, q_25, q_26, q_27, q_28, q_29, q_30, q_31, q_32, q_33, q_34, q_35, q_36, q_37, q_38, q_39, q_40, q_41, q_42, q_43, q_44, q_45, q_46, q_47, q_48, q_49, q_50, q_51, q_52, q_53, q_63, q_64, q_126, q_128, q_255, q_512, q_1024, q_1026, q_2000, q_2048, q_2049, q_4095, q_4096, q_8192, q_16383, q_65535, q_65536, q_69632, q_131072, q_132000, q_262144, q_300000, q_1000000, q_lt_t, q_lt_f, q_le_t, q_le_f, q_eq_t, q_eq_f, q_cl, q_add, q_mul, q_sub, q_nle_f, q_nle_t, q_nlt_f, q_nlt_t, q_neq_f, eq_self, q_n1, q_n2, q_m1, q_m1', q_m2, q_m21, q_m0, q_ml, upd_e, upd_n, updL_e, updL_n, updF_e, updF_n, let_d, tk_s, bind_s, or_false, false_or, and_true, true_and, if_true, if_false, ite_true, ite_false, reduceIte, not_true, not_false_iff, Nat.zero_add, Nat.add_zero, Nat.sub_zero, r1]
end WR
