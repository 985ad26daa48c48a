/-! A new string, on both sides -/
section SN
variable {N : Nat}
variable {nk : Nat → Nat} {nm : Nat} {nid : Nat} {G : Nat → GO} {lE : List Nat} {gg : Nat → AV} {t : Nat} {gs : Nat → AV} {fr : Nat} {gc : Nat → AV} {hn : Nat} {gb : Nat → Nat} {gf : Nat → Nat} {gr : Nat → Int32} {hF : Nat → Nat} {hH : Nat → Nat} {hP : Nat → Int32} {hD : Nat → Int32} {lR : List Nat} {P_size : Int32} {P_constants : Int32} {P_closed : Int32} {P_open : Int32} {O_size : Int32} {S_top : Int32} {S_frames : Int32} {S_handlers : Int32} {H_globalsUsed : Int32} {H_used : Int32} {H_spareUsed : Int32} {H_old : Int32} {H_oldLeadsToNew : Int32} {H_limit : Int32} {H_every : Int32} {H_fresh : Int32} {H_made : Int32} {H_madeLimit : Int32} {H_reachedFromGlobals : Int32} {H_reachedInAll : Int32} {H_keptGlobalsUsed : Int32} {H_kept : Int32} {B_names : Int32} {Q_size : Int32} {M_status : Int32} {M_place : Int32} {M_next : Int32} {M_fuel : Int32} {M_ticks : Int32} {M_depth : Int32} {M_depthLimit : Int32} {M_done : Int32} {n_P_words : Nat} {f_P_words : Nat → Int32} {n_P_bytes : Nat} {f_P_bytes : Nat → Int32} {n_P_ends : Nat} {f_P_ends : Nat → Int32} {n_O_bytes : Nat} {f_O_bytes : Nat → Int32} {n_S_values : Nat} {f_S_values : Nat → Int64} {n_S_bases : Nat} {f_S_bases : Nat → Int32} {n_S_floors : Nat} {f_S_floors : Nat → Int32} {n_S_returns : Nat} {f_S_returns : Nat → Int32} {n_S_closures : Nat} {f_S_closures : Nat → Int64} {n_S_handlerFrames : Nat} {f_S_handlerFrames : Nat → Int32} {n_S_handlerPlaces : Nat} {f_S_handlerPlaces : Nat → Int32} {n_S_handlerHeights : Nat} {f_S_handlerHeights : Nat → Int32} {n_S_handlerDepths : Nat} {f_S_handlerDepths : Nat → Int32} {n_H_globals : Nat} {f_H_globals : Nat → Int64} {n_H_cells : Nat} {f_H_cells : Nat → Int64} {n_H_spare : Nat} {f_H_spare : Nat → Int64} {n_Q_links : Nat} {f_Q_links : Nat → Int32} {n_Q_pairs : Nat} {f_Q_pairs : Nat → Int64} {I : Nat → Int32} {F : Nat → Nat → Int32}
def strO (n : Nat) (b : Nat → Nat) : GO := (6, nI 0, n, fun _ => vS (nI 0), b)
theorem str_np {n : Nat} {b : Nat → Nat} : gNp (gnew G nid (strO n b)) nid = 0 ∧ gZ (gnew G nid (strO n b)) nid = 1 + (n + 3) / 4 ∧ gK (gnew G nid (strO n b)) nid = 6 ∧ gC (gnew G nid (strO n b)) nid = n ∧ gB (gnew G nid (strO n b)) nid = b := by
  unfold gNp gZ
  rw [gn_x.1, gn_x.2.2.1, gn_x.2.2.2.2]
  exact ⟨if_pos rfl, if_pos rfl, rfl, rfl, rfl⟩
theorem okO_str {n : Nat} {b : Nat → Nat} (hn : n ≤ 65535) (hb : ∀ i, b i < 256 ∧ (n ≤ i → b i = 0)) : okO nk nm (gnew G nid (strO n b)) nid := by
  unfold okO
  rw [str_np.2.2.1, str_np.2.2.2.1, str_np.2.2.2.2]
  exact Or.inr (Or.inr (Or.inr (Or.inr (Or.inl ⟨rfl, hn, hb⟩))))
theorem eR_str {n : Nat} {b : Nat → Nat} {c : Nat → Int64} (he : eR nk nm nid G lE gg t gs fr gc hn gb gf gr hF hH hP hD S_top S_frames S_handlers n_S_values f_S_values n_S_bases f_S_bases n_S_floors f_S_floors n_S_returns f_S_returns n_S_closures f_S_closures n_S_handlerFrames f_S_handlerFrames n_S_handlerPlaces f_S_handlerPlaces n_S_handlerHeights f_S_handlerHeights n_S_handlerDepths f_S_handlerDepths H_globalsUsed H_used H_old H_oldLeadsToNew f_H_globals n_H_cells f_H_cells n_H_spare) (h : sbE f_H_cells c (tot (gZ G) lE) n b) (hn6 : n ≤ 65535) (hroom : tot (gZ G) lE + (1 + (n + 3) / 4) ≤ n_H_cells) : eR nk nm (nid + 1) (gnew G nid (strO n b)) (lE ++ [nid]) gg t gs fr gc hn gb gf gr hF hH hP hD S_top S_frames S_handlers n_S_values f_S_values n_S_bases f_S_bases n_S_floors f_S_floors n_S_returns f_S_returns n_S_closures f_S_closures n_S_handlerFrames f_S_handlerFrames n_S_handlerPlaces f_S_handlerPlaces n_S_handlerHeights f_S_handlerHeights n_S_handlerDepths f_S_handlerDepths H_globalsUsed (nI (tot (gZ G) lE + (1 + (n + 3) / 4))) H_old H_oldLeadsToNew f_H_globals n_H_cells c n_H_spare ∧ wE (gnew G nid (strO n b)) (lE ++ [nid]) (vO nid) = obW 6 (tot (gZ G) lE) := by
  obtain ⟨h1, h2, h3, h4⟩ := h
  have hGl := he.2.2.2.2.1.1
  have hnp := str_np (G := G) (nid := nid) (n := n) (b := b)
  have hhE : hE (gnew G nid (strO n b)) nid = lN (n * 8 + 6) := by
    unfold hE
    rw [hnp.2.2.1, hnp.2.2.2.1, if_pos rfl]
  have h := eR_new (x := strO n b) (c' := c) he ⟨okO_str hn6 h4, fun i hi hin => by rw [hnp.1] at hin; omega⟩ (by rw [hnp.2.1]; exact hroom) h1 (by rw [h2, hhE]) (fun j hj hjn => by rw [hnp.1] at hjn; omega) (fun _ => h3)
  rw [hnp.2.1] at h
  refine ⟨h, ?_⟩
  show obW (gK _ _) (adr _ _ _) = _
  rw [adr_nid hGl, hnp.2.2.1]
theorem rR_str {n : Nat} {b : Nat → Nat} {F' : Nat → Nat → Int32} (hr : rR nk nm nid G lR gg t gs fr gc hn gb gf gr hF hH hP hD I F) (h : sbR F F' (tot (gZ G) lR) n b) (hn6 : n ≤ 65535) (hroom : tot (gZ G) lR + (1 + (n + 3) / 4) ≤ 131072) : rR nk nm (nid + 1) (gnew G nid (strO n b)) (lR ++ [nid]) gg t gs fr gc hn gb gf gr hF hH hP hD (upd I 3 (nI (tot (gZ G) lR + (1 + (n + 3) / 4)))) F' ∧ vR (gnew G nid (strO n b)) (lR ++ [nid]) (vO nid) = nI (tot (gZ G) lR) := by
  obtain ⟨h1, h2, h3, h4, h5, h6⟩ := h
  have hGl := hr.2.2.1
  have hnp := str_np (G := G) (nid := nid) (n := n) (b := b)
  refine ⟨rR_new (x := strO n b) (I' := upd I 3 (nI (tot (gZ G) lR + (1 + (n + 3) / 4)))) (F' := F') hr ⟨okO_str hn6 h5, fun i hi hin => by rw [hnp.1] at hin; omega⟩ (by rw [hnp.2.1]; exact hroom) h1 ?_ ?_ (fun j hj hjn => by rw [hnp.1] at hjn; omega) (fun _ => h4) h6 (by rw [upd_e rfl, hnp.2.1]) (fun j hj => upd_n hj), ?_⟩
  · unfold thR
    rw [hnp.2.2.1, if_pos rfl, h2]
  · unfold chR
    rw [hnp.2.2.1, if_pos (Or.inl rfl), h3, hnp.2.2.2.1]
  · show nI (adr _ _ _) = _
    rw [adr_nid hGl]
/-- bytes 0 -/
theorem w4_0 (j : Nat) : w4 (fun _ => 0) j = 0 ∧ w4R (fun _ => 0) j = 0 := by
  unfold w4 w4R
  dsimp only
  omega
def zrV (c : Nat → Int64) (d e : Nat) : Nat → Int64 := fun j => if d ≤ j ∧ j < e then lN 0 else c j
theorem fill1 {ζ : Type} {nC e : Nat} {k : Int32 → (Nat → Int64) → Option ζ} (h1 : e ≤ nC) (h2 : nC ≤ 131072) :
    ∀ (m i : Nat) (c : Nat → Int64), i ≤ e → e - i < m → lm_Arrays_fill_1 N nC (nI e) (lN 0) k m (nI i) c = k (nI e) (zrV c i e)
  | 0, i, c, _, h => absurd h (Nat.not_lt_zero _)
  | m + 1, i, c, hi, h => by
    rw [lm_Arrays_fill_1]
    by_cases q : i = e
    · have e2 : zrV c i e = c := by
        funext j
        exact if_neg (by omega)
      rw [e2]
      simp (disch := omega) only [q_o, q_0, q_1, q_2, q_3, q_4, q_5, q_6, q_7, q_8, q_9, q_10, q_11, q_12, q_13, q_14, q_15, q_16, q_17, q_18, q_19, q_20, q_21, q_22, q_23, q_24, q_25, q_26, q_27, q_28, q_29, q_30, q_31, q_32, q_33, q_34, q_35, q_36, q_37, q_38, q_39, q_40, q_41, q_42, q_43, q_44, q_45, q_46, q_47, q_48, q_49, q_50, q_51, q_52, q_53, q_63, q_64, q_126, q_128, q_255, q_512, q_1024, q_1026, q_2000, q_2048, q_2049, q_4095, q_4096, q_8192, q_16383, q_65535, q_65536, q_69632, q_131072, q_132000, q_262144, q_300000, q_1000000, q_lt_t, q_lt_f, q_le_t, q_le_f, q_eq_t, q_eq_f, q_cl, q_add, q_mul, q_sub, q_nle_f, q_nle_t, q_nlt_f, q_nlt_t, q_neq_f, eq_self, q_n1, q_n2, q_m1, q_m1', q_m2, q_m21, q_m0, q_ml, upd_e, upd_n, updL_e, updL_n, updF_e, updF_n, let_d, tk_s, bind_s, or_false, false_or, and_true, true_and, if_true, if_false, ite_true, ite_false, reduceIte, not_true, not_false_iff, Nat.zero_add, Nat.add_zero, Nat.sub_zero]
      rw [q]
    · have ih := fill1 (k := k) (e := e) h1 h2 m (i + 1) (vp_updL c i (lN 0)) (by omega) (by omega)
      have e2 : zrV (vp_updL c i (lN 0)) (i + 1) e = zrV c i e := by
        funext j
        unfold zrV
        by_cases hj : i + 1 ≤ j ∧ j < e
        · rw [if_pos hj, if_pos (by omega)]
        · rw [if_neg hj]
          by_cases hji : j = i
          · rw [updL_e hji, if_pos (by omega)]
          · rw [updL_n hji, if_neg (by omega)]
      rw [e2] at ih
      simp (disch := omega) only [q_o, q_0, q_1, q_2, q_3, q_4, q_5, q_6, q_7, q_8, q_9, q_10, q_11, q_12, q_13, q_14, q_15, q_16, q_17, q_18, q_19, q_20, q_21, q_22, q_23, q_24, q_25, q_26, q_27, q_28, q_29, q_30, q_31, q_32, q_33, q_34, q_35, q_36, q_37, q_38, q_39, q_40, q_41, q_42, q_43, q_44, q_45, q_46, q_47, q_48, q_49, q_50, q_51, q_52, q_53, q_63, q_64, q_126, q_128, q_255, q_512, q_1024, q_1026, q_2000, q_2048, q_2049, q_4095, q_4096, q_8192, q_16383, q_65535, q_65536, q_69632, q_131072, q_132000, q_262144, q_300000, q_1000000, q_lt_t, q_lt_f, q_le_t, q_le_f, q_eq_t, q_eq_f, q_cl, q_add, q_mul, q_sub, q_nle_f, q_nle_t, q_nlt_f, q_nlt_t, q_neq_f, eq_self, q_n1, q_n2, q_m1, q_m1', q_m2, q_m21, q_m0, q_ml, upd_e, upd_n, updL_e, updL_n, updF_e, updF_n, let_d, tk_s, bind_s, or_false, false_or, and_true, true_and, if_true, if_false, ite_true, ite_false, reduceIte, not_true, not_false_iff, Nat.zero_add, Nat.add_zero, Nat.sub_zero, ih]
theorem fill_E {nC i e : Nat} {c : Nat → Int64} (hN : 200000 ≤ N) (h0 : i ≤ e) (h1 : e ≤ nC) (h2 : nC ≤ 131072) : m_Arrays_fill N nC c (nI i) (nI e) 0 = some (zrV c i e) := by
  unfold m_Arrays_fill
  have hf := fill1 (N := N) (k := fun (v1_5 : Int32) (w1_f_qf0 : (Nat → Int64)) => some w1_f_qf0) h1 h2 N i c h0 (by omega)
  have hr : m_Arrays_rangeCheck N (nI nC) (nI i) (nI e) = some () := by
    unfold m_Arrays_rangeCheck
    simp (disch := omega) only [q_o, q_0, q_1, q_2, q_3, q_4, q_5, q_6, q_7, q_8, q_9, q_10, q_11, q_12, q_13, q_14, q_15, q_16, q_17, q_18, q_19, q_20, q_21, q_22, q_23, q_24, q_25, q_26, q_27, q_28, q_29, q_30, q_31, q_32, q_33, q_34, q_35, q_36, q_37, q_38, q_39, q_40, q_41, q_42, q_43, q_44, q_45, q_46, q_47, q_48, q_49, q_50, q_51, q_52, q_53, q_63, q_64, q_126, q_128, q_255, q_512, q_1024, q_1026, q_2000, q_2048, q_2049, q_4095, q_4096, q_8192, q_16383, q_65535, q_65536, q_69632, q_131072, q_132000, q_262144, q_300000, q_1000000, q_lt_t, q_lt_f, q_le_t, q_le_f, q_eq_t, q_eq_f, q_cl, q_add, q_mul, q_sub, q_nle_f, q_nle_t, q_nlt_f, q_nlt_t, q_neq_f, eq_self, q_n1, q_n2, q_m1, q_m1', q_m2, q_m21, q_m0, q_ml, upd_e, upd_n, updL_e, updL_n, updF_e, updF_n, let_d, tk_s, bind_s, or_false, false_or, and_true, true_and, if_true, if_false, ite_true, ite_false, reduceIte, not_true, not_false_iff, Nat.zero_add, Nat.add_zero, Nat.sub_zero]
  rw [show (0 : Int64) = lN 0 from rfl, q_o, hr, bind_s, hf]
theorem layString_E {nC u n : Nat} {c : Nat → Int64} (hN : 200000 ≤ N) (hu : u + (1 + (n + 3) / 4) ≤ nC) (h2 : nC ≤ 131072) (hn : n ≤ 65535) : ∃ c', (∀ (H_globalsUsed : Int32) (H_spareUsed : Int32) (H_old : Int32) (H_oldLeadsToNew : Int32) (H_limit : Int32) (H_every : Int32) (H_fresh : Int32) (H_made : Int32) (H_madeLimit : Int32) (H_reachedFromGlobals : Int32) (H_reachedInAll : Int32) (H_keptGlobalsUsed : Int32) (H_kept : Int32), m_Heap_layString N H_globalsUsed (nI u) H_spareUsed H_old H_oldLeadsToNew H_limit H_every H_fresh H_made H_madeLimit H_reachedFromGlobals H_reachedInAll H_keptGlobalsUsed H_kept nC c (nI n) = some (nI u, c', H_fresh + nI (1 + (n + 3) / 4), nI (u + (1 + (n + 3) / 4)))) ∧ sbE c c' u n (fun _ => 0) := by
  refine ⟨zrV (vp_updL c u (hdW 6 (nI n) 0)) (u + 1) (u + (1 + (n + 3) / 4)), ?_, fun a ha => ?_, ?_, fun j hj => ?_, fun i => ⟨by dsimp only; omega, fun _ => rfl⟩⟩
  · intros
    unfold m_Heap_layString m_Value_cellsOfString m_Heap_lay
    have hf := fill_E (N := N) (nC := nC) (i := u + 1) (e := u + (1 + (n + 3) / 4)) (c := vp_updL c u (hdW 6 (nI n) 0)) hN (by omega) hu h2
    simp (disch := omega) only [q_o, q_0, q_1, q_2, q_3, q_4, q_5, q_6, q_7, q_8, q_9, q_10, q_11, q_12, q_13, q_14, q_15, q_16, q_17, q_18, q_19, q_20, q_21, q_22, q_23, q_24, q_25, q_26, q_27, q_28, q_29, q_30, q_31, q_32, q_33, q_34, q_35, q_36, q_37, q_38, q_39, q_40, q_41, q_42, q_43, q_44, q_45, q_46, q_47, q_48, q_49, q_50, q_51, q_52, q_53, q_63, q_64, q_126, q_128, q_255, q_512, q_1024, q_1026, q_2000, q_2048, q_2049, q_4095, q_4096, q_8192, q_16383, q_65535, q_65536, q_69632, q_131072, q_132000, q_262144, q_300000, q_1000000, q_lt_t, q_lt_f, q_le_t, q_le_f, q_eq_t, q_eq_f, q_cl, q_add, q_mul, q_sub, q_nle_f, q_nle_t, q_nlt_f, q_nlt_t, q_neq_f, eq_self, q_n1, q_n2, q_m1, q_m1', q_m2, q_m21, q_m0, q_ml, upd_e, upd_n, updL_e, updL_n, updF_e, updF_n, let_d, tk_s, bind_s, or_false, false_or, and_true, true_and, if_true, if_false, ite_true, ite_false, reduceIte, not_true, not_false_iff, Nat.zero_add, Nat.add_zero, Nat.sub_zero, q_dv, hd_E, hf]
  · unfold zrV
    rw [if_neg (by omega), updL_n (by omega)]
  · unfold zrV
    rw [if_neg (by omega), updL_e rfl, f_hs (by omega)]
  · unfold zrV
    rw [if_pos (by omega), (w4_0 j).1]
theorem string1 {ζ : Type} {u e n : Nat} {k : Int32 → (Nat → Nat → Int32) → Option ζ} (h2 : u + 1 + e ≤ 131072) (hn : n ≤ 65535) (he : (n + 3) / 4 = e) :
    ∀ (m i : Nat) (F : Nat → Nat → Int32), 1 ≤ i → i ≤ e + 1 → e + 1 - i < m → ∃ F', lm_Model_string_1 N (nI n) (nI u) k m (nI i) F = k (nI (e + 1)) F' ∧ (∀ j, j ≠ 0 → j ≠ 1 → F' j = F j) ∧ (∀ a, a ≤ u → F' 0 a = F 0 a ∧ F' 1 a = F 1 a) ∧ (∀ j, i ≤ j → j ≤ e → F' 1 (u + j) = nI 0) ∧ (∀ j, j < i → F' 1 (u + j) = F 1 (u + j))
  | 0, i, F, _, _, h => absurd h (Nat.not_lt_zero _)
  | m + 1, i, F, h1, hi, h => by
    rw [lm_Model_string_1]
    by_cases q : i = e + 1
    · refine ⟨F, ?_, fun _ _ _ => rfl, fun _ _ => ⟨rfl, rfl⟩, fun j h1 h2 => by omega, fun _ _ => rfl⟩
      simp (disch := omega) only [q_o, q_0, q_1, q_2, q_3, q_4, q_5, q_6, q_7, q_8, q_9, q_10, q_11, q_12, q_13, q_14, q_15, q_16, q_17, q_18, q_19, q_20, q_21, q_22, q_23, q_24, q_25, q_26, q_27, q_28, q_29, q_30, q_31, q_32, q_33, q_34, q_35, q_36, q_37, q_38, q_39, q_40, q_41, q_42, q_43, q_44, q_45, q_46, q_47, q_48, q_49, q_50, q_51, q_52, q_53, q_63, q_64, q_126, q_128, q_255, q_512, q_1024, q_1026, q_2000, q_2048, q_2049, q_4095, q_4096, q_8192, q_16383, q_65535, q_65536, q_69632, q_131072, q_132000, q_262144, q_300000, q_1000000, q_lt_t, q_lt_f, q_le_t, q_le_f, q_eq_t, q_eq_f, q_cl, q_add, q_mul, q_sub, q_nle_f, q_nle_t, q_nlt_f, q_nlt_t, q_neq_f, eq_self, q_n1, q_n2, q_m1, q_m1', q_m2, q_m21, q_m0, q_ml, upd_e, upd_n, updL_e, updL_n, updF_e, updF_n, let_d, tk_s, bind_s, or_false, false_or, and_true, true_and, if_true, if_false, ite_true, ite_false, reduceIte, not_true, not_false_iff, Nat.zero_add, Nat.add_zero, Nat.sub_zero, q_dv, he]
      rw [q]
    · obtain ⟨F', a1, a2, a3, a4, a5⟩ := string1 (k := k) h2 hn he m (i + 1) (updF (updF F 0 (upd (F 0) (u + i) (nI 0))) 1 (upd (F 1) (u + i) (nI 0))) (by omega) (by omega) (by omega)
      refine ⟨F', ?_, fun j h0 h1 => ?_, fun a ha => ?_, fun j h1 h2 => ?_, fun j hj => ?_⟩
      · simp (disch := omega) only [q_o, q_0, q_1, q_2, q_3, q_4, q_5, q_6, q_7, q_8, q_9, q_10, q_11, q_12, q_13, q_14, q_15, q_16, q_17, q_18, q_19, q_20, q_21, q_22, q_23, q_24, q_25, q_26, q_27, q_28, q_29, q_30, q_31, q_32, q_33, q_34, q_35, q_36, q_37, q_38, q_39, q_40, q_41, q_42, q_43, q_44, q_45, q_46, q_47, q_48, q_49, q_50, q_51, q_52, q_53, q_63, q_64, q_126, q_128, q_255, q_512, q_1024, q_1026, q_2000, q_2048, q_2049, q_4095, q_4096, q_8192, q_16383, q_65535, q_65536, q_69632, q_131072, q_132000, q_262144, q_300000, q_1000000, q_lt_t, q_lt_f, q_le_t, q_le_f, q_eq_t, q_eq_f, q_cl, q_add, q_mul, q_sub, q_nle_f, q_nle_t, q_nlt_f, q_nlt_t, q_neq_f, eq_self, q_n1, q_n2, q_m1, q_m1', q_m2, q_m21, q_m0, q_ml, upd_e, upd_n, updL_e, updL_n, updF_e, updF_n, let_d, tk_s, bind_s, or_false, false_or, and_true, true_and, if_true, if_false, ite_true, ite_false, reduceIte, not_true, not_false_iff, Nat.zero_add, Nat.add_zero, Nat.sub_zero, q_dv, he, a1]
      · rw [a2 j h0 h1, updF_n h1, updF_n h0]
      · rw [(a3 a ha).1, (a3 a ha).2, updF_n (by omega), updF_e rfl, updF_e rfl, upd_n (by omega), upd_n (by omega)]
        exact ⟨rfl, rfl⟩
      · by_cases e : j = i
        · rw [a5 j (by omega), updF_e rfl, upd_e (by omega)]
        · exact a4 j (by omega) h2
      · rw [a5 j (by omega), updF_e rfl, upd_n (by omega)]
theorem string_R {u n : Nat} (hN : 200000 ≤ N) (h3 : I 3 = nI u) (hu : u + (1 + (n + 3) / 4) ≤ 131072) (hn : n ≤ 65535) : ∃ F', m_Model_string N I F (nI n) = some (nI u, F', upd I 3 (nI (u + (1 + (n + 3) / 4)))) ∧ sbR F F' u n (fun _ => 0) := by
  have hm := make_R (N := N) (I := I) (F := F) (K := 6) (n := 0) (a := u) (sz := 1 + (n + 3) / 4) (num := nI n) h3 (by omega) (by omega) (by omega)
  obtain ⟨F', a1, a2, a3, a4, a5⟩ := string1 (N := N) (u := u) (e := (n + 3) / 4) (n := n) (k := fun (v1_3 : Int32) (w1_F : (Nat → Nat → Int32)) => some (nI u, w1_F, upd I 3 (nI (u + (1 + (n + 3) / 4))))) (by omega) hn rfl N 1 (updF (updF F 0 (upd (F 0) u (nI (6 + 256 * 0)))) 1 (upd (F 1) u (nI n))) (by omega) (by omega) (by omega)
  refine ⟨F', ?_, fun a ha => ?_, ?_, ?_, fun j hj => ?_, fun i => ⟨by dsimp only; omega, fun _ => rfl⟩, fun j h0 h1 => ?_⟩
  · unfold m_Model_string
    simp (disch := omega) only [q_o, q_0, q_1, q_2, q_3, q_4, q_5, q_6, q_7, q_8, q_9, q_10, q_11, q_12, q_13, q_14, q_15, q_16, q_17, q_18, q_19, q_20, q_21, q_22, q_23, q_24, q_25, q_26, q_27, q_28, q_29, q_30, q_31, q_32, q_33, q_34, q_35, q_36, q_37, q_38, q_39, q_40, q_41, q_42, q_43, q_44, q_45, q_46, q_47, q_48, q_49, q_50, q_51, q_52, q_53, q_63, q_64, q_126, q_128, q_255, q_512, q_1024, q_1026, q_2000, q_2048, q_2049, q_4095, q_4096, q_8192, q_16383, q_65535, q_65536, q_69632, q_131072, q_132000, q_262144, q_300000, q_1000000, q_lt_t, q_lt_f, q_le_t, q_le_f, q_eq_t, q_eq_f, q_cl, q_add, q_mul, q_sub, q_nle_f, q_nle_t, q_nlt_f, q_nlt_t, q_neq_f, eq_self, q_n1, q_n2, q_m1, q_m1', q_m2, q_m21, q_m0, q_ml, upd_e, upd_n, updL_e, updL_n, updF_e, updF_n, let_d, tk_s, bind_s, or_false, false_or, and_true, true_and, if_true, if_false, ite_true, ite_false, reduceIte, not_true, not_false_iff, Nat.zero_add, Nat.add_zero, Nat.sub_zero, q_dv, hm, a1]
  · rw [(a3 a (by omega)).1, (a3 a (by omega)).2, updF_n (by omega), updF_e rfl, updF_e rfl, upd_n (by omega), upd_n (by omega)]
    exact ⟨rfl, rfl⟩
  · rw [(a3 u (by omega)).1, updF_n (by omega), updF_e rfl, upd_e rfl]
  · rw [(a3 u (by omega)).2, updF_e rfl, upd_e rfl]
  · rw [Nat.add_assoc, a4 (1 + j) (by omega) (by omega), (w4_0 j).2]
  · rw [a2 j h0 h1, updF_n h1, updF_n h0]
/-- the first i of the bytes -/
def cutB (B : Nat → Nat) (i : Nat) : Nat → Nat := fun j => if j < i then B j else 0
theorem cut_0 (B : Nat → Nat) : cutB B 0 = fun _ => 0 := by
  funext j
  exact if_neg (by omega)
theorem cut_i (B : Nat → Nat) (i : Nat) : cutB B i i = 0 := if_neg (by omega)
theorem cut_s (B : Nat → Nat) (i : Nat) : upN (cutB B i) i (B i) = cutB B (i + 1) := by
  funext j
  unfold cutB
  by_cases e : j = i
  · rw [upN_e e, if_pos (by omega), e]
  · rw [upN_n e]
    by_cases h : j < i
    · rw [if_pos h, if_pos (by omega)]
    · rw [if_neg h, if_neg (by omega)]
/-- reading a string while another is in the making -/
theorem rd_E {o n k : Nat} {b : Nat → Nat} {c : Nat → Int64} (he : eR nk nm nid G lE gg t gs fr gc hn gb gf gr hF hH hP hD S_top S_frames S_handlers n_S_values f_S_values n_S_bases f_S_bases n_S_floors f_S_floors n_S_returns f_S_returns n_S_closures f_S_closures n_S_handlerFrames f_S_handlerFrames n_S_handlerPlaces f_S_handlerPlaces n_S_handlerHeights f_S_handlerHeights n_S_handlerDepths f_S_handlerDepths H_globalsUsed H_used H_old H_oldLeadsToNew f_H_globals n_H_cells f_H_cells n_H_spare) (ho : o ∈ lE) (hK : gK G o = 6) (h : sbE f_H_cells c (tot (gZ G) lE) n b) (hk : k < gC G o) : ∀ (H_globalsUsed : Int32) (H_used : Int32) (H_spareUsed : Int32) (H_old : Int32) (H_oldLeadsToNew : Int32) (H_limit : Int32) (H_every : Int32) (H_fresh : Int32) (H_made : Int32) (H_madeLimit : Int32) (H_reachedFromGlobals : Int32) (H_reachedInAll : Int32) (H_keptGlobalsUsed : Int32) (H_kept : Int32), m_Heap_byteAt N H_globalsUsed H_used H_spareUsed H_old H_oldLeadsToNew H_limit H_every H_fresh H_made H_madeLimit H_reachedFromGlobals H_reachedInAll H_keptGlobalsUsed H_kept n_H_cells c (nI (adr (gZ G) lE o)) (nI k) = some (nI (gB G o k)) := by
  obtain ⟨hG, ht, hC, hh, hn⟩ := eR_hp he
  have hO := (hG.2 o ho).2.1
  have hend := adr_end (Z := gZ G) ho
  have hz : gZ G o = 1 + (gC G o + 3) / 4 := by unfold gZ; rw [if_pos hK]
  have hO6 : gC G o ≤ 65535 ∧ ∀ i, gB G o i < 256 := by
    unfold okO at hO
    rcases hO with h | h | h | h | h | h
    · omega
    · omega
    · omega
    · omega
    · exact ⟨h.2.1, fun i => (h.2.2 i).1⟩
    · omega
  exact byteAt_w hO6.2 (by omega) (by omega) hC (by rw [h.1 _ (by omega)]; exact (hh o ho).2.2 hK _ (by omega))
theorem rd_R {o n k : Nat} {b : Nat → Nat} {F' : Nat → Nat → Int32} {J : Nat → Int32} (hr : rR nk nm nid G lR gg t gs fr gc hn gb gf gr hF hH hP hD I F) (ho : o ∈ lR) (hK : gK G o = 6) (h : sbR F F' (tot (gZ G) lR) n b) (hk : k < gC G o) : m_Model_byteAt N J F' (nI (adr (gZ G) lR o)) (nI k) = some (nI (gB G o k)) := by
  obtain ⟨c1, c2, c3, c4, c5, c6⟩ := hr.2.2
  have hO := (c1.2 o ho).2.1
  have hend := adr_end (Z := gZ G) ho
  have hz : gZ G o = 1 + (gC G o + 3) / 4 := by unfold gZ; rw [if_pos hK]
  have hO6 : gC G o ≤ 65535 ∧ ∀ i, gB G o i < 256 := by
    unfold okO at hO
    rcases hO with h | h | h | h | h | h
    · omega
    · omega
    · omega
    · omega
    · exact ⟨h.2.1, fun i => (h.2.2 i).1⟩
    · omega
  exact byteAt_r hO6.2 (by omega) (by omega) (by rw [(h.1 _ (by omega)).2]; exact (c5 o ho).2.2.2 hK _ (by omega))
theorem str_ok {o : Nat} (hO : okO nk nm G o) (hK : gK G o = 6) : gC G o ≤ 65535 ∧ (∀ i, gB G o i < 256) ∧ ∀ i, gC G o ≤ i → gB G o i = 0 := by
  unfold okO at hO
  rcases hO with h | h | h | h | h | h
  · omega
  · omega
  · omega
  · omega
  · exact ⟨h.2.1, fun i => (h.2.2 i).1, fun i => (h.2.2 i).2⟩
  · omega
end SN
