/-! Instruction 2: a constant's string -/
section TX
variable {N : Nat}
variable {nk : Nat → Nat} {nm : Nat} {nid : Nat} {G : Nat → GO} {lE : List Nat} {gg : Nat → AV} {t : Nat} {gs : Nat → AV} {fr : Nat} {gc : Nat → AV} {hn : Nat} {gb : Nat → Nat} {gf : Nat → Nat} {gr : Nat → Int32} {hF : Nat → Nat} {hH : Nat → Nat} {hP : Nat → Int32} {hD : Nat → Int32} {lR : List Nat} {P_size : Int32} {P_constants : Int32} {P_closed : Int32} {P_open : Int32} {O_size : Int32} {S_top : Int32} {S_frames : Int32} {S_handlers : Int32} {H_globalsUsed : Int32} {H_used : Int32} {H_spareUsed : Int32} {H_old : Int32} {H_oldLeadsToNew : Int32} {H_limit : Int32} {H_every : Int32} {H_fresh : Int32} {H_made : Int32} {H_madeLimit : Int32} {H_reachedFromGlobals : Int32} {H_reachedInAll : Int32} {H_keptGlobalsUsed : Int32} {H_kept : Int32} {B_names : Int32} {Q_size : Int32} {M_status : Int32} {M_place : Int32} {M_next : Int32} {M_fuel : Int32} {M_ticks : Int32} {M_depth : Int32} {M_depthLimit : Int32} {M_done : Int32} {n_P_words : Nat} {f_P_words : Nat → Int32} {n_P_bytes : Nat} {f_P_bytes : Nat → Int32} {n_P_ends : Nat} {f_P_ends : Nat → Int32} {n_O_bytes : Nat} {f_O_bytes : Nat → Int32} {n_S_values : Nat} {f_S_values : Nat → Int64} {n_S_bases : Nat} {f_S_bases : Nat → Int32} {n_S_floors : Nat} {f_S_floors : Nat → Int32} {n_S_returns : Nat} {f_S_returns : Nat → Int32} {n_S_closures : Nat} {f_S_closures : Nat → Int64} {n_S_handlerFrames : Nat} {f_S_handlerFrames : Nat → Int32} {n_S_handlerPlaces : Nat} {f_S_handlerPlaces : Nat → Int32} {n_S_handlerHeights : Nat} {f_S_handlerHeights : Nat → Int32} {n_S_handlerDepths : Nat} {f_S_handlerDepths : Nat → Int32} {n_H_globals : Nat} {f_H_globals : Nat → Int64} {n_H_cells : Nat} {f_H_cells : Nat → Int64} {n_H_spare : Nat} {f_H_spare : Nat → Int64} {n_Q_links : Nat} {f_Q_links : Nat → Int32} {n_Q_pairs : Nat} {f_Q_pairs : Nat → Int64} {I : Nat → Int32} {F : Nat → Nat → Int32}
/-- code and constants -/
def pgR (sz kc pd : Nat) (te : Nat → Nat) (P_size P_constants P_closed P_open : Int32) (n_P_words : Nat) (f_P_words : Nat → Int32) (n_P_bytes : Nat) (f_P_bytes : Nat → Int32) (n_P_ends : Nat) (f_P_ends : Nat → Int32) (I : Nat → Int32) (F : Nat → Nat → Int32) : Prop :=
  (P_size = nI sz ∧ I 15 = nI sz ∧ sz ≤ 262144 ∧ sz ≤ n_P_words ∧ 128 ≤ n_P_words ∧ n_P_words ≤ 262144 ∧ ∀ j, j < sz → f_P_words j = F 14 j) ∧
  (P_constants = nI kc ∧ I 18 = nI kc ∧ kc ≤ 1024 ∧ kc ≤ n_P_ends ∧ 16 ≤ n_P_ends ∧ n_P_ends ≤ 1024 ∧ (∀ j, j ≤ kc → F 17 j = nI (te j)) ∧ (∀ j, j < kc → f_P_ends j = nI (te (j + 1)))) ∧
  (P_closed = nI (te kc) ∧ P_open = nI pd ∧ I 19 = nI pd ∧ pd ≤ 4096 ∧ te 0 = 0 ∧ (∀ j, j < kc → te j ≤ te (j + 1) ∧ te (j + 1) ≤ te j + 4096 ∧ te (j + 1) ≤ te kc) ∧ te kc ≤ 65536 ∧ te kc + pd ≤ n_P_bytes ∧ 64 ≤ n_P_bytes ∧ n_P_bytes ≤ 69632 ∧ (∀ j, j < te kc + pd → f_P_bytes j = F 16 j))
theorem like1 {H_globalsUsed H_limit H_every H_madeLimit H_keptGlobalsUsed H_kept m6 m7 m8 m9 m10 m11 r3 r4 : Int32} {nC u n ki b0 : Nat} {c0 : Nat → Int64} {B : Nat → Nat} (hki : ki < 1024) (he : f_P_ends ki = nI (b0 + n)) (hn : n ≤ 65535) (hb0 : b0 + n ≤ 65536) (hu : u + 1 + (n + 3) / 4 ≤ nC) (hC : nC ≤ 131072) (hB : ∀ i, i < n → b0 + i < n_P_bytes ∧ byI (f_P_bytes (b0 + i)) = B i) :
    ∀ (m i : Nat) (c : Nat → Int64), i ≤ n → n - i < m → sbE c0 c u n (cutB B i) → ∃ c', (∀ (α : Type) (k : Int32 → (Nat → Int64) → Option (α × Nat × Nat)), lm_Objects_likeConstant_1 N H_globalsUsed H_limit H_every H_madeLimit H_keptGlobalsUsed H_kept n_P_bytes f_P_bytes f_P_ends (nI ki) (nI b0) m6 m7 m8 m9 m10 m11 nC (nI u) r3 r4 k m (nI i) c = k (nI n) c') ∧ sbE c0 c' u n (cutB B n)
  | 0, i, c, _, h, _ => absurd h (Nat.not_lt_zero _)
  | m + 1, i, c, hi, h, hs => by
    have e1 : b0 + n - b0 = n := by omega
    by_cases q : i = n
    · subst q
      refine ⟨c, fun α k => ?_, hs⟩
      rw [lm_Objects_likeConstant_1]
      simp (disch := omega) only [q_o, q_0, q_1, q_2, q_3, q_4, q_5, q_6, q_7, q_8, q_9, q_10, q_11, q_12, q_13, q_14, q_15, q_16, q_17, q_18, q_19, q_20, q_21, q_22, q_23, q_24, q_25, q_26, q_27, q_28, q_29, q_30, q_31, q_32, q_33, q_34, q_35, q_36, q_37, q_38, q_39, q_40, q_41, q_42, q_43, q_44, q_45, q_46, q_47, q_48, q_49, q_50, q_51, q_52, q_53, q_63, q_64, q_126, q_128, q_255, q_512, q_1024, q_1026, q_2000, q_2048, q_2049, q_4095, q_4096, q_8192, q_16383, q_65535, q_65536, q_69632, q_131072, q_132000, q_262144, q_300000, q_1000000, q_lt_t, q_lt_f, q_le_t, q_le_f, q_eq_t, q_eq_f, q_cl, q_add, q_mul, q_sub, q_nle_f, q_nle_t, q_nlt_f, q_nlt_t, q_neq_f, eq_self, q_n1, q_n2, q_m1, q_m1', q_m2, q_m21, q_m0, q_ml, upd_e, upd_n, updL_e, updL_n, updF_e, updF_n, let_d, tk_s, bind_s, or_false, false_or, and_true, true_and, if_true, if_false, ite_true, ite_false, reduceIte, not_true, not_false_iff, Nat.zero_add, Nat.add_zero, Nat.sub_zero, he, e1]
    · obtain ⟨g1, g2⟩ := hB i (by omega)
      obtain ⟨c1, a1, a2⟩ := setB_E (N := N) (x := f_P_bytes (b0 + i)) hs (by omega) hn hu hC (cut_i B i)
      rw [g2, cut_s] at a2
      obtain ⟨c', d1, d2⟩ := like1 (H_globalsUsed := H_globalsUsed) (H_limit := H_limit) (H_every := H_every) (H_madeLimit := H_madeLimit) (H_keptGlobalsUsed := H_keptGlobalsUsed) (H_kept := H_kept) (m6 := m6) (m7 := m7) (m8 := m8) (m9 := m9) (m10 := m10) (m11 := m11) (r3 := r3) (r4 := r4) hki he hn hb0 hu hC hB m (i + 1) c1 (by omega) (by omega) a2
      refine ⟨c', fun α k => ?_, d2⟩
      rw [lm_Objects_likeConstant_1]
      simp (disch := omega) only [q_o, q_0, q_1, q_2, q_3, q_4, q_5, q_6, q_7, q_8, q_9, q_10, q_11, q_12, q_13, q_14, q_15, q_16, q_17, q_18, q_19, q_20, q_21, q_22, q_23, q_24, q_25, q_26, q_27, q_28, q_29, q_30, q_31, q_32, q_33, q_34, q_35, q_36, q_37, q_38, q_39, q_40, q_41, q_42, q_43, q_44, q_45, q_46, q_47, q_48, q_49, q_50, q_51, q_52, q_53, q_63, q_64, q_126, q_128, q_255, q_512, q_1024, q_1026, q_2000, q_2048, q_2049, q_4095, q_4096, q_8192, q_16383, q_65535, q_65536, q_69632, q_131072, q_132000, q_262144, q_300000, q_1000000, q_lt_t, q_lt_f, q_le_t, q_le_f, q_eq_t, q_eq_f, q_cl, q_add, q_mul, q_sub, q_nle_f, q_nle_t, q_nlt_f, q_nlt_t, q_neq_f, eq_self, q_n1, q_n2, q_m1, q_m1', q_m2, q_m21, q_m0, q_ml, upd_e, upd_n, updL_e, updL_n, updF_e, updF_n, let_d, tk_s, bind_s, or_false, false_or, and_true, true_and, if_true, if_false, ite_true, ite_false, reduceIte, not_true, not_false_iff, Nat.zero_add, Nat.add_zero, Nat.sub_zero, he, e1, a1, d1]
theorem text1 {F : Nat → Nat → Int32} {J : Nat → Int32} {u n ki b0 : Nat} {F0 : Nat → Nat → Int32} {B : Nat → Nat} (hki : ki < 1024) (he0 : F 17 ki = nI b0) (he : F 17 (ki + 1) = nI (b0 + n)) (hn : n ≤ 65535) (hb0 : b0 + n ≤ 65536) (hu : u + 1 + (n + 3) / 4 ≤ 131072) (h17 : F0 17 = F 17) (h16 : F0 16 = F 16) (hB : ∀ i, i < n → byI (F 16 (b0 + i)) = B i) :
    ∀ (m i : Nat) (c : Nat → Nat → Int32), i ≤ n → n - i < m → sbR F0 c u n (cutB B i) → ∃ c', (∀ (ζ : Type) (k : Int32 → (Nat → Nat → Int32) → Option ζ), lm_Model_text_1 N F (nI ki) (nI u) J k m (nI i) c = k (nI n) c') ∧ sbR F0 c' u n (cutB B n)
  | 0, i, c, _, h, _ => absurd h (Nat.not_lt_zero _)
  | m + 1, i, c, hi, h, hs => by
    have e1 : b0 + n - b0 = n := by omega
    have c17 : c 17 ki = nI b0 := by rw [hs.2.2.2.2.2 17 (by omega) (by omega), h17]; exact he0
    have c16 : c 16 = F 16 := by rw [hs.2.2.2.2.2 16 (by omega) (by omega), h16]
    by_cases q : i = n
    · subst q
      refine ⟨c, fun ζ k => ?_, hs⟩
      rw [lm_Model_text_1]
      simp (disch := omega) only [q_o, q_0, q_1, q_2, q_3, q_4, q_5, q_6, q_7, q_8, q_9, q_10, q_11, q_12, q_13, q_14, q_15, q_16, q_17, q_18, q_19, q_20, q_21, q_22, q_23, q_24, q_25, q_26, q_27, q_28, q_29, q_30, q_31, q_32, q_33, q_34, q_35, q_36, q_37, q_38, q_39, q_40, q_41, q_42, q_43, q_44, q_45, q_46, q_47, q_48, q_49, q_50, q_51, q_52, q_53, q_63, q_64, q_126, q_128, q_255, q_512, q_1024, q_1026, q_2000, q_2048, q_2049, q_4095, q_4096, q_8192, q_16383, q_65535, q_65536, q_69632, q_131072, q_132000, q_262144, q_300000, q_1000000, q_lt_t, q_lt_f, q_le_t, q_le_f, q_eq_t, q_eq_f, q_cl, q_add, q_mul, q_sub, q_nle_f, q_nle_t, q_nlt_f, q_nlt_t, q_neq_f, eq_self, q_n1, q_n2, q_m1, q_m1', q_m2, q_m21, q_m0, q_ml, upd_e, upd_n, updL_e, updL_n, updF_e, updF_n, let_d, tk_s, bind_s, or_false, false_or, and_true, true_and, if_true, if_false, ite_true, ite_false, reduceIte, not_true, not_false_iff, Nat.zero_add, Nat.add_zero, Nat.sub_zero, he0, he, e1]
    · have g2 := hB i (by omega)
      obtain ⟨c1, a1, a2⟩ := setB_R (N := N) (I := J) (x := F 16 (b0 + i)) hs (by omega) hn hu (cut_i B i)
      rw [g2, cut_s] at a2
      obtain ⟨c', d1, d2⟩ := text1 (J := J) hki he0 he hn hb0 hu h17 h16 hB m (i + 1) c1 (by omega) (by omega) a2
      refine ⟨c', fun ζ k => ?_, d2⟩
      rw [lm_Model_text_1]
      simp (disch := omega) only [q_o, q_0, q_1, q_2, q_3, q_4, q_5, q_6, q_7, q_8, q_9, q_10, q_11, q_12, q_13, q_14, q_15, q_16, q_17, q_18, q_19, q_20, q_21, q_22, q_23, q_24, q_25, q_26, q_27, q_28, q_29, q_30, q_31, q_32, q_33, q_34, q_35, q_36, q_37, q_38, q_39, q_40, q_41, q_42, q_43, q_44, q_45, q_46, q_47, q_48, q_49, q_50, q_51, q_52, q_53, q_63, q_64, q_126, q_128, q_255, q_512, q_1024, q_1026, q_2000, q_2048, q_2049, q_4095, q_4096, q_8192, q_16383, q_65535, q_65536, q_69632, q_131072, q_132000, q_262144, q_300000, q_1000000, q_lt_t, q_lt_f, q_le_t, q_le_f, q_eq_t, q_eq_f, q_cl, q_add, q_mul, q_sub, q_nle_f, q_nle_t, q_nlt_f, q_nlt_t, q_neq_f, eq_self, q_n1, q_n2, q_m1, q_m1', q_m2, q_m21, q_m0, q_ml, upd_e, upd_n, updL_e, updL_n, updF_e, updF_n, let_d, tk_s, bind_s, or_false, false_or, and_true, true_and, if_true, if_false, ite_true, ite_false, reduceIte, not_true, not_false_iff, Nat.zero_add, Nat.add_zero, Nat.sub_zero, he0, he, e1, c17, c16, a1, d1]
theorem cut_n {B : Nat → Nat} {n : Nat} (h : ∀ i, n ≤ i → B i = 0) : cutB B n = B := by
  funext j
  unfold cutB
  by_cases hj : j < n
  · rw [if_pos hj]
  · rw [if_neg hj, h j (by omega)]
theorem like_ev0 {b0 n sz : Int32} {g' cl' va' c' sp' : Nat → Int64} {fresh' made' old' olt' rG' rA' su' used' : Int32} {nC' nSp' cc ss : Nat} {x : Int32} (h0 : ¬ x < 0) (h1 : x < P_constants) (h2 : m_Program_beginOf N P_size P_constants P_closed P_open n_P_ends f_P_ends x = some b0) (h3 : ¬ (x < 0 ∨ n_P_ends ≤ x.toNatClampNeg)) (h4 : m_Stacks_isFull N S_top S_frames S_handlers = some 0) (h5 : f_P_ends x.toNatClampNeg - b0 = n) (h6 : m_Value_cellsOfString N n = some sz) (h7 : m_Heap_ask N S_top S_frames S_handlers H_globalsUsed H_used H_spareUsed H_old H_oldLeadsToNew H_limit H_every H_fresh H_made H_madeLimit H_reachedFromGlobals H_reachedInAll H_keptGlobalsUsed H_kept n_S_values f_S_values n_S_closures f_S_closures n_H_globals f_H_globals n_H_cells f_H_cells n_H_spare f_H_spare sz 0 = some ((0, g', cl', va', fresh', made', old', olt', rG', rA', su', used', nC', c', nSp', sp'), cc, ss)) :
    m_Objects_likeConstant N P_size P_constants P_closed P_open S_top S_frames S_handlers H_globalsUsed H_used H_spareUsed H_old H_oldLeadsToNew H_limit H_every H_fresh H_made H_madeLimit H_reachedFromGlobals H_reachedInAll H_keptGlobalsUsed H_kept B_names n_P_bytes f_P_bytes n_P_ends f_P_ends n_S_values f_S_values n_S_closures f_S_closures n_H_globals f_H_globals n_H_cells f_H_cells n_H_spare f_H_spare x = some ((3, g', cl', fresh', made', old', olt', rG', rA', su', used', S_top, nC', c', nSp', sp', n_S_values, va'), cc, ss) := by
  unfold m_Objects_likeConstant
  rw [if_neg h0, if_pos h1, h2, bind_s, if_neg h3, h4, bind_s, if_pos rfl, h5, h6, bind_s, h7, bind_s]
  dsimp only
  rw [if_pos rfl, tk_s, Nat.zero_add, Nat.zero_add]
theorem like_ev1 {b0 n sz : Int32} {g' cl' va' c' sp' va2 c1 c2 : Nat → Int64} {fresh' made' old' olt' rG' rA' su' used' top2 st2 u f1 u1 n1 : Int32} {wo : Int64} {nC' nSp' nV2 cc ss cc2 ss2 : Nat} {x : Int32} (h0 : ¬ x < 0) (h1 : x < P_constants) (h2 : m_Program_beginOf N P_size P_constants P_closed P_open n_P_ends f_P_ends x = some b0) (h3 : ¬ (x < 0 ∨ n_P_ends ≤ x.toNatClampNeg)) (h4 : m_Stacks_isFull N S_top S_frames S_handlers = some 0) (h5 : f_P_ends x.toNatClampNeg - b0 = n) (h6 : m_Value_cellsOfString N n = some sz) (h7 : m_Heap_ask N S_top S_frames S_handlers H_globalsUsed H_used H_spareUsed H_old H_oldLeadsToNew H_limit H_every H_fresh H_made H_madeLimit H_reachedFromGlobals H_reachedInAll H_keptGlobalsUsed H_kept n_S_values f_S_values n_S_closures f_S_closures n_H_globals f_H_globals n_H_cells f_H_cells n_H_spare f_H_spare sz 0 = some ((1, g', cl', va', fresh', made', old', olt', rG', rA', su', used', nC', c', nSp', sp'), cc, ss))
    (h8 : m_Heap_layString N H_globalsUsed used' su' old' olt' H_limit H_every fresh' made' H_madeLimit rG' rA' H_keptGlobalsUsed H_kept nC' c' n = some (u, c1, f1, u1)) (h9 : ∀ (α : Type) (k : Int32 → (Nat → Int64) → Option (α × Nat × Nat)), lm_Objects_likeConstant_1 N H_globalsUsed H_limit H_every H_madeLimit H_keptGlobalsUsed H_kept n_P_bytes f_P_bytes f_P_ends x b0 made' old' olt' rG' rA' su' nC' u f1 u1 k N 0 c1 = k n1 c2) (h10 : m_Value_object N 6 u = some wo) (h11 : m_Stacks_push N S_top S_frames S_handlers n_S_values va' wo = some ((st2, top2, nV2, va2), cc2, ss2)) :
    m_Objects_likeConstant N P_size P_constants P_closed P_open S_top S_frames S_handlers H_globalsUsed H_used H_spareUsed H_old H_oldLeadsToNew H_limit H_every H_fresh H_made H_madeLimit H_reachedFromGlobals H_reachedInAll H_keptGlobalsUsed H_kept B_names n_P_bytes f_P_bytes n_P_ends f_P_ends n_S_values f_S_values n_S_closures f_S_closures n_H_globals f_H_globals n_H_cells f_H_cells n_H_spare f_H_spare x = some ((st2, g', cl', f1, made', old', olt', rG', rA', su', u1, top2, nC', c2, nSp', sp', nV2, va2), cc2 + cc, ss2 + ss) := by
  unfold m_Objects_likeConstant
  rw [if_neg h0, if_pos h1, h2, bind_s, if_neg h3, h4, bind_s, if_pos rfl, h5, h6, bind_s, h7, bind_s]
  dsimp only
  rw [if_neg (by decide), h8, bind_s]
  dsimp only
  rw [h9]
  rw [h10, bind_s, h11, bind_s]
  dsimp only
  rw [tk_s, tk_s, Nat.zero_add, Nat.zero_add]
set_option maxRecDepth 4000 in
set_option maxHeartbeats 4000000 in
theorem like_E {ki b0 n kc L : Nat} {B : Nat → Nat} (hN : 400000 ≤ N) (he : eR nk nm nid G lE gg t gs fr gc hn gb gf gr hF hH hP hD S_top S_frames S_handlers n_S_values f_S_values n_S_bases f_S_bases n_S_floors f_S_floors n_S_returns f_S_returns n_S_closures f_S_closures n_S_handlerFrames f_S_handlerFrames n_S_handlerPlaces f_S_handlerPlaces n_S_handlerHeights f_S_handlerHeights n_S_handlerDepths f_S_handlerDepths H_globalsUsed H_used H_old H_oldLeadsToNew f_H_globals n_H_cells f_H_cells n_H_spare) (hL : L ≤ 131072) (ht : t < 65536) (hkc : P_constants = nI kc) (hk : ki < kc) (hk2 : kc ≤ n_P_ends) (hk3 : n_P_ends ≤ 1024) (hb : m_Program_beginOf N P_size P_constants P_closed P_open n_P_ends f_P_ends (nI ki) = some (nI b0)) (hend : f_P_ends ki = nI (b0 + n)) (hn6 : n ≤ 65535) (hb0 : b0 + n ≤ 65536) (hB : ∀ i, i < n → b0 + i < n_P_bytes ∧ byI (f_P_bytes (b0 + i)) = B i) (hB0 : ∀ i, n ≤ i → B i = 0) :
    ∃ (st : Int32) (l' : List Nat) (g' cl' va' c' sp' : Nat → Int64) (fresh' old' olt' rG' rA' su' used' top' : Int32) (nC' nSp' nV' cc ss : Nat), m_Objects_likeConstant N P_size P_constants P_closed P_open S_top S_frames S_handlers H_globalsUsed H_used H_spareUsed H_old H_oldLeadsToNew (nI L) H_every H_fresh H_made H_madeLimit H_reachedFromGlobals H_reachedInAll H_keptGlobalsUsed H_kept B_names n_P_bytes f_P_bytes n_P_ends f_P_ends n_S_values f_S_values n_S_closures f_S_closures 2049 f_H_globals n_H_cells f_H_cells n_H_spare f_H_spare (nI ki) = some ((st, g', cl', fresh', H_made, old', olt', rG', rA', su', used', top', nC', c', nSp', sp', nV', va'), cc, ss) ∧
      ((st = nI 5 ∧ fits' G (rtA gg t gs fr gc) (1 + (n + 3) / 4) L ∧ eR nk nm (nid + 1) (gnew G nid (strO n B)) (l' ++ [nid]) gg (t + 1) (upA gs t (vO nid)) fr gc hn gb gf gr hF hH hP hD top' S_frames S_handlers nV' va' n_S_bases f_S_bases n_S_floors f_S_floors n_S_returns f_S_returns n_S_closures cl' n_S_handlerFrames f_S_handlerFrames n_S_handlerPlaces f_S_handlerPlaces n_S_handlerHeights f_S_handlerHeights n_S_handlerDepths f_S_handlerDepths H_globalsUsed used' old' olt' g' nC' c' nSp') ∨
       (st = nI 3 ∧ ¬ fits' G (rtA gg t gs fr gc) (1 + (n + 3) / 4) L ∧ eR nk nm nid G l' gg t gs fr gc hn gb gf gr hF hH hP hD top' S_frames S_handlers nV' va' n_S_bases f_S_bases n_S_floors f_S_floors n_S_returns f_S_returns n_S_closures cl' n_S_handlerFrames f_S_handlerFrames n_S_handlerPlaces f_S_handlerPlaces n_S_handlerHeights f_S_handlerHeights n_S_handlerDepths f_S_handlerDepths H_globalsUsed used' old' olt' g' nC' c' nSp')) ∧ (nC' = n_H_cells ∨ 2 * n_H_cells ≤ nC' ∨ nC' = 131072) ∧ n_H_cells ≤ nC' ∧ ss + 150 * cc + pot 131072 n_H_cells + pot 131072 n_H_spare + pot 65536 n_S_values ≤ pot 131072 nC' + pot 131072 nSp' + pot 65536 nV' := by
  subst hkc
  obtain ⟨q1, q2, q3, qt, qs, qh, qb, qf, q4, q5, q6, q7, q8, q9, qx, qy, qz⟩ := frE he
  obtain ⟨b, l', g', cl', va', c', sp', fresh', made', old', olt', rG', rA', su', nC', nSp', cc, ss, a1, a2, a3, a4, a5, a6⟩ := ask_E0 (N := N) (H_spareUsed := H_spareUsed) (H_every := H_every) (H_fresh := H_fresh) (H_made := H_made) (H_madeLimit := H_madeLimit) (H_reachedFromGlobals := H_reachedFromGlobals) (H_reachedInAll := H_reachedInAll) (H_keptGlobalsUsed := H_keptGlobalsUsed) (H_kept := H_kept) (f_H_spare := f_H_spare) (n := 1 + (n + 3) / 4) (cnt := 0) hN he (by omega) (by omega) hL rfl trivial
  subst qt qs qh
  have hbC := (eR_hp a2).2.2.1
  have e1 : b0 + n - b0 = n := by omega
  have hcs : m_Value_cellsOfString N (nI n) = some (nI (1 + (n + 3) / 4)) := by
    unfold m_Value_cellsOfString
    simp (disch := omega) only [q_o, q_0, q_1, q_2, q_3, q_4, q_5, q_6, q_7, q_8, q_9, q_10, q_11, q_12, q_13, q_14, q_15, q_16, q_17, q_18, q_19, q_20, q_21, q_22, q_23, q_24, q_25, q_26, q_27, q_28, q_29, q_30, q_31, q_32, q_33, q_34, q_35, q_36, q_37, q_38, q_39, q_40, q_41, q_42, q_43, q_44, q_45, q_46, q_47, q_48, q_49, q_50, q_51, q_52, q_53, q_63, q_64, q_126, q_128, q_255, q_512, q_1024, q_1026, q_2000, q_2048, q_2049, q_4095, q_4096, q_8192, q_16383, q_65535, q_65536, q_69632, q_131072, q_132000, q_262144, q_300000, q_1000000, q_lt_t, q_lt_f, q_le_t, q_le_f, q_eq_t, q_eq_f, q_cl, q_add, q_mul, q_sub, q_nle_f, q_nle_t, q_nlt_f, q_nlt_t, q_neq_f, eq_self, q_n1, q_n2, q_m1, q_m1', q_m2, q_m21, q_m0, q_ml, upd_e, upd_n, updL_e, updL_n, updF_e, updF_n, let_d, tk_s, bind_s, or_false, false_or, and_true, true_and, if_true, if_false, ite_true, ite_false, reduceIte, not_true, not_false_iff, Nat.zero_add, Nat.add_zero, Nat.sub_zero, q_dv]
  have hfu : m_Stacks_isFull N (nI t) (nI fr) (nI hn) = some (nI 0) := by
    unfold m_Stacks_isFull
    simp (disch := omega) only [q_o, q_0, q_1, q_2, q_3, q_4, q_5, q_6, q_7, q_8, q_9, q_10, q_11, q_12, q_13, q_14, q_15, q_16, q_17, q_18, q_19, q_20, q_21, q_22, q_23, q_24, q_25, q_26, q_27, q_28, q_29, q_30, q_31, q_32, q_33, q_34, q_35, q_36, q_37, q_38, q_39, q_40, q_41, q_42, q_43, q_44, q_45, q_46, q_47, q_48, q_49, q_50, q_51, q_52, q_53, q_63, q_64, q_126, q_128, q_255, q_512, q_1024, q_1026, q_2000, q_2048, q_2049, q_4095, q_4096, q_8192, q_16383, q_65535, q_65536, q_69632, q_131072, q_132000, q_262144, q_300000, q_1000000, q_lt_t, q_lt_f, q_le_t, q_le_f, q_eq_t, q_eq_f, q_cl, q_add, q_mul, q_sub, q_nle_f, q_nle_t, q_nlt_f, q_nlt_t, q_neq_f, eq_self, q_n1, q_n2, q_m1, q_m1', q_m2, q_m21, q_m0, q_ml, upd_e, upd_n, updL_e, updL_n, updF_e, updF_n, let_d, tk_s, bind_s, or_false, false_or, and_true, true_and, if_true, if_false, ite_true, ite_false, reduceIte, not_true, not_false_iff, Nat.zero_add, Nat.add_zero, Nat.sub_zero]
  have z0 : ¬ nI ki < 0 := nI_pos (by omega)
  have z1 : nI ki < nI kc := by
    rw [q_lt_t (by omega) (by omega)]
    exact True.intro
  have z3 : ¬ (nI ki < 0 ∨ n_P_ends ≤ (nI ki).toNatClampNeg) := by
    rw [q_cl (by omega)]
    intro h
    rcases h with h | h
    · exact nI_pos (by omega) h
    · omega
  have z5 : f_P_ends (nI ki).toNatClampNeg - nI b0 = nI n := by
    rw [q_cl (by omega), hend, q_sub (by omega), e1]
  rcases a3 with ⟨rfl, f1, f2, f3, rfl⟩ | ⟨rfl, f1, rfl⟩
  · rw [i_add0] at a1
    obtain ⟨c1, l1, l2⟩ := layString_E (N := N) (c := c') (n := n) (by omega) f3 hbC hn6
    rw [← cut_0 B] at l2
    obtain ⟨c2, d1, d2⟩ := like1 (N := N) (H_globalsUsed := H_globalsUsed) (H_limit := nI L) (H_every := H_every) (H_madeLimit := H_madeLimit) (H_keptGlobalsUsed := H_keptGlobalsUsed) (H_kept := H_kept) (m6 := H_made) (m7 := old') (m8 := olt') (m9 := rG') (m10 := rA') (m11 := su') (r3 := fresh' + nI (1 + (n + 3) / 4)) (r4 := nI (tot (gZ G) l' + (1 + (n + 3) / 4))) (show ki < 1024 by omega) hend hn6 hb0 (by omega) hbC hB N 0 c1 (by omega) (by omega) l2
    rw [cut_n hB0] at d2
    obtain ⟨w1, w2⟩ := eR_str a2 d2 hn6 f3
    obtain ⟨nV', fV', c3, s3, p1, p2, p3⟩ := eR_push (N := N) (v := vO nid) w1 ht (List.mem_append_right _ (List.mem_singleton.mpr rfl))
    rw [w2] at p1
    refine ⟨nI 5, l', g', cl', fV', _, sp', fresh' + nI (1 + (n + 3) / 4), old', olt', rG', rA', su', nI (tot (gZ G) l' + (1 + (n + 3) / 4)), nI (t + 1), nC', nSp', nV', c3 + cc, s3 + ss, ?_, Or.inl ⟨rfl, f1, p2⟩, a4, a5, by omega⟩
    clear he a2 w1 p2 l2 d2
    exact like_ev1 z0 z1 hb z3 hfu z5 hcs a1 (l1 ..) d1 (ob_E (K := 6) (by omega) (by omega)) p1
  · refine ⟨nI 3, l', g', cl', va', c', sp', fresh', old', olt', rG', rA', su', nI (tot (gZ G) l'), nI t, nC', nSp', n_S_values, cc, ss, ?_, Or.inr ⟨rfl, f1, a2⟩, a4, a5, by omega⟩
    clear he a2
    exact like_ev0 z0 z1 hb z3 hfu z5 hcs a1
theorem text_ev0 {sz : Int32} {x : Int32} {F' : Nat → Nat → Int32} {I' : Nat → Int32} (h0 : ¬ x < 0) (h1 : x < I 18) (h2 : ¬ (x + 1 < 0 ∨ 1026 ≤ (x + 1).toNatClampNeg)) (h3 : ¬ (x < 0 ∨ 1026 ≤ x.toNatClampNeg)) (h4 : ¬ I 29 = 65536) (h5 : 1 + (F 17 (x + 1).toNatClampNeg - F 17 x.toNatClampNeg + 3) / 4 = sz) (h6 : m_Model_hasRoom N I F sz = some (0, F', I')) : m_Model_text N I F x = some (3, F', I') := by
  unfold m_Model_text
  rw [if_neg h0, if_pos h1, if_neg h2, if_neg h3, if_neg h4, let_d, h5, h6, bind_s]
  dsimp only
  rw [if_pos rfl]
theorem text_ev1 {sz n u n1 : Int32} {x : Int32} {F' F1 F2 F3 : Nat → Nat → Int32} {I' I1 I3 : Nat → Int32} {st : Int32} (h0 : ¬ x < 0) (h1 : x < I 18) (h2 : ¬ (x + 1 < 0 ∨ 1026 ≤ (x + 1).toNatClampNeg)) (h3 : ¬ (x < 0 ∨ 1026 ≤ x.toNatClampNeg)) (h4 : ¬ I 29 = 65536) (h5 : 1 + (F 17 (x + 1).toNatClampNeg - F 17 x.toNatClampNeg + 3) / 4 = sz) (h6 : m_Model_hasRoom N I F sz = some (1, F', I')) (h7 : F 17 (x + 1).toNatClampNeg - F 17 x.toNatClampNeg = n) (h8 : m_Model_string N I' F' n = some (u, F1, I1)) (h9 : ∀ (ζ : Type) (k : Int32 → (Nat → Nat → Int32) → Option ζ), lm_Model_text_1 N F x u I1 k N 0 F1 = k n1 F2) (h10 : m_Model_give N I1 F2 0 2 u = some (st, F3, I3)) : m_Model_text N I F x = some (st, F3, I3) := by
  unfold m_Model_text
  rw [if_neg h0, if_pos h1, if_neg h2, if_neg h3, if_neg h4, let_d, h5, h6, bind_s]
  dsimp only
  rw [if_neg (by decide), h7, h8, bind_s]
  dsimp only
  rw [h9, h10, bind_s]
theorem text_R {ki b0 n kc L : Nat} {B : Nat → Nat} (hN : 400000 ≤ N) (hr : rR nk nm nid G lR gg t gs fr gc hn gb gf gr hF hH hP hD I F) (hs : shp t fr hn gb gf hF hH) (hnm : nm < 134217728) (h43 : I 43 = nI L) (hL : L ≤ 131072) (ht : t < 65536) (hkc : I 18 = nI kc) (hk : ki < kc) (hk2 : kc ≤ 1024) (hb : F 17 ki = nI b0) (hend : F 17 (ki + 1) = nI (b0 + n)) (hn6 : n ≤ 65535) (hb0 : b0 + n ≤ 65536) (hB : ∀ i, i < n → byI (F 16 (b0 + i)) = B i) (hB0 : ∀ i, n ≤ i → B i = 0) :
    ∃ (st : Int32) (l' : List Nat) (I' : Nat → Int32) (F' : Nat → Nat → Int32), m_Model_text N I F (nI ki) = some (st, F', I') ∧ frG I F I' F' ∧
      ((st = nI 5 ∧ fits' G (rtA gg t gs fr gc) (1 + (n + 3) / 4) L ∧ rR nk nm (nid + 1) (gnew G nid (strO n B)) (l' ++ [nid]) gg (t + 1) (upA gs t (vO nid)) fr gc hn gb gf gr hF hH hP hD I' F') ∨ (st = nI 3 ∧ ¬ fits' G (rtA gg t gs fr gc) (1 + (n + 3) / 4) L ∧ rR nk nm nid G l' gg t gs fr gc hn gb gf gr hF hH hP hD I' F')) := by
  obtain ⟨s1, s2, s3, s4⟩ := hs
  obtain ⟨F1, I1, l', b, r1, r2, r3, r4, r5, r6⟩ := hasRoom_R (N := N) (n := 1 + (n + 3) / 4) (by omega) hnm hr.2.2 hr.2.1 s3 s2 hr.1.1 hr.1.2.1 hr.1.2.2.2.2.2.2.1 hr.1.2.2.2.2.2.2.2 h43 hL (by omega)
  have hr1 := rR_room hr r2 r3 r4 r5
  have y1 := hr.1.1
  have z0 : ¬ nI ki < 0 := nI_pos (by omega)
  have z1 : nI ki < I 18 := by
    rw [hkc, q_lt_t (by omega) (by omega)]
    exact True.intro
  have z2 : ¬ (nI ki + 1 < 0 ∨ 1026 ≤ (nI ki + 1).toNatClampNeg) := by
    rw [nI_1, q_cl (by omega)]
    intro h
    rcases h with h | h
    · exact nI_pos (by omega) h
    · omega
  have z3 : ¬ (nI ki < 0 ∨ 1026 ≤ (nI ki).toNatClampNeg) := by
    rw [q_cl (by omega)]
    intro h
    rcases h with h | h
    · exact nI_pos (by omega) h
    · omega
  have z4 : ¬ I 29 = 65536 := by
    rw [y1, show (65536 : Int32) = nI 65536 from rfl, q_eq_f (by omega) (by omega) (by omega)]
    exact id
  have z7 : F 17 (nI ki + 1).toNatClampNeg - F 17 (nI ki).toNatClampNeg = nI n := by
    rw [nI_1, q_cl (by omega), q_cl (by omega), hb, hend, q_sub (by omega), show b0 + n - b0 = n by omega]
  have z5 : 1 + (F 17 (nI ki + 1).toNatClampNeg - F 17 (nI ki).toNatClampNeg + 3) / 4 = nI (1 + (n + 3) / 4) := by
    rw [z7]
    simp (disch := omega) only [q_o, q_0, q_1, q_2, q_3, q_4, q_5, q_6, q_7, q_8, q_9, q_10, q_11, q_12, q_13, q_14, q_15, q_16, q_17, q_18, q_19, q_20, q_21, q_22, q_23, q_24, q_25, q_26, q_27, q_28, q_29, q_30, q_31, q_32, q_33, q_34, q_35, q_36, q_37, q_38, q_39, q_40, q_41, q_42, q_43, q_44, q_45, q_46, q_47, q_48, q_49, q_50, q_51, q_52, q_53, q_63, q_64, q_126, q_128, q_255, q_512, q_1024, q_1026, q_2000, q_2048, q_2049, q_4095, q_4096, q_8192, q_16383, q_65535, q_65536, q_69632, q_131072, q_132000, q_262144, q_300000, q_1000000, q_lt_t, q_lt_f, q_le_t, q_le_f, q_eq_t, q_eq_f, q_cl, q_add, q_mul, q_sub, q_nle_f, q_nle_t, q_nlt_f, q_nlt_t, q_neq_f, eq_self, q_n1, q_n2, q_m1, q_m1', q_m2, q_m21, q_m0, q_ml, upd_e, upd_n, updL_e, updL_n, updF_e, updF_n, let_d, tk_s, bind_s, or_false, false_or, and_true, true_and, if_true, if_false, ite_true, ite_false, reduceIte, not_true, not_false_iff, Nat.zero_add, Nat.add_zero, Nat.sub_zero, q_dv]
  rcases r6 with ⟨rfl, f1, f2⟩ | ⟨rfl, f1⟩
  · obtain ⟨F2, g1, g2⟩ := string_R (N := N) (I := I1) (F := F1) (u := tot (gZ G) l') (n := n) (by omega) r2.2.2.1 (by omega) hn6
    rw [← cut_0 B] at g2
    have e17 := r5 17 (by omega) (by omega) (by omega) (by omega) (by omega) (by omega)
    have e16 := r5 16 (by omega) (by omega) (by omega) (by omega) (by omega) (by omega)
    obtain ⟨F3, d1, d2⟩ := text1 (N := N) (F := F) (J := upd I1 3 (nI (tot (gZ G) l' + (1 + (n + 3) / 4)))) (show ki < 1024 by omega) hb hend hn6 hb0 (show tot (gZ G) l' + 1 + (n + 3) / 4 ≤ 131072 by omega) e17 e16 hB N 0 F2 (by omega) (by omega) g2
    rw [cut_n hB0] at d2
    obtain ⟨w1, w2⟩ := rR_str hr1 d2 hn6 (by omega)
    obtain ⟨F4, I4, k1, k2, k3, k4⟩ := give_R (N := N) (v := vO nid) (k := 0) w1 (by omega) (by omega) s3 (List.mem_append_right _ (List.mem_singleton.mpr rfl))
    rw [w2] at k1
    rw [Nat.sub_zero] at k2
    refine ⟨nI 5, l', I4, F4, text_ev1 z0 z1 z2 z3 z4 z5 r1 z7 g1 d1 k1, ⟨fun j h3 h8 h29 h50 h51 => by rw [k3 j h29, upd_n h3, r4 j h3 h8 h50 h51], fun j h0 h1 h2 h6 h23 h27 h28 => by rw [k4 j h27 h28, d2.2.2.2.2.2 j h0 h1, r5 j h0 h1 h2 h6 h23 h28]⟩, Or.inl ⟨rfl, f1, k2⟩⟩
  · exact ⟨nI 3, l', I1, F1, text_ev0 z0 z1 z2 z3 z4 z5 r1, ⟨fun j h3 h8 h29 h50 h51 => r4 j h3 h8 h50 h51, fun j h0 h1 h2 h6 h23 h27 h28 => r5 j h0 h1 h2 h6 h23 h28⟩, Or.inr ⟨rfl, f1, hr1⟩⟩
end TX
