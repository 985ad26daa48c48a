/-! Reading values and objects, on both sides -/
section LF
variable {N : Nat}
variable {nk : Nat → Nat} {nm : Nat} {nid : Nat} {G : Nat → GO} {lE : List Nat} {gg : Nat → AV} {t : Nat} {gs : Nat → AV} {fr : Nat} {gc : Nat → AV} {hn : Nat} {gb : Nat → Nat} {gf : Nat → Nat} {gr : Nat → Int32} {hF : Nat → Nat} {hH : Nat → Nat} {hP : Nat → Int32} {hD : Nat → Int32} {lR : List Nat} {P_size : Int32} {P_constants : Int32} {P_closed : Int32} {P_open : Int32} {O_size : Int32} {S_top : Int32} {S_frames : Int32} {S_handlers : Int32} {H_globalsUsed : Int32} {H_used : Int32} {H_spareUsed : Int32} {H_old : Int32} {H_oldLeadsToNew : Int32} {H_limit : Int32} {H_every : Int32} {H_fresh : Int32} {H_made : Int32} {H_madeLimit : Int32} {H_reachedFromGlobals : Int32} {H_reachedInAll : Int32} {H_keptGlobalsUsed : Int32} {H_kept : Int32} {B_names : Int32} {Q_size : Int32} {M_status : Int32} {M_place : Int32} {M_next : Int32} {M_fuel : Int32} {M_ticks : Int32} {M_depth : Int32} {M_depthLimit : Int32} {M_done : Int32} {n_P_words : Nat} {f_P_words : Nat → Int32} {n_P_bytes : Nat} {f_P_bytes : Nat → Int32} {n_P_ends : Nat} {f_P_ends : Nat → Int32} {n_O_bytes : Nat} {f_O_bytes : Nat → Int32} {n_S_values : Nat} {f_S_values : Nat → Int64} {n_S_bases : Nat} {f_S_bases : Nat → Int32} {n_S_floors : Nat} {f_S_floors : Nat → Int32} {n_S_returns : Nat} {f_S_returns : Nat → Int32} {n_S_closures : Nat} {f_S_closures : Nat → Int64} {n_S_handlerFrames : Nat} {f_S_handlerFrames : Nat → Int32} {n_S_handlerPlaces : Nat} {f_S_handlerPlaces : Nat → Int32} {n_S_handlerHeights : Nat} {f_S_handlerHeights : Nat → Int32} {n_S_handlerDepths : Nat} {f_S_handlerDepths : Nat → Int32} {n_H_globals : Nat} {f_H_globals : Nat → Int64} {n_H_cells : Nat} {f_H_cells : Nat → Int64} {n_H_spare : Nat} {f_H_spare : Nat → Int64} {n_Q_links : Nat} {f_Q_links : Nat → Int32} {n_Q_pairs : Nat} {f_Q_pairs : Nat → Int64} {I : Nat → Int32} {F : Nat → Nat → Int32}
theorem kV_8 {l : List Nat} {v : AV} (hG : wf nk nm nid G l) (hv : okV nk nm l v) : kV G v < 8 := by
  rcases v with n | ⟨k, i⟩ | o
  · show 0 < 8; omega
  · show 1 < 8; omega
  · exact (okO_K (hG.2 o hv).2.1).2
theorem kd_E {l : List Nat} {v : AV} (hG : wf nk nm nid G l) (hv : okV nk nm l v) : m_Value_kind N (wE G l v) = some (nI (kV G v)) := by
  show some (kdW (wE G l v)) = _
  rw [kd_wE (kV_8 hG hv)]
theorem nu_E {l : List Nat} {v : AV} (hG : wf nk nm nid G l) (hv : okV nk nm l v) (hn : nm < 134217728) (hl : tot (gZ G) l ≤ 131072) : m_Value_number N (wE G l v) = some (nE G l v) := by
  show some (nuW (wE G l v)) = _
  rw [nu_wE (kV_8 hG hv) hv hn hl]
theorem eR_hp (h : eR nk nm nid G lE gg t gs fr gc hn gb gf gr hF hH hP hD S_top S_frames S_handlers n_S_values f_S_values n_S_bases f_S_bases n_S_floors f_S_floors n_S_returns f_S_returns n_S_closures f_S_closures n_S_handlerFrames f_S_handlerFrames n_S_handlerPlaces f_S_handlerPlaces n_S_handlerHeights f_S_handlerHeights n_S_handlerDepths f_S_handlerDepths H_globalsUsed H_used H_old H_oldLeadsToNew f_H_globals n_H_cells f_H_cells n_H_spare) : wf nk nm nid G lE ∧ tot (gZ G) lE ≤ n_H_cells ∧ n_H_cells ≤ 131072 ∧ heE G lE f_H_cells ∧ nm < 134217728 := by
  obtain ⟨h1, h2, h3, h4, h5, h6, h7⟩ := h
  exact ⟨h5.1, h5.2.2.1, h2.2.2.2.2.2.2.2.2.2.2.2.2.2.1, h5.2.2.2.1, h7⟩
theorem adr_bd {l : List Nat} {o : Nat} (ho : o ∈ l) (ht : tot (gZ G) l ≤ 131072) : adr (gZ G) l o < 131072 ∧ adr (gZ G) l o + gZ G o ≤ 131072 ∧ 1 ≤ gZ G o := by
  have := adr_end (Z := gZ G) ho
  have := gZ_pos G o
  omega
theorem np_bd {o : Nat} (hO : okO nk nm G o) (hn : nm < 134217728) : gNp G o ≤ 4095 := by
  have hz := okO_Z hO hn
  unfold gNp
  split
  · omega
  · split
    · omega
    · rename_i h6 h7
      exact hz.2.2.1 h6 h7
theorem parts_O {o : Nat} (h : eR nk nm nid G lE gg t gs fr gc hn gb gf gr hF hH hP hD S_top S_frames S_handlers n_S_values f_S_values n_S_bases f_S_bases n_S_floors f_S_floors n_S_returns f_S_returns n_S_closures f_S_closures n_S_handlerFrames f_S_handlerFrames n_S_handlerPlaces f_S_handlerPlaces n_S_handlerHeights f_S_handlerHeights n_S_handlerDepths f_S_handlerDepths H_globalsUsed H_used H_old H_oldLeadsToNew f_H_globals n_H_cells f_H_cells n_H_spare) (ho : o ∈ lE) : ∀ (H_globalsUsed : Int32) (H_used : Int32) (H_spareUsed : Int32) (H_old : Int32) (H_oldLeadsToNew : Int32) (H_limit : Int32) (H_every : Int32) (H_fresh : Int32) (H_made : Int32) (H_madeLimit : Int32) (H_reachedFromGlobals : Int32) (H_reachedInAll : Int32) (H_keptGlobalsUsed : Int32) (H_kept : Int32), m_Heap_parts N H_globalsUsed H_used H_spareUsed H_old H_oldLeadsToNew H_limit H_every H_fresh H_made H_madeLimit H_reachedFromGlobals H_reachedInAll H_keptGlobalsUsed H_kept n_H_cells f_H_cells (wE G lE (vO o)) = some (nI (gNp G o)) := by
  intros
  obtain ⟨hG, ht, hC, hh, hn⟩ := eR_hp h
  have hO := (hG.2 o ho).2.1
  have hk := okO_K hO
  have hb := adr_bd ho (G := G) (by omega)
  have hend := adr_end (Z := gZ G) ho
  have h1 := kd_E (N := N) (v := vO o) hG ho
  have h2 := nu_E (N := N) (v := vO o) hG ho hn (by omega)
  have h3 := (hh o ho).1
  have h2 : m_Value_number N (wE G lE (vO o)) = some (nI (adr (gZ G) lE o)) := h2
  have h1 : m_Value_kind N (wE G lE (vO o)) = some (nI (gK G o)) := h1
  unfold m_Heap_parts
  by_cases h6 : gK G o = 6
  · have : gNp G o = 0 := by unfold gNp; rw [if_pos h6]
    simp (disch := omega) only [q_o, q_0, q_1, q_2, q_3, q_4, q_5, q_6, q_7, q_8, q_9, q_10, q_11, q_12, q_13, q_14, q_15, q_16, q_17, q_18, q_19, q_20, q_21, q_22, q_23, q_24, q_25, q_26, q_27, q_28, q_29, q_30, q_31, q_32, q_33, q_34, q_35, q_36, q_37, q_38, q_39, q_40, q_41, q_42, q_43, q_44, q_45, q_46, q_47, q_48, q_49, q_50, q_51, q_52, q_53, q_63, q_64, q_126, q_128, q_255, q_512, q_1024, q_1026, q_2000, q_2048, q_2049, q_4095, q_4096, q_8192, q_16383, q_65535, q_65536, q_69632, q_131072, q_132000, q_262144, q_300000, q_1000000, q_lt_t, q_lt_f, q_le_t, q_le_f, q_eq_t, q_eq_f, q_cl, q_add, q_mul, q_sub, q_nle_f, q_nle_t, q_nlt_f, q_nlt_t, q_neq_f, eq_self, q_n1, q_n2, q_m1, q_m1', q_m2, q_m21, q_m0, q_ml, upd_e, upd_n, updL_e, updL_n, updF_e, updF_n, let_d, tk_s, bind_s, or_false, false_or, and_true, true_and, if_true, if_false, ite_true, ite_false, reduceIte, not_true, not_false_iff, Nat.zero_add, Nat.add_zero, Nat.sub_zero, h1, h6, this]
  · have hz := gZ_np h6
    have hz2 := okO_Z hO hn
    have e : 1 + gNp G o - 1 = gNp G o := by omega
    simp (disch := omega) only [q_o, q_0, q_1, q_2, q_3, q_4, q_5, q_6, q_7, q_8, q_9, q_10, q_11, q_12, q_13, q_14, q_15, q_16, q_17, q_18, q_19, q_20, q_21, q_22, q_23, q_24, q_25, q_26, q_27, q_28, q_29, q_30, q_31, q_32, q_33, q_34, q_35, q_36, q_37, q_38, q_39, q_40, q_41, q_42, q_43, q_44, q_45, q_46, q_47, q_48, q_49, q_50, q_51, q_52, q_53, q_63, q_64, q_126, q_128, q_255, q_512, q_1024, q_1026, q_2000, q_2048, q_2049, q_4095, q_4096, q_8192, q_16383, q_65535, q_65536, q_69632, q_131072, q_132000, q_262144, q_300000, q_1000000, q_lt_t, q_lt_f, q_le_t, q_le_f, q_eq_t, q_eq_f, q_cl, q_add, q_mul, q_sub, q_nle_f, q_nle_t, q_nlt_f, q_nlt_t, q_neq_f, eq_self, q_n1, q_n2, q_m1, q_m1', q_m2, q_m21, q_m0, q_ml, upd_e, upd_n, updL_e, updL_n, updF_e, updF_n, let_d, tk_s, bind_s, or_false, false_or, and_true, true_and, if_true, if_false, ite_true, ite_false, reduceIte, not_true, not_false_iff, Nat.zero_add, Nat.add_zero, Nat.sub_zero, h1, h2, h3, sizeOf_hE hO hn, hz, e]
theorem parts_V {v : AV} (h : eR nk nm nid G lE gg t gs fr gc hn gb gf gr hF hH hP hD S_top S_frames S_handlers n_S_values f_S_values n_S_bases f_S_bases n_S_floors f_S_floors n_S_returns f_S_returns n_S_closures f_S_closures n_S_handlerFrames f_S_handlerFrames n_S_handlerPlaces f_S_handlerPlaces n_S_handlerHeights f_S_handlerHeights n_S_handlerDepths f_S_handlerDepths H_globalsUsed H_used H_old H_oldLeadsToNew f_H_globals n_H_cells f_H_cells n_H_spare) (hv : okV nk nm lE v) (hn : ∀ o, v ≠ vO o) : ∀ (H_globalsUsed : Int32) (H_used : Int32) (H_spareUsed : Int32) (H_old : Int32) (H_oldLeadsToNew : Int32) (H_limit : Int32) (H_every : Int32) (H_fresh : Int32) (H_made : Int32) (H_madeLimit : Int32) (H_reachedFromGlobals : Int32) (H_reachedInAll : Int32) (H_keptGlobalsUsed : Int32) (H_kept : Int32), m_Heap_parts N H_globalsUsed H_used H_spareUsed H_old H_oldLeadsToNew H_limit H_every H_fresh H_made H_madeLimit H_reachedFromGlobals H_reachedInAll H_keptGlobalsUsed H_kept n_H_cells f_H_cells (wE G lE v) = some (nI 0) := by
  intros
  obtain ⟨hG, ht, hC, hh, hn'⟩ := eR_hp h
  have h1 := kd_E (N := N) hG hv
  have h2 : kV G v < 2 := by
    rcases v with n | ⟨k, i⟩ | o
    · show 0 < 2; omega
    · show 1 < 2; omega
    · exact absurd rfl (hn o)
  unfold m_Heap_parts
  simp (disch := omega) only [q_o, q_0, q_1, q_2, q_3, q_4, q_5, q_6, q_7, q_8, q_9, q_10, q_11, q_12, q_13, q_14, q_15, q_16, q_17, q_18, q_19, q_20, q_21, q_22, q_23, q_24, q_25, q_26, q_27, q_28, q_29, q_30, q_31, q_32, q_33, q_34, q_35, q_36, q_37, q_38, q_39, q_40, q_41, q_42, q_43, q_44, q_45, q_46, q_47, q_48, q_49, q_50, q_51, q_52, q_53, q_63, q_64, q_126, q_128, q_255, q_512, q_1024, q_1026, q_2000, q_2048, q_2049, q_4095, q_4096, q_8192, q_16383, q_65535, q_65536, q_69632, q_131072, q_132000, q_262144, q_300000, q_1000000, q_lt_t, q_lt_f, q_le_t, q_le_f, q_eq_t, q_eq_f, q_cl, q_add, q_mul, q_sub, q_nle_f, q_nle_t, q_nlt_f, q_nlt_t, q_neq_f, eq_self, q_n1, q_n2, q_m1, q_m1', q_m2, q_m21, q_m0, q_ml, upd_e, upd_n, updL_e, updL_n, updF_e, updF_n, let_d, tk_s, bind_s, or_false, false_or, and_true, true_and, if_true, if_false, ite_true, ite_false, reduceIte, not_true, not_false_iff, Nat.zero_add, Nat.add_zero, Nat.sub_zero, h1]
theorem told_O {o : Nat} (h : eR nk nm nid G lE gg t gs fr gc hn gb gf gr hF hH hP hD S_top S_frames S_handlers n_S_values f_S_values n_S_bases f_S_bases n_S_floors f_S_floors n_S_returns f_S_returns n_S_closures f_S_closures n_S_handlerFrames f_S_handlerFrames n_S_handlerPlaces f_S_handlerPlaces n_S_handlerHeights f_S_handlerHeights n_S_handlerDepths f_S_handlerDepths H_globalsUsed H_used H_old H_oldLeadsToNew f_H_globals n_H_cells f_H_cells n_H_spare) (ho : o ∈ lE) : ∀ (H_globalsUsed : Int32) (H_used : Int32) (H_spareUsed : Int32) (H_old : Int32) (H_oldLeadsToNew : Int32) (H_limit : Int32) (H_every : Int32) (H_fresh : Int32) (H_made : Int32) (H_madeLimit : Int32) (H_reachedFromGlobals : Int32) (H_reachedInAll : Int32) (H_keptGlobalsUsed : Int32) (H_kept : Int32), m_Heap_told N H_globalsUsed H_used H_spareUsed H_old H_oldLeadsToNew H_limit H_every H_fresh H_made H_madeLimit H_reachedFromGlobals H_reachedInAll H_keptGlobalsUsed H_kept n_H_cells f_H_cells (wE G lE (vO o)) = some (if gK G o = 6 then nI (gC G o) else gN G o) := by
  intros
  obtain ⟨hG, ht, hC, hh, hn⟩ := eR_hp h
  have hO := (hG.2 o ho).2.1
  have hk := okO_K hO
  have hb := adr_bd ho (G := G) (by omega)
  have hend := adr_end (Z := gZ G) ho
  have h1 : m_Value_kind N (wE G lE (vO o)) = some (nI (gK G o)) := kd_E (N := N) (v := vO o) hG ho
  have h2 : m_Value_number N (wE G lE (vO o)) = some (nI (adr (gZ G) lE o)) := nu_E (N := N) (v := vO o) hG ho hn (by omega)
  have h3 := (hh o ho).1
  have h4 : m_Value_number N (hE G o) = some (if gK G o = 6 then nI (gC G o) else gN G o) := by
    show some (nuW (hE G o)) = _
    rw [nu_hE hO hn]
  unfold m_Heap_told
  simp (disch := omega) only [q_o, q_0, q_1, q_2, q_3, q_4, q_5, q_6, q_7, q_8, q_9, q_10, q_11, q_12, q_13, q_14, q_15, q_16, q_17, q_18, q_19, q_20, q_21, q_22, q_23, q_24, q_25, q_26, q_27, q_28, q_29, q_30, q_31, q_32, q_33, q_34, q_35, q_36, q_37, q_38, q_39, q_40, q_41, q_42, q_43, q_44, q_45, q_46, q_47, q_48, q_49, q_50, q_51, q_52, q_53, q_63, q_64, q_126, q_128, q_255, q_512, q_1024, q_1026, q_2000, q_2048, q_2049, q_4095, q_4096, q_8192, q_16383, q_65535, q_65536, q_69632, q_131072, q_132000, q_262144, q_300000, q_1000000, q_lt_t, q_lt_f, q_le_t, q_le_f, q_eq_t, q_eq_f, q_cl, q_add, q_mul, q_sub, q_nle_f, q_nle_t, q_nlt_f, q_nlt_t, q_neq_f, eq_self, q_n1, q_n2, q_m1, q_m1', q_m2, q_m21, q_m0, q_ml, upd_e, upd_n, updL_e, updL_n, updF_e, updF_n, let_d, tk_s, bind_s, or_false, false_or, and_true, true_and, if_true, if_false, ite_true, ite_false, reduceIte, not_true, not_false_iff, Nat.zero_add, Nat.add_zero, Nat.sub_zero, h1, h2, h3, h4]
theorem told_V {v : AV} (h : eR nk nm nid G lE gg t gs fr gc hn gb gf gr hF hH hP hD S_top S_frames S_handlers n_S_values f_S_values n_S_bases f_S_bases n_S_floors f_S_floors n_S_returns f_S_returns n_S_closures f_S_closures n_S_handlerFrames f_S_handlerFrames n_S_handlerPlaces f_S_handlerPlaces n_S_handlerHeights f_S_handlerHeights n_S_handlerDepths f_S_handlerDepths H_globalsUsed H_used H_old H_oldLeadsToNew f_H_globals n_H_cells f_H_cells n_H_spare) (hv : okV nk nm lE v) (hn : ∀ o, v ≠ vO o) : ∀ (H_globalsUsed : Int32) (H_used : Int32) (H_spareUsed : Int32) (H_old : Int32) (H_oldLeadsToNew : Int32) (H_limit : Int32) (H_every : Int32) (H_fresh : Int32) (H_made : Int32) (H_madeLimit : Int32) (H_reachedFromGlobals : Int32) (H_reachedInAll : Int32) (H_keptGlobalsUsed : Int32) (H_kept : Int32), m_Heap_told N H_globalsUsed H_used H_spareUsed H_old H_oldLeadsToNew H_limit H_every H_fresh H_made H_madeLimit H_reachedFromGlobals H_reachedInAll H_keptGlobalsUsed H_kept n_H_cells f_H_cells (wE G lE v) = some (nE G lE v) := by
  intros
  obtain ⟨hG, ht, hC, hh, hn'⟩ := eR_hp h
  have h1 := kd_E (N := N) hG hv
  have h3 := nu_E (N := N) hG hv hn' (by omega)
  have h2 : kV G v < 2 := by
    rcases v with n | ⟨k, i⟩ | o
    · show 0 < 2; omega
    · show 1 < 2; omega
    · exact absurd rfl (hn o)
  unfold m_Heap_told
  simp (disch := omega) only [q_o, q_0, q_1, q_2, q_3, q_4, q_5, q_6, q_7, q_8, q_9, q_10, q_11, q_12, q_13, q_14, q_15, q_16, q_17, q_18, q_19, q_20, q_21, q_22, q_23, q_24, q_25, q_26, q_27, q_28, q_29, q_30, q_31, q_32, q_33, q_34, q_35, q_36, q_37, q_38, q_39, q_40, q_41, q_42, q_43, q_44, q_45, q_46, q_47, q_48, q_49, q_50, q_51, q_52, q_53, q_63, q_64, q_126, q_128, q_255, q_512, q_1024, q_1026, q_2000, q_2048, q_2049, q_4095, q_4096, q_8192, q_16383, q_65535, q_65536, q_69632, q_131072, q_132000, q_262144, q_300000, q_1000000, q_lt_t, q_lt_f, q_le_t, q_le_f, q_eq_t, q_eq_f, q_cl, q_add, q_mul, q_sub, q_nle_f, q_nle_t, q_nlt_f, q_nlt_t, q_neq_f, eq_self, q_n1, q_n2, q_m1, q_m1', q_m2, q_m21, q_m0, q_ml, upd_e, upd_n, updL_e, updL_n, updF_e, updF_n, let_d, tk_s, bind_s, or_false, false_or, and_true, true_and, if_true, if_false, ite_true, ite_false, reduceIte, not_true, not_false_iff, Nat.zero_add, Nat.add_zero, Nat.sub_zero, h1, h3]
theorem part_O {o i : Nat} (h : eR nk nm nid G lE gg t gs fr gc hn gb gf gr hF hH hP hD S_top S_frames S_handlers n_S_values f_S_values n_S_bases f_S_bases n_S_floors f_S_floors n_S_returns f_S_returns n_S_closures f_S_closures n_S_handlerFrames f_S_handlerFrames n_S_handlerPlaces f_S_handlerPlaces n_S_handlerHeights f_S_handlerHeights n_S_handlerDepths f_S_handlerDepths H_globalsUsed H_used H_old H_oldLeadsToNew f_H_globals n_H_cells f_H_cells n_H_spare) (ho : o ∈ lE) (hi : 1 ≤ i) (hin : i ≤ gNp G o) : ∀ (H_globalsUsed : Int32) (H_used : Int32) (H_spareUsed : Int32) (H_old : Int32) (H_oldLeadsToNew : Int32) (H_limit : Int32) (H_every : Int32) (H_fresh : Int32) (H_made : Int32) (H_madeLimit : Int32) (H_reachedFromGlobals : Int32) (H_reachedInAll : Int32) (H_keptGlobalsUsed : Int32) (H_kept : Int32), m_Heap_part N H_globalsUsed H_used H_spareUsed H_old H_oldLeadsToNew H_limit H_every H_fresh H_made H_madeLimit H_reachedFromGlobals H_reachedInAll H_keptGlobalsUsed H_kept n_H_cells f_H_cells (wE G lE (vO o)) (nI i) = some (wE G lE (gP G o i)) := by
  intros
  obtain ⟨hG, ht, hC, hh, hn⟩ := eR_hp h
  have hend := adr_end (Z := gZ G) ho
  have hiz := (np_lt hin hi).1
  have h2 : m_Value_number N (wE G lE (vO o)) = some (nI (adr (gZ G) lE o)) := nu_E (N := N) (v := vO o) hG ho hn (by omega)
  have h3 := (hh o ho).2.1 i hi hin
  unfold m_Heap_part
  simp (disch := omega) only [q_o, q_0, q_1, q_2, q_3, q_4, q_5, q_6, q_7, q_8, q_9, q_10, q_11, q_12, q_13, q_14, q_15, q_16, q_17, q_18, q_19, q_20, q_21, q_22, q_23, q_24, q_25, q_26, q_27, q_28, q_29, q_30, q_31, q_32, q_33, q_34, q_35, q_36, q_37, q_38, q_39, q_40, q_41, q_42, q_43, q_44, q_45, q_46, q_47, q_48, q_49, q_50, q_51, q_52, q_53, q_63, q_64, q_126, q_128, q_255, q_512, q_1024, q_1026, q_2000, q_2048, q_2049, q_4095, q_4096, q_8192, q_16383, q_65535, q_65536, q_69632, q_131072, q_132000, q_262144, q_300000, q_1000000, q_lt_t, q_lt_f, q_le_t, q_le_f, q_eq_t, q_eq_f, q_cl, q_add, q_mul, q_sub, q_nle_f, q_nle_t, q_nlt_f, q_nlt_t, q_neq_f, eq_self, q_n1, q_n2, q_m1, q_m1', q_m2, q_m21, q_m0, q_ml, upd_e, upd_n, updL_e, updL_n, updF_e, updF_n, let_d, tk_s, bind_s, or_false, false_or, and_true, true_and, if_true, if_false, ite_true, ite_false, reduceIte, not_true, not_false_iff, Nat.zero_add, Nat.add_zero, Nat.sub_zero, h2, h3]
/-- the value so far from the top, in the reference -/
theorem at_R {d : Nat} (h : rR nk nm nid G lR gg t gs fr gc hn gb gf gr hF hH hP hD I F) (hd : 1 ≤ d) (hdt : d ≤ t) : F 27 (t - d) = tR (gs (t - d)) ∧ F 28 (t - d) = vR G lR (gs (t - d)) ∧ okV nk nm lR (gs (t - d)) := by
  have := h.2.1.1 (t - d) (by omega)
  exact ⟨this.2.1, this.2.2, this.1⟩
theorem scalar_R {d : Nat} (h : rR nk nm nid G lR gg t gs fr gc hn gb gf gr hF hH hP hD I F) (hd : 1 ≤ d) (hdt : d ≤ t) (ht : t ≤ 65536) : m_Model_scalar N I F (nI d) = some (vR G lR (gs (t - d))) := by
  obtain ⟨h1, h2, h3⟩ := at_R h hd hdt
  have h29 := h.1.1
  unfold m_Model_scalar
  simp (disch := omega) only [q_o, q_0, q_1, q_2, q_3, q_4, q_5, q_6, q_7, q_8, q_9, q_10, q_11, q_12, q_13, q_14, q_15, q_16, q_17, q_18, q_19, q_20, q_21, q_22, q_23, q_24, q_25, q_26, q_27, q_28, q_29, q_30, q_31, q_32, q_33, q_34, q_35, q_36, q_37, q_38, q_39, q_40, q_41, q_42, q_43, q_44, q_45, q_46, q_47, q_48, q_49, q_50, q_51, q_52, q_53, q_63, q_64, q_126, q_128, q_255, q_512, q_1024, q_1026, q_2000, q_2048, q_2049, q_4095, q_4096, q_8192, q_16383, q_65535, q_65536, q_69632, q_131072, q_132000, q_262144, q_300000, q_1000000, q_lt_t, q_lt_f, q_le_t, q_le_f, q_eq_t, q_eq_f, q_cl, q_add, q_mul, q_sub, q_nle_f, q_nle_t, q_nlt_f, q_nlt_t, q_neq_f, eq_self, q_n1, q_n2, q_m1, q_m1', q_m2, q_m21, q_m0, q_ml, upd_e, upd_n, updL_e, updL_n, updF_e, updF_n, let_d, tk_s, bind_s, or_false, false_or, and_true, true_and, if_true, if_false, ite_true, ite_false, reduceIte, not_true, not_false_iff, Nat.zero_add, Nat.add_zero, Nat.sub_zero, h29, h2]
theorem is_O {d K o : Nat} (h : rR nk nm nid G lR gg t gs fr gc hn gb gf gr hF hH hP hD I F) (hd : 1 ≤ d) (hdt : d ≤ t) (ht : t ≤ 65536) (hK : K < 100) (hv : gs (t - d) = vO o) : m_Model_is N I F (nI d) (nI K) = some (nI (if gK G o = K then 1 else 0)) := by
  obtain ⟨h1, h2, h3⟩ := at_R h hd hdt
  have h29 := h.1.1
  obtain ⟨c1, c2, c3, c4, c5, c6⟩ := h.2.2
  rw [hv] at h1 h2 h3
  have ho : o ∈ lR := h3
  have h1 : F 27 (t - d) = nI 2 := h1
  have h2 : F 28 (t - d) = nI (adr (gZ G) lR o) := h2
  have hO := (c1.2 o ho).2.1
  have hk := okO_K hO
  have hb := adr_bd ho (G := G) c4
  have hka := kindAt_R (N := N) (I := I) (F := F) (a := adr (gZ G) lR o) hO hb.1 (c5 o ho).1
  unfold m_Model_is
  by_cases e : gK G o = K
  · simp (disch := omega) only [q_o, q_0, q_1, q_2, q_3, q_4, q_5, q_6, q_7, q_8, q_9, q_10, q_11, q_12, q_13, q_14, q_15, q_16, q_17, q_18, q_19, q_20, q_21, q_22, q_23, q_24, q_25, q_26, q_27, q_28, q_29, q_30, q_31, q_32, q_33, q_34, q_35, q_36, q_37, q_38, q_39, q_40, q_41, q_42, q_43, q_44, q_45, q_46, q_47, q_48, q_49, q_50, q_51, q_52, q_53, q_63, q_64, q_126, q_128, q_255, q_512, q_1024, q_1026, q_2000, q_2048, q_2049, q_4095, q_4096, q_8192, q_16383, q_65535, q_65536, q_69632, q_131072, q_132000, q_262144, q_300000, q_1000000, q_lt_t, q_lt_f, q_le_t, q_le_f, q_eq_t, q_eq_f, q_cl, q_add, q_mul, q_sub, q_nle_f, q_nle_t, q_nlt_f, q_nlt_t, q_neq_f, eq_self, q_n1, q_n2, q_m1, q_m1', q_m2, q_m21, q_m0, q_ml, upd_e, upd_n, updL_e, updL_n, updF_e, updF_n, let_d, tk_s, bind_s, or_false, false_or, and_true, true_and, if_true, if_false, ite_true, ite_false, reduceIte, not_true, not_false_iff, Nat.zero_add, Nat.add_zero, Nat.sub_zero, h29, h1, h2, hka, e]
  · simp (disch := omega) only [q_o, q_0, q_1, q_2, q_3, q_4, q_5, q_6, q_7, q_8, q_9, q_10, q_11, q_12, q_13, q_14, q_15, q_16, q_17, q_18, q_19, q_20, q_21, q_22, q_23, q_24, q_25, q_26, q_27, q_28, q_29, q_30, q_31, q_32, q_33, q_34, q_35, q_36, q_37, q_38, q_39, q_40, q_41, q_42, q_43, q_44, q_45, q_46, q_47, q_48, q_49, q_50, q_51, q_52, q_53, q_63, q_64, q_126, q_128, q_255, q_512, q_1024, q_1026, q_2000, q_2048, q_2049, q_4095, q_4096, q_8192, q_16383, q_65535, q_65536, q_69632, q_131072, q_132000, q_262144, q_300000, q_1000000, q_lt_t, q_lt_f, q_le_t, q_le_f, q_eq_t, q_eq_f, q_cl, q_add, q_mul, q_sub, q_nle_f, q_nle_t, q_nlt_f, q_nlt_t, q_neq_f, eq_self, q_n1, q_n2, q_m1, q_m1', q_m2, q_m21, q_m0, q_ml, upd_e, upd_n, updL_e, updL_n, updF_e, updF_n, let_d, tk_s, bind_s, or_false, false_or, and_true, true_and, if_true, if_false, ite_true, ite_false, reduceIte, not_true, not_false_iff, Nat.zero_add, Nat.add_zero, Nat.sub_zero, h29, h1, h2, hka]
theorem is_V {d K : Nat} (h : rR nk nm nid G lR gg t gs fr gc hn gb gf gr hF hH hP hD I F) (hd : 1 ≤ d) (hdt : d ≤ t) (ht : t ≤ 65536) (hv : ∀ o, gs (t - d) ≠ vO o) : m_Model_is N I F (nI d) (nI K) = some (nI 0) := by
  obtain ⟨h1, h2, h3⟩ := at_R h hd hdt
  have h29 := h.1.1
  have h4 := tR_ne h3 hv
  unfold m_Model_is
  simp (disch := omega) only [q_o, q_0, q_1, q_2, q_3, q_4, q_5, q_6, q_7, q_8, q_9, q_10, q_11, q_12, q_13, q_14, q_15, q_16, q_17, q_18, q_19, q_20, q_21, q_22, q_23, q_24, q_25, q_26, q_27, q_28, q_29, q_30, q_31, q_32, q_33, q_34, q_35, q_36, q_37, q_38, q_39, q_40, q_41, q_42, q_43, q_44, q_45, q_46, q_47, q_48, q_49, q_50, q_51, q_52, q_53, q_63, q_64, q_126, q_128, q_255, q_512, q_1024, q_1026, q_2000, q_2048, q_2049, q_4095, q_4096, q_8192, q_16383, q_65535, q_65536, q_69632, q_131072, q_132000, q_262144, q_300000, q_1000000, q_lt_t, q_lt_f, q_le_t, q_le_f, q_eq_t, q_eq_f, q_cl, q_add, q_mul, q_sub, q_nle_f, q_nle_t, q_nlt_f, q_nlt_t, q_neq_f, eq_self, q_n1, q_n2, q_m1, q_m1', q_m2, q_m21, q_m0, q_ml, upd_e, upd_n, updL_e, updL_n, updF_e, updF_n, let_d, tk_s, bind_s, or_false, false_or, and_true, true_and, if_true, if_false, ite_true, ite_false, reduceIte, not_true, not_false_iff, Nat.zero_add, Nat.add_zero, Nat.sub_zero, h29, h1, h4]
theorem isSc_S {d : Nat} {n : Int32} (h : rR nk nm nid G lR gg t gs fr gc hn gb gf gr hF hH hP hD I F) (hd : 1 ≤ d) (hdt : d ≤ t) (ht : t ≤ 65536) (hv : gs (t - d) = vS n) : m_Model_isScalar N I F (nI d) = some (nI 1) := by
  obtain ⟨h1, h2, h3⟩ := at_R h hd hdt
  have h29 := h.1.1
  rw [hv] at h1
  have h1 : F 27 (t - d) = nI 0 := h1
  unfold m_Model_isScalar
  simp (disch := omega) only [q_o, q_0, q_1, q_2, q_3, q_4, q_5, q_6, q_7, q_8, q_9, q_10, q_11, q_12, q_13, q_14, q_15, q_16, q_17, q_18, q_19, q_20, q_21, q_22, q_23, q_24, q_25, q_26, q_27, q_28, q_29, q_30, q_31, q_32, q_33, q_34, q_35, q_36, q_37, q_38, q_39, q_40, q_41, q_42, q_43, q_44, q_45, q_46, q_47, q_48, q_49, q_50, q_51, q_52, q_53, q_63, q_64, q_126, q_128, q_255, q_512, q_1024, q_1026, q_2000, q_2048, q_2049, q_4095, q_4096, q_8192, q_16383, q_65535, q_65536, q_69632, q_131072, q_132000, q_262144, q_300000, q_1000000, q_lt_t, q_lt_f, q_le_t, q_le_f, q_eq_t, q_eq_f, q_cl, q_add, q_mul, q_sub, q_nle_f, q_nle_t, q_nlt_f, q_nlt_t, q_neq_f, eq_self, q_n1, q_n2, q_m1, q_m1', q_m2, q_m21, q_m0, q_ml, upd_e, upd_n, updL_e, updL_n, updF_e, updF_n, let_d, tk_s, bind_s, or_false, false_or, and_true, true_and, if_true, if_false, ite_true, ite_false, reduceIte, not_true, not_false_iff, Nat.zero_add, Nat.add_zero, Nat.sub_zero, h29, h1]
theorem isSc_V {d : Nat} (h : rR nk nm nid G lR gg t gs fr gc hn gb gf gr hF hH hP hD I F) (hd : 1 ≤ d) (hdt : d ≤ t) (ht : t ≤ 65536) (hv : ∀ n, gs (t - d) ≠ vS n) : m_Model_isScalar N I F (nI d) = some (nI 0) := by
  obtain ⟨h1, h2, h3⟩ := at_R h hd hdt
  have h29 := h.1.1
  have h4 : ¬ tR (gs (t - d)) = nI 0 := by
    revert hv h3
    generalize gs (t - d) = v
    intro hv h3
    rcases v with n | ⟨k, i⟩ | o
    · exact absurd rfl (hv n)
    · have := h3.1
      show ¬ nI (1 + 256 * k) = nI 0
      rw [q_eq_f (by omega) (by omega) (by omega)]
      exact id
    · show ¬ nI 2 = nI 0
      rw [q_eq_f (by omega) (by omega) (by omega)]
      exact id
  unfold m_Model_isScalar
  simp (disch := omega) only [q_o, q_0, q_1, q_2, q_3, q_4, q_5, q_6, q_7, q_8, q_9, q_10, q_11, q_12, q_13, q_14, q_15, q_16, q_17, q_18, q_19, q_20, q_21, q_22, q_23, q_24, q_25, q_26, q_27, q_28, q_29, q_30, q_31, q_32, q_33, q_34, q_35, q_36, q_37, q_38, q_39, q_40, q_41, q_42, q_43, q_44, q_45, q_46, q_47, q_48, q_49, q_50, q_51, q_52, q_53, q_63, q_64, q_126, q_128, q_255, q_512, q_1024, q_1026, q_2000, q_2048, q_2049, q_4095, q_4096, q_8192, q_16383, q_65535, q_65536, q_69632, q_131072, q_132000, q_262144, q_300000, q_1000000, q_lt_t, q_lt_f, q_le_t, q_le_f, q_eq_t, q_eq_f, q_cl, q_add, q_mul, q_sub, q_nle_f, q_nle_t, q_nlt_f, q_nlt_t, q_neq_f, eq_self, q_n1, q_n2, q_m1, q_m1', q_m2, q_m21, q_m0, q_ml, upd_e, upd_n, updL_e, updL_n, updF_e, updF_n, let_d, tk_s, bind_s, or_false, false_or, and_true, true_and, if_true, if_false, ite_true, ite_false, reduceIte, not_true, not_false_iff, Nat.zero_add, Nat.add_zero, Nat.sub_zero, h29, h1, h4]
theorem isNm_N {d k i : Nat} (h : rR nk nm nid G lR gg t gs fr gc hn gb gf gr hF hH hP hD I F) (hd : 1 ≤ d) (hdt : d ≤ t) (ht : t ≤ 65536) (hv : gs (t - d) = vN k i) : m_Model_isName N I F (nI d) = some (nI 1) := by
  obtain ⟨h1, h2, h3⟩ := at_R h hd hdt
  have h29 := h.1.1
  rw [hv] at h1 h3
  have hk := h3.1
  have h1 : F 27 (t - d) = nI (1 + 256 * k) := h1
  have e : (1 + 256 * k) % 256 = 1 := by omega
  unfold m_Model_isName
  simp (disch := omega) only [q_o, q_0, q_1, q_2, q_3, q_4, q_5, q_6, q_7, q_8, q_9, q_10, q_11, q_12, q_13, q_14, q_15, q_16, q_17, q_18, q_19, q_20, q_21, q_22, q_23, q_24, q_25, q_26, q_27, q_28, q_29, q_30, q_31, q_32, q_33, q_34, q_35, q_36, q_37, q_38, q_39, q_40, q_41, q_42, q_43, q_44, q_45, q_46, q_47, q_48, q_49, q_50, q_51, q_52, q_53, q_63, q_64, q_126, q_128, q_255, q_512, q_1024, q_1026, q_2000, q_2048, q_2049, q_4095, q_4096, q_8192, q_16383, q_65535, q_65536, q_69632, q_131072, q_132000, q_262144, q_300000, q_1000000, q_lt_t, q_lt_f, q_le_t, q_le_f, q_eq_t, q_eq_f, q_cl, q_add, q_mul, q_sub, q_nle_f, q_nle_t, q_nlt_f, q_nlt_t, q_neq_f, eq_self, q_n1, q_n2, q_m1, q_m1', q_m2, q_m21, q_m0, q_ml, upd_e, upd_n, updL_e, updL_n, updF_e, updF_n, let_d, tk_s, bind_s, or_false, false_or, and_true, true_and, if_true, if_false, ite_true, ite_false, reduceIte, not_true, not_false_iff, Nat.zero_add, Nat.add_zero, Nat.sub_zero, h29, h1, r_and, e]
theorem isNm_V {d : Nat} (h : rR nk nm nid G lR gg t gs fr gc hn gb gf gr hF hH hP hD I F) (hd : 1 ≤ d) (hdt : d ≤ t) (ht : t ≤ 65536) (hv : ∀ k i, gs (t - d) ≠ vN k i) : m_Model_isName N I F (nI d) = some (nI 0) := by
  obtain ⟨h1, h2, h3⟩ := at_R h hd hdt
  have h29 := h.1.1
  have h4 : tR (gs (t - d)) &&& nI 255 = nI 0 ∨ tR (gs (t - d)) &&& nI 255 = nI 2 := by
    revert hv h3
    generalize gs (t - d) = v
    intro hv h3
    rcases v with n | ⟨k, i⟩ | o
    · exact Or.inl (r_and 0 (by omega))
    · exact absurd rfl (hv k i)
    · exact Or.inr (r_and 2 (by omega))
  unfold m_Model_isName
  rcases h4 with h4 | h4
  · simp (disch := omega) only [q_o, q_0, q_1, q_2, q_3, q_4, q_5, q_6, q_7, q_8, q_9, q_10, q_11, q_12, q_13, q_14, q_15, q_16, q_17, q_18, q_19, q_20, q_21, q_22, q_23, q_24, q_25, q_26, q_27, q_28, q_29, q_30, q_31, q_32, q_33, q_34, q_35, q_36, q_37, q_38, q_39, q_40, q_41, q_42, q_43, q_44, q_45, q_46, q_47, q_48, q_49, q_50, q_51, q_52, q_53, q_63, q_64, q_126, q_128, q_255, q_512, q_1024, q_1026, q_2000, q_2048, q_2049, q_4095, q_4096, q_8192, q_16383, q_65535, q_65536, q_69632, q_131072, q_132000, q_262144, q_300000, q_1000000, q_lt_t, q_lt_f, q_le_t, q_le_f, q_eq_t, q_eq_f, q_cl, q_add, q_mul, q_sub, q_nle_f, q_nle_t, q_nlt_f, q_nlt_t, q_neq_f, eq_self, q_n1, q_n2, q_m1, q_m1', q_m2, q_m21, q_m0, q_ml, upd_e, upd_n, updL_e, updL_n, updF_e, updF_n, let_d, tk_s, bind_s, or_false, false_or, and_true, true_and, if_true, if_false, ite_true, ite_false, reduceIte, not_true, not_false_iff, Nat.zero_add, Nat.add_zero, Nat.sub_zero, h29, h1, h4]
  · simp (disch := omega) only [q_o, q_0, q_1, q_2, q_3, q_4, q_5, q_6, q_7, q_8, q_9, q_10, q_11, q_12, q_13, q_14, q_15, q_16, q_17, q_18, q_19, q_20, q_21, q_22, q_23, q_24, q_25, q_26, q_27, q_28, q_29, q_30, q_31, q_32, q_33, q_34, q_35, q_36, q_37, q_38, q_39, q_40, q_41, q_42, q_43, q_44, q_45, q_46, q_47, q_48, q_49, q_50, q_51, q_52, q_53, q_63, q_64, q_126, q_128, q_255, q_512, q_1024, q_1026, q_2000, q_2048, q_2049, q_4095, q_4096, q_8192, q_16383, q_65535, q_65536, q_69632, q_131072, q_132000, q_262144, q_300000, q_1000000, q_lt_t, q_lt_f, q_le_t, q_le_f, q_eq_t, q_eq_f, q_cl, q_add, q_mul, q_sub, q_nle_f, q_nle_t, q_nlt_f, q_nlt_t, q_neq_f, eq_self, q_n1, q_n2, q_m1, q_m1', q_m2, q_m21, q_m0, q_ml, upd_e, upd_n, updL_e, updL_n, updF_e, updF_n, let_d, tk_s, bind_s, or_false, false_or, and_true, true_and, if_true, if_false, ite_true, ite_false, reduceIte, not_true, not_false_iff, Nat.zero_add, Nat.add_zero, Nat.sub_zero, h29, h1, h4]
/-- an object that stands on both sides, in the reference -/
theorem obj_R {o : Nat} (h : rR nk nm nid G lR gg t gs fr gc hn gb gf gr hF hH hP hD I F) (ho : o ∈ lR) : adr (gZ G) lR o + gZ G o ≤ 131072 ∧ 1 ≤ gZ G o ∧ okO nk nm G o ∧ F 0 (adr (gZ G) lR o) = thR G o ∧ F 1 (adr (gZ G) lR o) = chR G o ∧ (∀ i, 1 ≤ i → i ≤ gNp G o → F 0 (adr (gZ G) lR o + i) = tR (gP G o i) ∧ F 1 (adr (gZ G) lR o + i) = vR G lR (gP G o i) ∧ okV nk nm lR (gP G o i)) := by
  obtain ⟨c1, c2, c3, c4, c5, c6⟩ := h.2.2
  have hb := adr_bd ho (G := G) c4
  obtain ⟨a1, a2, a3, a4⟩ := c5 o ho
  exact ⟨hb.2.1, hb.2.2, (c1.2 o ho).2.1, a1, a2, fun i h1 h2 => ⟨(a3 i h1 h2).1, (a3 i h1 h2).2, (c1.2 o ho).2.2.1 i h1 h2⟩⟩
end LF
