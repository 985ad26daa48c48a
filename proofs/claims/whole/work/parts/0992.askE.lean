/-! The engine's ask, whole -/
section AK
variable {N : Nat}
variable {nk : Nat → Nat} {nm : Nat} {nid : Nat} {G : Nat → GO} {lE : List Nat} {gg : Nat → AV} {t : Nat} {gs : Nat → AV} {fr : Nat} {gc : Nat → AV} {hn : Nat} {gb : Nat → Nat} {gf : Nat → Nat} {gr : Nat → Int32} {hF : Nat → Nat} {hH : Nat → Nat} {hP : Nat → Int32} {hD : Nat → Int32} {lR : List Nat} {P_size : Int32} {P_constants : Int32} {P_closed : Int32} {P_open : Int32} {O_size : Int32} {S_top : Int32} {S_frames : Int32} {S_handlers : Int32} {H_globalsUsed : Int32} {H_used : Int32} {H_spareUsed : Int32} {H_old : Int32} {H_oldLeadsToNew : Int32} {H_limit : Int32} {H_every : Int32} {H_fresh : Int32} {H_made : Int32} {H_madeLimit : Int32} {H_reachedFromGlobals : Int32} {H_reachedInAll : Int32} {H_keptGlobalsUsed : Int32} {H_kept : Int32} {B_names : Int32} {Q_size : Int32} {M_status : Int32} {M_place : Int32} {M_next : Int32} {M_fuel : Int32} {M_ticks : Int32} {M_depth : Int32} {M_depthLimit : Int32} {M_done : Int32} {n_P_words : Nat} {f_P_words : Nat → Int32} {n_P_bytes : Nat} {f_P_bytes : Nat → Int32} {n_P_ends : Nat} {f_P_ends : Nat → Int32} {n_O_bytes : Nat} {f_O_bytes : Nat → Int32} {n_S_values : Nat} {f_S_values : Nat → Int64} {n_S_bases : Nat} {f_S_bases : Nat → Int32} {n_S_floors : Nat} {f_S_floors : Nat → Int32} {n_S_returns : Nat} {f_S_returns : Nat → Int32} {n_S_closures : Nat} {f_S_closures : Nat → Int64} {n_S_handlerFrames : Nat} {f_S_handlerFrames : Nat → Int32} {n_S_handlerPlaces : Nat} {f_S_handlerPlaces : Nat → Int32} {n_S_handlerHeights : Nat} {f_S_handlerHeights : Nat → Int32} {n_S_handlerDepths : Nat} {f_S_handlerDepths : Nat → Int32} {n_H_globals : Nat} {f_H_globals : Nat → Int64} {n_H_cells : Nat} {f_H_cells : Nat → Int64} {n_H_spare : Nat} {f_H_spare : Nat → Int64} {n_Q_links : Nat} {f_Q_links : Nat → Int32} {n_Q_pairs : Nat} {f_Q_pairs : Nat → Int64} {I : Nat → Int32} {F : Nat → Nat → Int32}
theorem heE_c {l : List Nat} {c c' : Nat → Int64} (h : heE G l c) (hc : ∀ a, a < tot (gZ G) l → c' a = c a) : heE G l c' := by
  intro o ho
  obtain ⟨a1, a2, a3⟩ := h o ho
  have he := adr_end (Z := gZ G) ho
  have hz := gZ_pos G o
  refine ⟨?_, fun i hi hin => ?_, fun e6 j hj => ?_⟩
  · rw [hc _ (by omega)]; exact a1
  · have := (np_lt hin hi).1
    rw [hc _ (by omega)]; exact a2 i hi hin
  · have hz6 : gZ G o = 1 + (gC G o + 3) / 4 := by unfold gZ; rw [if_pos e6]
    rw [hc _ (by omega)]; exact a3 e6 j hj
theorem rtA_E (he : eR nk nm nid G lE gg t gs fr gc hn gb gf gr hF hH hP hD S_top S_frames S_handlers n_S_values f_S_values n_S_bases f_S_bases n_S_floors f_S_floors n_S_returns f_S_returns n_S_closures f_S_closures n_S_handlerFrames f_S_handlerFrames n_S_handlerPlaces f_S_handlerPlaces n_S_handlerHeights f_S_handlerHeights n_S_handlerDepths f_S_handlerDepths H_globalsUsed H_used H_old H_oldLeadsToNew f_H_globals n_H_cells f_H_cells n_H_spare) : ∀ p, rtA gg t gs fr gc p → p ∈ lE := by
  intro p hp
  rcases hp with ⟨k, hk, hp⟩ | ⟨k, hk, hp⟩ | ⟨k, hk, hp⟩
  · exact okV_mem (he.2.2.2.2.1.2.2.2.2.1 k hk).2 hp
  · exact okV_mem (he.2.2.2.1.1 k hk).2 hp
  · exact okV_mem (he.2.2.2.1.2 k hk).2 hp
theorem pot_le {m n : Nat} (h : n ≤ m) (hm : 1 ≤ m) : pot m n ≤ 5 * m + 9366 := by
  unfold pot
  split <;> omega
theorem ask_E0 {n cnt L : Nat} (hN : 400000 ≤ N) (he : eR nk nm nid G lE gg t gs fr gc hn gb gf gr hF hH hP hD S_top S_frames S_handlers n_S_values f_S_values n_S_bases f_S_bases n_S_floors f_S_floors n_S_returns f_S_returns n_S_closures f_S_closures n_S_handlerFrames f_S_handlerFrames n_S_handlerPlaces f_S_handlerPlaces n_S_handlerHeights f_S_handlerHeights n_S_handlerDepths f_S_handlerDepths H_globalsUsed H_used H_old H_oldLeadsToNew f_H_globals n_H_cells f_H_cells n_H_spare) (hnn : n ≤ 400000) (hcn : cnt ≤ 400000) (hL : L ≤ 131072) (hc0 : cnt = 0) (hmd : True) :
    ∃ (b : Int32) (l' : List Nat) (g' cl' va' c' sp' : Nat → Int64) (fresh' made' old' olt' rG' rA' su' : Int32) (nC' nSp' cc ss : Nat), m_Heap_ask N S_top S_frames S_handlers H_globalsUsed H_used H_spareUsed H_old H_oldLeadsToNew (nI L) H_every H_fresh H_made H_madeLimit H_reachedFromGlobals H_reachedInAll H_keptGlobalsUsed H_kept n_S_values f_S_values n_S_closures f_S_closures 2049 f_H_globals n_H_cells f_H_cells n_H_spare f_H_spare (nI n) (nI cnt) = some ((b, g', cl', va', fresh', made', old', olt', rG', rA', su', nI (tot (gZ G) l'), nC', c', nSp', sp'), cc, ss) ∧ eR nk nm nid G l' gg t gs fr gc hn gb gf gr hF hH hP hD S_top S_frames S_handlers n_S_values va' n_S_bases f_S_bases n_S_floors f_S_floors n_S_returns f_S_returns n_S_closures cl' n_S_handlerFrames f_S_handlerFrames n_S_handlerPlaces f_S_handlerPlaces n_S_handlerHeights f_S_handlerHeights n_S_handlerDepths f_S_handlerDepths H_globalsUsed (nI (tot (gZ G) l')) old' olt' g' nC' c' nSp' ∧
      ((b = nI 1 ∧ fits' G (rtA gg t gs fr gc) n L ∧ tot (gZ G) l' + n ≤ L ∧ tot (gZ G) l' + n ≤ nC' ∧ made' = H_made + nI cnt) ∨ (b = nI 0 ∧ ¬ fits' G (rtA gg t gs fr gc) n L ∧ made' = H_made)) ∧ (nC' = n_H_cells ∨ 2 * n_H_cells ≤ nC' ∨ nC' = 131072) ∧ n_H_cells ≤ nC' ∧ ss + 150 * cc + pot 131072 n_H_cells + pot 131072 n_H_spare ≤ pot 131072 nC' + pot 131072 nSp' := by
  obtain ⟨q1, q2, q3, qt, qs, qh, qb, qf, q4, q5, q6, q7, q8, q9, qx, qy, qz⟩ := frE he
  subst qt qs qh
  obtain ⟨e1, e2, e3, e4, e5, e6, e7⟩ := he
  have e2' := e2
  obtain ⟨l1, l2, l3, l4, l5, l6, l7, l8, l9, l10, l11, l12, l13, l14, l15, l16⟩ := e2
  have hv1 := e5.2.1
  subst hv1
  obtain ⟨c1, g1, cl1, va1, sp1, m1, fr1, ol1, ot1, rg1, ra1, su1, ns1, cc1, ss1, a1, a2, a3, a4⟩ := ask1_E (N := N) (nB := n_S_closures) (sp := f_H_spare) (fresh := H_fresh) (rG := H_reachedFromGlobals) (rA := H_reachedInAll) (su := H_spareUsed) (n := n) (L := L) (by omega) e7 e5 e4 l14 l15 ⟨q6, l2, by omega, by omega⟩ hnn hL (nI hn) H_every H_made H_madeLimit H_keptGlobalsUsed H_kept
  obtain ⟨c2, g2, cl2, va2, sp2, m2, fr2, ol2, ot2, rg2, ra2, su2, ns2, cc2, ss2, b1, b2, b3, b4, b5⟩ := ask4_E (N := N) (nB := n_S_closures) (sp := sp1) (fresh := fr1) (rG := rg1) (rA := ra1) (su := su1) (n := n) (L := L) (nSp := ns1) (by omega) e7 a2 a3 l14 (by omega) ⟨q6, l2, by omega, by omega⟩ hnn hL (nI hn) H_every H_made H_madeLimit H_keptGlobalsUsed H_kept
  have hns : ns2 ≤ 131072 ∧ (ns2 = 0 ∨ ns2 = n_H_cells ∨ 2 * ns2 ≤ n_H_cells ∨ n_H_cells = 131072) ∧ ss1 + ss2 + 150 * (cc1 + cc2) + pot 131072 n_H_spare ≤ pot 131072 ns2 := by
    have hpn : n_H_spare < n_H_cells → n_H_cells + 150 + pot 131072 n_H_spare ≤ pot 131072 n_H_cells := by
      intro hlt
      by_cases h0 : n_H_spare = 0
      · rw [h0, pot_0 (by omega)]
        unfold pot
        split <;> omega
      · by_cases hm : n_H_cells = 131072
        · exact pot_new (by omega) (Or.inl ⟨hm, by omega⟩)
        · exact pot_new (by omega) (Or.inr ⟨by omega, by omega, by omega⟩)
    rcases a4 with ⟨x1, x2, x3⟩ | ⟨x1, x2, x3, x4⟩
    · rcases b4 with ⟨y1, y2, y3⟩ | ⟨y1, y2, y3, y4⟩
      · rw [y1, x1, x2, x3, y2, y3]; exact ⟨l15, l16, by omega⟩
      · rw [x1] at y1
        have := hpn y1
        rw [y2, x2, x3, y3, y4]; exact ⟨l14, Or.inr (Or.inl rfl), by omega⟩
    · have := hpn x1
      rcases b4 with ⟨y1, y2, y3⟩ | ⟨y1, y2, y3, y4⟩
      · rw [y1, x2, x3, x4, y2, y3]; exact ⟨l14, Or.inr (Or.inl rfl), by omega⟩
      · omega
  have hE2 : eR nk nm nid G m2 gg t gs fr gc hn gb gf gr hF hH hP hD (nI t) (nI fr) (nI hn) n_S_values va2 n_S_bases f_S_bases n_S_floors f_S_floors n_S_returns f_S_returns n_S_closures cl2 n_S_handlerFrames f_S_handlerFrames n_S_handlerPlaces f_S_handlerPlaces n_S_handlerHeights f_S_handlerHeights n_S_handlerDepths f_S_handlerDepths H_globalsUsed (nI (tot (gZ G) m2)) ol2 ot2 g2 n_H_cells c2 ns2 := ⟨e1, ⟨l1, l2, l3, l4, l5, l6, l7, l8, l9, l10, l11, l12, l13, l14, hns.1, hns.2.1⟩, e3, b3, b2, e6, e7⟩
  have hrt := rtA_E hE2
  have htot := b2.2.2.1
  by_cases hfit : tot (gZ G) m2 + n ≤ L
  · have hfits : fits' G (rtA gg t gs fr gc) n L := by
      intro m hm1 hm2
      have : tot (gZ G) m ≤ tot (gZ G) m2 := tot_sub hm1 (fun o ho => cls_rch (wf_cls b2.1) hrt (hm2 o ho))
      omega
    by_cases hle : tot (gZ G) m2 + n ≤ n_H_cells
    · refine ⟨nI 1, m2, g2, cl2, va2, c2, sp2, fr2, H_made + nI cnt, ol2, ot2, rg2, ra2, su2, n_H_cells, ns2, cc2 + cc1, ss2 + ss1, ?_, hE2, Or.inl ⟨rfl, hfits, hfit, hle, rfl⟩, Or.inl rfl, by omega, by omega⟩
      unfold m_Heap_ask
      simp (disch := omega) only [q_o, q_0, q_1, q_2, q_3, q_4, q_5, q_6, q_7, q_8, q_9, q_10, q_11, q_12, q_13, q_14, q_15, q_16, q_17, q_18, q_19, q_20, q_21, q_22, q_23, q_24, q_25, q_26, q_27, q_28, q_29, q_30, q_31, q_32, q_33, q_34, q_35, q_36, q_37, q_38, q_39, q_40, q_41, q_42, q_43, q_44, q_45, q_46, q_47, q_48, q_49, q_50, q_51, q_52, q_53, q_63, q_64, q_126, q_128, q_255, q_512, q_1024, q_1026, q_2000, q_2048, q_2049, q_4095, q_4096, q_8192, q_16383, q_65535, q_65536, q_69632, q_131072, q_132000, q_262144, q_300000, q_1000000, q_lt_t, q_lt_f, q_le_t, q_le_f, q_eq_t, q_eq_f, q_cl, q_add, q_mul, q_sub, q_nle_f, q_nle_t, q_nlt_f, q_nlt_t, q_neq_f, eq_self, q_n1, q_n2, q_m1, q_m1', q_m2, q_m21, q_m0, q_ml, upd_e, upd_n, updL_e, updL_n, updF_e, updF_n, let_d, tk_s, bind_s, or_false, false_or, and_true, true_and, if_true, if_false, ite_true, ite_false, reduceIte, not_true, not_false_iff, Nat.zero_add, Nat.add_zero, Nat.sub_zero, hc0, hc0, a1, b1, tk_tk]
    · have hl := longer_E (N := N) (n := n_H_cells) (need := tot (gZ G) m2 + n) (m := 131072) (by omega) (by omega) (by omega)
      have hc := copyJ_E (N := N) (n := n_H_cells) (m := min 131072 (max (tot (gZ G) m2 + n) (2 * n_H_cells))) (f := c2) (by omega) (by omega)
      have hp := pot_new (n := n_H_cells) (m := 131072) (k := min 131072 (max (tot (gZ G) m2 + n) (2 * n_H_cells))) (by omega) (by omega)
      have hM1 : tot (gZ G) m2 + n ≤ min 131072 (max (tot (gZ G) m2 + n) (2 * n_H_cells)) := by omega
      have hM2 : n_H_cells < min 131072 (max (tot (gZ G) m2 + n) (2 * n_H_cells)) := by omega
      have hM3 : min 131072 (max (tot (gZ G) m2 + n) (2 * n_H_cells)) ≤ 131072 := by omega
      have hM4 : 2 * n_H_cells ≤ min 131072 (max (tot (gZ G) m2 + n) (2 * n_H_cells)) ∨ min 131072 (max (tot (gZ G) m2 + n) (2 * n_H_cells)) = 131072 := by omega
      revert hl hc hp hM1 hM2 hM3 hM4
      generalize min 131072 (max (tot (gZ G) m2 + n) (2 * n_H_cells)) = M
      intro hl hc hp hM1 hM2 hM3 hM4
      refine ⟨nI 1, m2, g2, cl2, va2, va_cpy c2 (fun _ => 0) 0 0 n_H_cells, sp2, fr2, H_made + nI cnt, ol2, ot2, rg2, ra2, su2, M, ns2, 1 + cc2 + cc1, M + ss2 + ss1, ?_, ⟨e1, ⟨l1, l2, l3, l4, l5, l6, l7, l8, l9, l10, l11, l12, by omega, hM3, hns.1, by omega⟩, e3, b3, ⟨b2.1, rfl, by omega, heE_c b2.2.2.2.1 (fun a ha => cpy_lt (by omega)), b2.2.2.2.2⟩, e6, e7⟩, Or.inl ⟨rfl, hfits, hfit, hM1, rfl⟩, Or.inr hM4, by omega, by omega⟩
      unfold m_Heap_ask
      simp (disch := omega) only [q_o, q_0, q_1, q_2, q_3, q_4, q_5, q_6, q_7, q_8, q_9, q_10, q_11, q_12, q_13, q_14, q_15, q_16, q_17, q_18, q_19, q_20, q_21, q_22, q_23, q_24, q_25, q_26, q_27, q_28, q_29, q_30, q_31, q_32, q_33, q_34, q_35, q_36, q_37, q_38, q_39, q_40, q_41, q_42, q_43, q_44, q_45, q_46, q_47, q_48, q_49, q_50, q_51, q_52, q_53, q_63, q_64, q_126, q_128, q_255, q_512, q_1024, q_1026, q_2000, q_2048, q_2049, q_4095, q_4096, q_8192, q_16383, q_65535, q_65536, q_69632, q_131072, q_132000, q_262144, q_300000, q_1000000, q_lt_t, q_lt_f, q_le_t, q_le_f, q_eq_t, q_eq_f, q_cl, q_add, q_mul, q_sub, q_nle_f, q_nle_t, q_nlt_f, q_nlt_t, q_neq_f, eq_self, q_n1, q_n2, q_m1, q_m1', q_m2, q_m21, q_m0, q_ml, upd_e, upd_n, updL_e, updL_n, updF_e, updF_n, let_d, tk_s, bind_s, or_false, false_or, and_true, true_and, if_true, if_false, ite_true, ite_false, reduceIte, not_true, not_false_iff, Nat.zero_add, Nat.add_zero, Nat.sub_zero, hc0, hc0, a1, b1, tk_tk, hl, hc]
  · refine ⟨nI 0, m2, g2, cl2, va2, c2, sp2, fr2, H_made, ol2, ot2, rg2, ra2, su2, n_H_cells, ns2, cc2 + cc1, ss2 + ss1, ?_, hE2, Or.inr ⟨rfl, ?_, rfl⟩, Or.inl rfl, by omega, by omega⟩
    · unfold m_Heap_ask
      simp (disch := omega) only [q_o, q_0, q_1, q_2, q_3, q_4, q_5, q_6, q_7, q_8, q_9, q_10, q_11, q_12, q_13, q_14, q_15, q_16, q_17, q_18, q_19, q_20, q_21, q_22, q_23, q_24, q_25, q_26, q_27, q_28, q_29, q_30, q_31, q_32, q_33, q_34, q_35, q_36, q_37, q_38, q_39, q_40, q_41, q_42, q_43, q_44, q_45, q_46, q_47, q_48, q_49, q_50, q_51, q_52, q_53, q_63, q_64, q_126, q_128, q_255, q_512, q_1024, q_1026, q_2000, q_2048, q_2049, q_4095, q_4096, q_8192, q_16383, q_65535, q_65536, q_69632, q_131072, q_132000, q_262144, q_300000, q_1000000, q_lt_t, q_lt_f, q_le_t, q_le_f, q_eq_t, q_eq_f, q_cl, q_add, q_mul, q_sub, q_nle_f, q_nle_t, q_nlt_f, q_nlt_t, q_neq_f, eq_self, q_n1, q_n2, q_m1, q_m1', q_m2, q_m21, q_m0, q_ml, upd_e, upd_n, updL_e, updL_n, updF_e, updF_n, let_d, tk_s, bind_s, or_false, false_or, and_true, true_and, if_true, if_false, ite_true, ite_false, reduceIte, not_true, not_false_iff, Nat.zero_add, Nat.add_zero, Nat.sub_zero, hc0, hc0, a1, b1, tk_tk]
    · intro hf
      have := hf m2 b2.1.1 (b5.resolve_left hfit)
      omega
theorem ask_E1 {n cnt L : Nat} (hN : 400000 ≤ N) (he : eR nk nm nid G lE gg t gs fr gc hn gb gf gr hF hH hP hD S_top S_frames S_handlers n_S_values f_S_values n_S_bases f_S_bases n_S_floors f_S_floors n_S_returns f_S_returns n_S_closures f_S_closures n_S_handlerFrames f_S_handlerFrames n_S_handlerPlaces f_S_handlerPlaces n_S_handlerHeights f_S_handlerHeights n_S_handlerDepths f_S_handlerDepths H_globalsUsed H_used H_old H_oldLeadsToNew f_H_globals n_H_cells f_H_cells n_H_spare) (hnn : n ≤ 400000) (hcn : cnt ≤ 400000) (hL : L ≤ 131072) (hc0 : 0 < cnt) (hmd : lg_cmp (H_made.toInt64 + (nI cnt).toInt64) H_madeLimit.toInt64 ≤ nI 0) :
    ∃ (b : Int32) (l' : List Nat) (g' cl' va' c' sp' : Nat → Int64) (fresh' made' old' olt' rG' rA' su' : Int32) (nC' nSp' cc ss : Nat), m_Heap_ask N S_top S_frames S_handlers H_globalsUsed H_used H_spareUsed H_old H_oldLeadsToNew (nI L) H_every H_fresh H_made H_madeLimit H_reachedFromGlobals H_reachedInAll H_keptGlobalsUsed H_kept n_S_values f_S_values n_S_closures f_S_closures 2049 f_H_globals n_H_cells f_H_cells n_H_spare f_H_spare (nI n) (nI cnt) = some ((b, g', cl', va', fresh', made', old', olt', rG', rA', su', nI (tot (gZ G) l'), nC', c', nSp', sp'), cc, ss) ∧ eR nk nm nid G l' gg t gs fr gc hn gb gf gr hF hH hP hD S_top S_frames S_handlers n_S_values va' n_S_bases f_S_bases n_S_floors f_S_floors n_S_returns f_S_returns n_S_closures cl' n_S_handlerFrames f_S_handlerFrames n_S_handlerPlaces f_S_handlerPlaces n_S_handlerHeights f_S_handlerHeights n_S_handlerDepths f_S_handlerDepths H_globalsUsed (nI (tot (gZ G) l')) old' olt' g' nC' c' nSp' ∧
      ((b = nI 1 ∧ fits' G (rtA gg t gs fr gc) n L ∧ tot (gZ G) l' + n ≤ L ∧ tot (gZ G) l' + n ≤ nC' ∧ made' = H_made + nI cnt) ∨ (b = nI 0 ∧ ¬ fits' G (rtA gg t gs fr gc) n L ∧ made' = H_made)) ∧ (nC' = n_H_cells ∨ 2 * n_H_cells ≤ nC' ∨ nC' = 131072) ∧ n_H_cells ≤ nC' ∧ ss + 150 * cc + pot 131072 n_H_cells + pot 131072 n_H_spare ≤ pot 131072 nC' + pot 131072 nSp' := by
  obtain ⟨q1, q2, q3, qt, qs, qh, qb, qf, q4, q5, q6, q7, q8, q9, qx, qy, qz⟩ := frE he
  subst qt qs qh
  obtain ⟨e1, e2, e3, e4, e5, e6, e7⟩ := he
  have e2' := e2
  obtain ⟨l1, l2, l3, l4, l5, l6, l7, l8, l9, l10, l11, l12, l13, l14, l15, l16⟩ := e2
  have hv1 := e5.2.1
  subst hv1
  obtain ⟨c1, g1, cl1, va1, sp1, m1, fr1, ol1, ot1, rg1, ra1, su1, ns1, cc1, ss1, a1, a2, a3, a4⟩ := ask5_E (N := N) (nB := n_S_closures) (sp := f_H_spare) (fresh := H_fresh) (rG := H_reachedFromGlobals) (rA := H_reachedInAll) (su := H_spareUsed) (n := n) (L := L) (by omega) e7 e5 e4 l14 l15 ⟨q6, l2, by omega, by omega⟩ hnn hL (nI hn) H_every H_made H_madeLimit H_keptGlobalsUsed H_kept
  obtain ⟨c2, g2, cl2, va2, sp2, m2, fr2, ol2, ot2, rg2, ra2, su2, ns2, cc2, ss2, b1, b2, b3, b4, b5⟩ := ask8_E (N := N) (nB := n_S_closures) (sp := sp1) (fresh := fr1) (rG := rg1) (rA := ra1) (su := su1) (n := n) (L := L) (nSp := ns1) (by omega) e7 a2 a3 l14 (by omega) ⟨q6, l2, by omega, by omega⟩ hnn hL (nI hn) H_every H_made H_madeLimit H_keptGlobalsUsed H_kept
  have hns : ns2 ≤ 131072 ∧ (ns2 = 0 ∨ ns2 = n_H_cells ∨ 2 * ns2 ≤ n_H_cells ∨ n_H_cells = 131072) ∧ ss1 + ss2 + 150 * (cc1 + cc2) + pot 131072 n_H_spare ≤ pot 131072 ns2 := by
    have hpn : n_H_spare < n_H_cells → n_H_cells + 150 + pot 131072 n_H_spare ≤ pot 131072 n_H_cells := by
      intro hlt
      by_cases h0 : n_H_spare = 0
      · rw [h0, pot_0 (by omega)]
        unfold pot
        split <;> omega
      · by_cases hm : n_H_cells = 131072
        · exact pot_new (by omega) (Or.inl ⟨hm, by omega⟩)
        · exact pot_new (by omega) (Or.inr ⟨by omega, by omega, by omega⟩)
    rcases a4 with ⟨x1, x2, x3⟩ | ⟨x1, x2, x3, x4⟩
    · rcases b4 with ⟨y1, y2, y3⟩ | ⟨y1, y2, y3, y4⟩
      · rw [y1, x1, x2, x3, y2, y3]; exact ⟨l15, l16, by omega⟩
      · rw [x1] at y1
        have := hpn y1
        rw [y2, x2, x3, y3, y4]; exact ⟨l14, Or.inr (Or.inl rfl), by omega⟩
    · have := hpn x1
      rcases b4 with ⟨y1, y2, y3⟩ | ⟨y1, y2, y3, y4⟩
      · rw [y1, x2, x3, x4, y2, y3]; exact ⟨l14, Or.inr (Or.inl rfl), by omega⟩
      · omega
  have hE2 : eR nk nm nid G m2 gg t gs fr gc hn gb gf gr hF hH hP hD (nI t) (nI fr) (nI hn) n_S_values va2 n_S_bases f_S_bases n_S_floors f_S_floors n_S_returns f_S_returns n_S_closures cl2 n_S_handlerFrames f_S_handlerFrames n_S_handlerPlaces f_S_handlerPlaces n_S_handlerHeights f_S_handlerHeights n_S_handlerDepths f_S_handlerDepths H_globalsUsed (nI (tot (gZ G) m2)) ol2 ot2 g2 n_H_cells c2 ns2 := ⟨e1, ⟨l1, l2, l3, l4, l5, l6, l7, l8, l9, l10, l11, l12, l13, l14, hns.1, hns.2.1⟩, e3, b3, b2, e6, e7⟩
  have hrt := rtA_E hE2
  have htot := b2.2.2.1
  by_cases hfit : tot (gZ G) m2 + n ≤ L
  · have hfits : fits' G (rtA gg t gs fr gc) n L := by
      intro m hm1 hm2
      have : tot (gZ G) m ≤ tot (gZ G) m2 := tot_sub hm1 (fun o ho => cls_rch (wf_cls b2.1) hrt (hm2 o ho))
      omega
    by_cases hle : tot (gZ G) m2 + n ≤ n_H_cells
    · refine ⟨nI 1, m2, g2, cl2, va2, c2, sp2, fr2, H_made + nI cnt, ol2, ot2, rg2, ra2, su2, n_H_cells, ns2, cc2 + cc1, ss2 + ss1, ?_, hE2, Or.inl ⟨rfl, hfits, hfit, hle, rfl⟩, Or.inl rfl, by omega, by omega⟩
      unfold m_Heap_ask
      simp (disch := omega) only [q_o, q_0, q_1, q_2, q_3, q_4, q_5, q_6, q_7, q_8, q_9, q_10, q_11, q_12, q_13, q_14, q_15, q_16, q_17, q_18, q_19, q_20, q_21, q_22, q_23, q_24, q_25, q_26, q_27, q_28, q_29, q_30, q_31, q_32, q_33, q_34, q_35, q_36, q_37, q_38, q_39, q_40, q_41, q_42, q_43, q_44, q_45, q_46, q_47, q_48, q_49, q_50, q_51, q_52, q_53, q_63, q_64, q_126, q_128, q_255, q_512, q_1024, q_1026, q_2000, q_2048, q_2049, q_4095, q_4096, q_8192, q_16383, q_65535, q_65536, q_69632, q_131072, q_132000, q_262144, q_300000, q_1000000, q_lt_t, q_lt_f, q_le_t, q_le_f, q_eq_t, q_eq_f, q_cl, q_add, q_mul, q_sub, q_nle_f, q_nle_t, q_nlt_f, q_nlt_t, q_neq_f, eq_self, q_n1, q_n2, q_m1, q_m1', q_m2, q_m21, q_m0, q_ml, upd_e, upd_n, updL_e, updL_n, updF_e, updF_n, let_d, tk_s, bind_s, or_false, false_or, and_true, true_and, if_true, if_false, ite_true, ite_false, reduceIte, not_true, not_false_iff, Nat.zero_add, Nat.add_zero, Nat.sub_zero, hc0, hmd, a1, b1, tk_tk]
    · have hl := longer_E (N := N) (n := n_H_cells) (need := tot (gZ G) m2 + n) (m := 131072) (by omega) (by omega) (by omega)
      have hc := copyJ_E (N := N) (n := n_H_cells) (m := min 131072 (max (tot (gZ G) m2 + n) (2 * n_H_cells))) (f := c2) (by omega) (by omega)
      have hp := pot_new (n := n_H_cells) (m := 131072) (k := min 131072 (max (tot (gZ G) m2 + n) (2 * n_H_cells))) (by omega) (by omega)
      have hM1 : tot (gZ G) m2 + n ≤ min 131072 (max (tot (gZ G) m2 + n) (2 * n_H_cells)) := by omega
      have hM2 : n_H_cells < min 131072 (max (tot (gZ G) m2 + n) (2 * n_H_cells)) := by omega
      have hM3 : min 131072 (max (tot (gZ G) m2 + n) (2 * n_H_cells)) ≤ 131072 := by omega
      have hM4 : 2 * n_H_cells ≤ min 131072 (max (tot (gZ G) m2 + n) (2 * n_H_cells)) ∨ min 131072 (max (tot (gZ G) m2 + n) (2 * n_H_cells)) = 131072 := by omega
      revert hl hc hp hM1 hM2 hM3 hM4
      generalize min 131072 (max (tot (gZ G) m2 + n) (2 * n_H_cells)) = M
      intro hl hc hp hM1 hM2 hM3 hM4
      refine ⟨nI 1, m2, g2, cl2, va2, va_cpy c2 (fun _ => 0) 0 0 n_H_cells, sp2, fr2, H_made + nI cnt, ol2, ot2, rg2, ra2, su2, M, ns2, 1 + cc2 + cc1, M + ss2 + ss1, ?_, ⟨e1, ⟨l1, l2, l3, l4, l5, l6, l7, l8, l9, l10, l11, l12, by omega, hM3, hns.1, by omega⟩, e3, b3, ⟨b2.1, rfl, by omega, heE_c b2.2.2.2.1 (fun a ha => cpy_lt (by omega)), b2.2.2.2.2⟩, e6, e7⟩, Or.inl ⟨rfl, hfits, hfit, hM1, rfl⟩, Or.inr hM4, by omega, by omega⟩
      unfold m_Heap_ask
      simp (disch := omega) only [q_o, q_0, q_1, q_2, q_3, q_4, q_5, q_6, q_7, q_8, q_9, q_10, q_11, q_12, q_13, q_14, q_15, q_16, q_17, q_18, q_19, q_20, q_21, q_22, q_23, q_24, q_25, q_26, q_27, q_28, q_29, q_30, q_31, q_32, q_33, q_34, q_35, q_36, q_37, q_38, q_39, q_40, q_41, q_42, q_43, q_44, q_45, q_46, q_47, q_48, q_49, q_50, q_51, q_52, q_53, q_63, q_64, q_126, q_128, q_255, q_512, q_1024, q_1026, q_2000, q_2048, q_2049, q_4095, q_4096, q_8192, q_16383, q_65535, q_65536, q_69632, q_131072, q_132000, q_262144, q_300000, q_1000000, q_lt_t, q_lt_f, q_le_t, q_le_f, q_eq_t, q_eq_f, q_cl, q_add, q_mul, q_sub, q_nle_f, q_nle_t, q_nlt_f, q_nlt_t, q_neq_f, eq_self, q_n1, q_n2, q_m1, q_m1', q_m2, q_m21, q_m0, q_ml, upd_e, upd_n, updL_e, updL_n, updF_e, updF_n, let_d, tk_s, bind_s, or_false, false_or, and_true, true_and, if_true, if_false, ite_true, ite_false, reduceIte, not_true, not_false_iff, Nat.zero_add, Nat.add_zero, Nat.sub_zero, hc0, hmd, a1, b1, tk_tk, hl, hc]
  · refine ⟨nI 0, m2, g2, cl2, va2, c2, sp2, fr2, H_made, ol2, ot2, rg2, ra2, su2, n_H_cells, ns2, cc2 + cc1, ss2 + ss1, ?_, hE2, Or.inr ⟨rfl, ?_, rfl⟩, Or.inl rfl, by omega, by omega⟩
    · unfold m_Heap_ask
      simp (disch := omega) only [q_o, q_0, q_1, q_2, q_3, q_4, q_5, q_6, q_7, q_8, q_9, q_10, q_11, q_12, q_13, q_14, q_15, q_16, q_17, q_18, q_19, q_20, q_21, q_22, q_23, q_24, q_25, q_26, q_27, q_28, q_29, q_30, q_31, q_32, q_33, q_34, q_35, q_36, q_37, q_38, q_39, q_40, q_41, q_42, q_43, q_44, q_45, q_46, q_47, q_48, q_49, q_50, q_51, q_52, q_53, q_63, q_64, q_126, q_128, q_255, q_512, q_1024, q_1026, q_2000, q_2048, q_2049, q_4095, q_4096, q_8192, q_16383, q_65535, q_65536, q_69632, q_131072, q_132000, q_262144, q_300000, q_1000000, q_lt_t, q_lt_f, q_le_t, q_le_f, q_eq_t, q_eq_f, q_cl, q_add, q_mul, q_sub, q_nle_f, q_nle_t, q_nlt_f, q_nlt_t, q_neq_f, eq_self, q_n1, q_n2, q_m1, q_m1', q_m2, q_m21, q_m0, q_ml, upd_e, upd_n, updL_e, updL_n, updF_e, updF_n, let_d, tk_s, bind_s, or_false, false_or, and_true, true_and, if_true, if_false, ite_true, ite_false, reduceIte, not_true, not_false_iff, Nat.zero_add, Nat.add_zero, Nat.sub_zero, hc0, hmd, a1, b1, tk_tk]
    · intro hf
      have := hf m2 b2.1.1 (b5.resolve_left hfit)
      omega
end AK
