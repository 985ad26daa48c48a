/-! Primitive 27: two strings become one -/
section CT
variable {N : Nat}
variable {nk : Nat → Nat} {nm : Nat} {nid : Nat} {G : Nat → GO} {lE : List Nat} {gg : Nat → AV} {t : Nat} {gs : Nat → AV} {fr : Nat} {gc : Nat → AV} {hn : Nat} {gb : Nat → Nat} {gf : Nat → Nat} {gr : Nat → Int32} {hF : Nat → Nat} {hH : Nat → Nat} {hP : Nat → Int32} {hD : Nat → Int32} {lR : List Nat} {P_size : Int32} {P_constants : Int32} {P_closed : Int32} {P_open : Int32} {O_size : Int32} {S_top : Int32} {S_frames : Int32} {S_handlers : Int32} {H_globalsUsed : Int32} {H_used : Int32} {H_spareUsed : Int32} {H_old : Int32} {H_oldLeadsToNew : Int32} {H_limit : Int32} {H_every : Int32} {H_fresh : Int32} {H_made : Int32} {H_madeLimit : Int32} {H_reachedFromGlobals : Int32} {H_reachedInAll : Int32} {H_keptGlobalsUsed : Int32} {H_kept : Int32} {B_names : Int32} {Q_size : Int32} {M_status : Int32} {M_place : Int32} {M_next : Int32} {M_fuel : Int32} {M_ticks : Int32} {M_depth : Int32} {M_depthLimit : Int32} {M_done : Int32} {n_P_words : Nat} {f_P_words : Nat → Int32} {n_P_bytes : Nat} {f_P_bytes : Nat → Int32} {n_P_ends : Nat} {f_P_ends : Nat → Int32} {n_O_bytes : Nat} {f_O_bytes : Nat → Int32} {n_S_values : Nat} {f_S_values : Nat → Int64} {n_S_bases : Nat} {f_S_bases : Nat → Int32} {n_S_floors : Nat} {f_S_floors : Nat → Int32} {n_S_returns : Nat} {f_S_returns : Nat → Int32} {n_S_closures : Nat} {f_S_closures : Nat → Int64} {n_S_handlerFrames : Nat} {f_S_handlerFrames : Nat → Int32} {n_S_handlerPlaces : Nat} {f_S_handlerPlaces : Nat → Int32} {n_S_handlerHeights : Nat} {f_S_handlerHeights : Nat → Int32} {n_S_handlerDepths : Nat} {f_S_handlerDepths : Nat → Int32} {n_H_globals : Nat} {f_H_globals : Nat → Int64} {n_H_cells : Nat} {f_H_cells : Nat → Int64} {n_H_spare : Nat} {f_H_spare : Nat → Int64} {n_Q_links : Nat} {f_Q_links : Nat → Int32} {n_Q_pairs : Nat} {f_Q_pairs : Nat → Int64} {I : Nat → Int32} {F : Nat → Nat → Int32}
theorem cat_G {w1 w0 : Int64} {n1 n0 : Int32} (h1 : m_Stacks_peek N S_top S_frames S_handlers n_S_values f_S_values 1 = some w1) (h2 : m_Heap_told N H_globalsUsed H_used H_spareUsed H_old H_oldLeadsToNew H_limit H_every H_fresh H_made H_madeLimit H_reachedFromGlobals H_reachedInAll H_keptGlobalsUsed H_kept n_H_cells f_H_cells w1 = some n1) (h3 : m_Stacks_peek N S_top S_frames S_handlers n_S_values f_S_values 0 = some w0) (h4 : m_Heap_told N H_globalsUsed H_used H_spareUsed H_old H_oldLeadsToNew H_limit H_every H_fresh H_made H_madeLimit H_reachedFromGlobals H_reachedInAll H_keptGlobalsUsed H_kept n_H_cells f_H_cells w0 = some n0) (h5 : ¬ n1 + n0 ≤ 65535) : m_Strings_concatenate N S_top S_frames S_handlers H_globalsUsed H_used H_spareUsed H_old H_oldLeadsToNew H_limit H_every H_fresh H_made H_madeLimit H_reachedFromGlobals H_reachedInAll H_keptGlobalsUsed H_kept n_S_values f_S_values n_S_closures f_S_closures n_H_globals f_H_globals n_H_cells f_H_cells n_H_spare f_H_spare = some ((nI 21, f_H_globals, f_S_closures, f_S_values, H_fresh, H_made, H_old, H_oldLeadsToNew, H_reachedFromGlobals, H_reachedInAll, H_spareUsed, H_used, S_top, n_H_cells, f_H_cells, n_H_spare, f_H_spare), 0, 0) := by
  unfold m_Strings_concatenate
  rw [h1, bind_s, h2, bind_s, h3, bind_s, h4, bind_s, if_neg h5]
  rfl
theorem cat_0 {w1 w0 : Int64} {n1 n0 sz : Int32} {g' cl' va' c' sp' : Nat → Int64} {fresh' made' old' olt' rG' rA' su' used' : Int32} {nC' nSp' cc ss : Nat} (h1 : m_Stacks_peek N S_top S_frames S_handlers n_S_values f_S_values 1 = some w1) (h2 : m_Heap_told N H_globalsUsed H_used H_spareUsed H_old H_oldLeadsToNew H_limit H_every H_fresh H_made H_madeLimit H_reachedFromGlobals H_reachedInAll H_keptGlobalsUsed H_kept n_H_cells f_H_cells w1 = some n1) (h3 : m_Stacks_peek N S_top S_frames S_handlers n_S_values f_S_values 0 = some w0) (h4 : m_Heap_told N H_globalsUsed H_used H_spareUsed H_old H_oldLeadsToNew H_limit H_every H_fresh H_made H_madeLimit H_reachedFromGlobals H_reachedInAll H_keptGlobalsUsed H_kept n_H_cells f_H_cells w0 = some n0) (h5 : n1 + n0 ≤ 65535) (h6 : m_Value_cellsOfString N (n1 + n0) = some sz) (h7 : m_Heap_ask N S_top S_frames S_handlers H_globalsUsed H_used H_spareUsed H_old H_oldLeadsToNew H_limit H_every H_fresh H_made H_madeLimit H_reachedFromGlobals H_reachedInAll H_keptGlobalsUsed H_kept n_S_values f_S_values n_S_closures f_S_closures n_H_globals f_H_globals n_H_cells f_H_cells n_H_spare f_H_spare sz sz = some ((0, g', cl', va', fresh', made', old', olt', rG', rA', su', used', nC', c', nSp', sp'), cc, ss)) :
    m_Strings_concatenate N S_top S_frames S_handlers H_globalsUsed H_used H_spareUsed H_old H_oldLeadsToNew H_limit H_every H_fresh H_made H_madeLimit H_reachedFromGlobals H_reachedInAll H_keptGlobalsUsed H_kept n_S_values f_S_values n_S_closures f_S_closures n_H_globals f_H_globals n_H_cells f_H_cells n_H_spare f_H_spare = some ((nI 3, g', cl', va', fresh', made', old', olt', rG', rA', su', used', S_top, nC', c', nSp', sp'), cc, ss) := by
  unfold m_Strings_concatenate
  rw [h1, bind_s, h2, bind_s, h3, bind_s, h4, bind_s, if_pos h5, h6, bind_s, h7, bind_s]
  dsimp only
  rw [if_pos rfl, tk_s, Nat.zero_add, Nat.zero_add]
  rfl
theorem cat_1 {w1 w0 v1 v0 wo : Int64} {n1 n0 sz a1 a0 u f1 u1 st2 top2 : Int32} {g' cl' va' c' sp' c1 c2 c3 va2 : Nat → Int64} {fresh' made' old' olt' rG' rA' su' used' : Int32} {nC' nSp' cc ss : Nat} (h1 : m_Stacks_peek N S_top S_frames S_handlers n_S_values f_S_values 1 = some w1) (h2 : m_Heap_told N H_globalsUsed H_used H_spareUsed H_old H_oldLeadsToNew H_limit H_every H_fresh H_made H_madeLimit H_reachedFromGlobals H_reachedInAll H_keptGlobalsUsed H_kept n_H_cells f_H_cells w1 = some n1) (h3 : m_Stacks_peek N S_top S_frames S_handlers n_S_values f_S_values 0 = some w0) (h4 : m_Heap_told N H_globalsUsed H_used H_spareUsed H_old H_oldLeadsToNew H_limit H_every H_fresh H_made H_madeLimit H_reachedFromGlobals H_reachedInAll H_keptGlobalsUsed H_kept n_H_cells f_H_cells w0 = some n0) (h5 : n1 + n0 ≤ 65535) (h6 : m_Value_cellsOfString N (n1 + n0) = some sz) (h7 : m_Heap_ask N S_top S_frames S_handlers H_globalsUsed H_used H_spareUsed H_old H_oldLeadsToNew H_limit H_every H_fresh H_made H_madeLimit H_reachedFromGlobals H_reachedInAll H_keptGlobalsUsed H_kept n_S_values f_S_values n_S_closures f_S_closures n_H_globals f_H_globals n_H_cells f_H_cells n_H_spare f_H_spare sz sz = some ((1, g', cl', va', fresh', made', old', olt', rG', rA', su', used', nC', c', nSp', sp'), cc, ss))
    (h8 : m_Heap_layString N H_globalsUsed used' su' old' olt' H_limit H_every fresh' made' H_madeLimit rG' rA' H_keptGlobalsUsed H_kept nC' c' (n1 + n0) = some (u, c1, f1, u1)) (h9 : m_Stacks_peek N S_top S_frames S_handlers n_S_values va' 1 = some v1) (h10 : m_Value_number N v1 = some a1)
    (h11 : m_Strings_copyBytes N H_globalsUsed u1 su' old' olt' H_limit H_every f1 made' H_madeLimit rG' rA' H_keptGlobalsUsed H_kept nC' c1 a1 0 n1 u 0 = some c2) (h12 : m_Stacks_peek N S_top S_frames S_handlers n_S_values va' 0 = some v0) (h13 : m_Value_number N v0 = some a0)
    (h14 : m_Strings_copyBytes N H_globalsUsed u1 su' old' olt' H_limit H_every f1 made' H_madeLimit rG' rA' H_keptGlobalsUsed H_kept nC' c2 a0 0 n0 u n1 = some c3) (h15 : m_Value_object N 6 u = some wo) (h16 : m_Stacks_replace N S_top S_frames S_handlers n_S_values va' 2 wo = some (st2, va2, top2)) :
    m_Strings_concatenate N S_top S_frames S_handlers H_globalsUsed H_used H_spareUsed H_old H_oldLeadsToNew H_limit H_every H_fresh H_made H_madeLimit H_reachedFromGlobals H_reachedInAll H_keptGlobalsUsed H_kept n_S_values f_S_values n_S_closures f_S_closures n_H_globals f_H_globals n_H_cells f_H_cells n_H_spare f_H_spare = some ((st2, g', cl', va2, f1, made', old', olt', rG', rA', su', u1, top2, nC', c3, nSp', sp'), cc, ss) := by
  unfold m_Strings_concatenate
  rw [h1, bind_s, h2, bind_s, h3, bind_s, h4, bind_s, if_pos h5, h6, bind_s, h7, bind_s]
  dsimp only
  rw [if_neg (by decide), h8, bind_s]
  dsimp only
  rw [h9, bind_s, h10, bind_s, h11, bind_s, h12, bind_s, h13, bind_s, h14, bind_s, h15, bind_s, h16, bind_s]
  dsimp only
  rw [tk_s, Nat.zero_add, Nat.zero_add]
theorem join_G {a1 a0 : Int32} (h1 : m_Model_scalar N I F 2 = some a1) (h2 : ¬ (a1 < 0 ∨ 131072 ≤ a1.toNatClampNeg)) (h3 : m_Model_scalar N I F 1 = some a0) (h4 : ¬ (a0 < 0 ∨ 131072 ≤ a0.toNatClampNeg)) (h5 : ¬ F 1 a1.toNatClampNeg + F 1 a0.toNatClampNeg ≤ 65535) : m_Model_join N I F = m_Model_raiseGlobal N I F (nI 2) (nI 5) := by
  unfold m_Model_join
  rw [h1, bind_s, if_neg h2, h3, bind_s, if_neg h4, if_neg h5]
  exact bind_3 _
theorem join_0 {a1 a0 sz : Int32} {F' : Nat → Nat → Int32} {I' : Nat → Int32} (h1 : m_Model_scalar N I F 2 = some a1) (h2 : ¬ (a1 < 0 ∨ 131072 ≤ a1.toNatClampNeg)) (h3 : m_Model_scalar N I F 1 = some a0) (h4 : ¬ (a0 < 0 ∨ 131072 ≤ a0.toNatClampNeg)) (h5 : F 1 a1.toNatClampNeg + F 1 a0.toNatClampNeg ≤ 65535) (h6 : 1 + (F 1 a1.toNatClampNeg + F 1 a0.toNatClampNeg + 3) / 4 = sz) (h7 : m_Model_makes N I F sz = some (0, F', I')) : m_Model_join N I F = some (nI 3, F', I') := by
  unfold m_Model_join
  rw [h1, bind_s, if_neg h2, h3, bind_s, if_neg h4, if_pos h5, let_d, h6, h7, bind_s]
  dsimp only
  rw [if_pos rfl]
  rfl
theorem join_1 {a1 a0 sz u n1 : Int32} {F1 F2 F3 F4 : Nat → Nat → Int32} {I1 I2 I4 : Nat → Int32} (h1 : m_Model_scalar N I F 2 = some a1) (h2 : ¬ (a1 < 0 ∨ 131072 ≤ a1.toNatClampNeg)) (h3 : m_Model_scalar N I F 1 = some a0) (h4 : ¬ (a0 < 0 ∨ 131072 ≤ a0.toNatClampNeg)) (h5 : F 1 a1.toNatClampNeg + F 1 a0.toNatClampNeg ≤ 65535) (h6 : 1 + (F 1 a1.toNatClampNeg + F 1 a0.toNatClampNeg + 3) / 4 = sz) (h7 : m_Model_makes N I F sz = some (1, F1, I1)) (h8 : m_Model_string N I1 F1 (F 1 a1.toNatClampNeg + F 1 a0.toNatClampNeg) = some (u, F2, I2)) (h9 : ∀ (ζ : Type) (k : Int32 → (Nat → Nat → Int32) → Option ζ), lm_Model_join_1 N F a1 a0 u I2 k N 0 F2 = k n1 F3) (h10 : m_Model_give N I2 F3 2 2 u = some (nI 5, F4, I4)) : m_Model_join N I F = some (nI 5, F4, upd I4 35 (I4 35 + nI 2)) := by
  unfold m_Model_join
  rw [h1, bind_s, if_neg h2, h3, bind_s, if_neg h4, if_pos h5, let_d, h6, h7, bind_s]
  dsimp only
  rw [if_neg (by decide), h8, bind_s]
  dsimp only
  rw [h9, h10, bind_s]
  dsimp only
  rw [next_5, bind_s]
  rfl
theorem bd_n {x m : Nat} (h : x < m) (hm : m ≤ 262144) : ¬ (nI x < 0 ∨ m ≤ (nI x).toNatClampNeg) := by
  rw [q_cl (by omega)]
  intro h
  rcases h with h | h
  · exact nI_pos (by omega) h
  · omega
theorem cells_E {n : Nat} (hn6 : n ≤ 65535) : m_Value_cellsOfString N (nI n) = some (nI (1 + (n + 3) / 4)) := by
  unfold m_Value_cellsOfString
  simp (disch := omega) only [q_o, q_0, q_1, q_2, q_3, q_4, q_5, q_6, q_7, q_8, q_9, q_10, q_11, q_12, q_13, q_14, q_15, q_16, q_17, q_18, q_19, q_20, q_21, q_22, q_23, q_24, q_25, q_26, q_27, q_28, q_29, q_30, q_31, q_32, q_33, q_34, q_35, q_36, q_37, q_38, q_39, q_40, q_41, q_42, q_43, q_44, q_45, q_46, q_47, q_48, q_49, q_50, q_51, q_52, q_53, q_63, q_64, q_126, q_128, q_255, q_512, q_1024, q_1026, q_2000, q_2048, q_2049, q_4095, q_4096, q_8192, q_16383, q_65535, q_65536, q_69632, q_131072, q_132000, q_262144, q_300000, q_1000000, q_lt_t, q_lt_f, q_le_t, q_le_f, q_eq_t, q_eq_f, q_cl, q_add, q_mul, q_sub, q_nle_f, q_nle_t, q_nlt_f, q_nlt_t, q_neq_f, eq_self, q_n1, q_n2, q_m1, q_m1', q_m2, q_m21, q_m0, q_ml, upd_e, upd_n, updL_e, updL_n, updF_e, updF_n, let_d, tk_s, bind_s, or_false, false_or, and_true, true_and, if_true, if_false, ite_true, ite_false, reduceIte, not_true, not_false_iff, Nat.zero_add, Nat.add_zero, Nat.sub_zero, q_dv]
theorem cells_R {n : Nat} (hn6 : n ≤ 65535) : 1 + (nI n + 3) / 4 = nI (1 + (n + 3) / 4) := by
  rw [show (3 : Int32) = nI 3 from rfl, show (4 : Int32) = nI 4 from rfl, show (1 : Int32) = nI 1 from rfl, q_add, q_dv (by omega), q_add]
/-- a string in the reference -/
theorem str_R {o : Nat} (hr : rR nk nm nid G lR gg t gs fr gc hn gb gf gr hF hH hP hD I F) (ho : o ∈ lR) (hK : gK G o = 6) : adr (gZ G) lR o < 131072 ∧ F 1 (adr (gZ G) lR o) = nI (gC G o) := by
  obtain ⟨h1, h2, h3, h4, h5, h6⟩ := obj_R hr ho
  refine ⟨by omega, ?_⟩
  rw [h5]
  unfold chR
  rw [if_pos (Or.inl hK)]
set_option maxRecDepth 4000 in
set_option maxHeartbeats 4000000 in
theorem pq_27 {rs} {p L o1 o0 : Nat} (hN : 400000 ≤ N) (he : eR nk nm nid G lE gg t gs fr gc hn gb gf gr hF hH hP hD S_top S_frames S_handlers n_S_values f_S_values n_S_bases f_S_bases n_S_floors f_S_floors n_S_returns f_S_returns n_S_closures f_S_closures n_S_handlerFrames f_S_handlerFrames n_S_handlerPlaces f_S_handlerPlaces n_S_handlerHeights f_S_handlerHeights n_S_handlerDepths f_S_handlerDepths H_globalsUsed H_used H_old H_oldLeadsToNew f_H_globals n_H_cells f_H_cells n_H_spare) (hr : rR nk nm nid G lR gg t gs fr gc hn gb gf gr hF hH hP hD I F) (hx : xR nm M_fuel M_ticks H_made M_depth B_names O_size n_O_bytes f_O_bytes n_Q_links f_Q_links n_Q_pairs n_H_cells I F) (h35 : I 35 = nI p) (h43 : I 43 = nI L) (hL : L ≤ 131072) (hkt : gf (fr - 1) + 2 ≤ t) (hv1 : gs (t - 2) = vO o1) (hv0 : gs (t - 1) = vO o0) (hK1 : gK G o1 = 6) (hK0 : gK G o0 = 6)
    (hfit : m_Machine_primitiveFits N S_top S_frames S_handlers M_status (nI p) (nI (p + 2)) M_fuel M_ticks M_depth (I 45) M_done n_S_values f_S_values n_S_floors f_S_floors (nI 27) = some (nI 1)) (hR : rs = m_Model_join N I F) :
    opR nm n_H_cells I F (potE n_S_values n_S_bases n_S_handlerFrames n_H_cells n_H_spare n_Q_links n_Q_pairs n_O_bytes) (m_Machine_perform N P_size P_constants P_closed P_open O_size S_top S_frames S_handlers H_globalsUsed H_used H_spareUsed H_old H_oldLeadsToNew (nI L) H_every H_fresh H_made (I 44) H_reachedFromGlobals H_reachedInAll H_keptGlobalsUsed H_kept B_names Q_size M_status (nI p) (nI (p + 2)) M_fuel M_ticks M_depth (I 45) M_done n_P_words f_P_words n_P_bytes f_P_bytes n_P_ends f_P_ends n_O_bytes f_O_bytes n_S_values f_S_values n_S_bases f_S_bases n_S_floors f_S_floors n_S_returns f_S_returns n_S_closures f_S_closures n_S_handlerFrames f_S_handlerFrames n_S_handlerPlaces f_S_handlerPlaces n_S_handlerHeights f_S_handlerHeights n_S_handlerDepths f_S_handlerDepths 2049 f_H_globals n_H_cells f_H_cells n_H_spare f_H_spare n_Q_links f_Q_links n_Q_pairs f_Q_pairs (nI 34) (nI 27)) rs := by
  have he0 := he
  obtain ⟨q1, q2, q3, qt, qs, qh, qb, qf, q4, q5, q6, q7, q8, q9, qx, qy, qz⟩ := frE he
  obtain ⟨y1, y2, y3, y4, y5⟩ := frR hr q1
  subst qt qs qh
  obtain ⟨hG, hT, hC, hH', hnn⟩ := eR_hp he
  have mE1 : o1 ∈ lE := by have := (vE he (k := t - 2) (by omega)).2; rw [hv1] at this; exact this
  have mE0 : o0 ∈ lE := by have := (vE he (k := t - 1) (by omega)).2; rw [hv0] at this; exact this
  have mR1 : o1 ∈ lR := by have := (vRr hr (k := t - 2) (by omega)).2.2; rw [hv1] at this; exact this
  have mR0 : o0 ∈ lR := by have := (vRr hr (k := t - 1) (by omega)).2.2; rw [hv0] at this; exact this
  have O1 := str_ok (hG.2 o1 mE1).2.1 hK1
  have O0 := str_ok (hG.2 o0 mE0).2.1 hK0
  have pk1 := eR_peek (N := N) (k := 1) he (by omega)
  rw [show t - 1 - 1 = t - 2 by omega, hv1] at pk1
  have pk0 := eR_peek (N := N) (k := 0) he (by omega)
  rw [Nat.sub_zero, hv0] at pk0
  have td1 := told_O (N := N) he mE1
  have td0 := told_O (N := N) he mE0
  rw [if_pos hK1] at td1
  rw [if_pos hK0] at td0
  have s2 := scalar_R (N := N) (d := 2) hr (by omega) (by omega) q3
  rw [hv1] at s2
  have s2 : m_Model_scalar N I F 2 = some (nI (adr (gZ G) lR o1)) := s2
  have s1 := scalar_R (N := N) (d := 1) hr (by omega) (by omega) q3
  rw [hv0] at s1
  have s1 : m_Model_scalar N I F 1 = some (nI (adr (gZ G) lR o0)) := s1
  obtain ⟨b1, f1⟩ := str_R hr mR1 hK1
  obtain ⟨b0, f0⟩ := str_R hr mR0 hK0
  have z1 := bd_n b1 (by omega)
  have z0 := bd_n b0 (by omega)
  have hsum : F 1 (nI (adr (gZ G) lR o1)).toNatClampNeg + F 1 (nI (adr (gZ G) lR o0)).toNatClampNeg = nI (gC G o1 + gC G o0) := by
    rw [q_cl (by omega), q_cl (by omega), f1, f0, q_add]
  by_cases h65 : gC G o1 + gC G o0 ≤ 65535
  · have hle : nI (gC G o1) + nI (gC G o0) ≤ 65535 := by
      rw [q_add, show (65535 : Int32) = nI 65535 from rfl, q_le_t (by omega) (by omega)]
      exact True.intro
    have hleR : F 1 (nI (adr (gZ G) lR o1)).toNatClampNeg + F 1 (nI (adr (gZ G) lR o0)).toNatClampNeg ≤ 65535 := by
      rw [hsum, ← q_add]
      exact hle
    have hcl := cells_E (N := N) h65
    rw [← q_add] at hcl
    have hclR : 1 + (F 1 (nI (adr (gZ G) lR o1)).toNatClampNeg + F 1 (nI (adr (gZ G) lR o0)).toNatClampNeg + 3) / 4 = nI (1 + (gC G o1 + gC G o0 + 3) / 4) := by
      rw [hsum]
      exact cells_R h65
    obtain ⟨b, l', l2, g', cl', va', c', sp', fresh', made', old', olt', rG', rA', su', nC', nSp', cc, ss, I1, F1, a1, a2, a3, a4, a5, a6, a7, a8⟩ := room_ER (N := N) (H_spareUsed := H_spareUsed) (H_every := H_every) (H_fresh := H_fresh) (H_reachedFromGlobals := H_reachedFromGlobals) (H_reachedInAll := H_reachedInAll) (H_keptGlobalsUsed := H_keptGlobalsUsed) (H_kept := H_kept) (f_H_spare := f_H_spare) (n := 1 + (gC G o1 + gC G o0 + 3) / 4) hN he hr hx h43 hL (by omega) (by omega)
    rcases a8 with rfl | ⟨rfl, m1, m2⟩
    · refine no_op (f_Q_pairs := f_Q_pairs) (Q_size := Q_size) (fresh' := fresh') (rG' := rG') (rA' := rA') (su' := su') (sp' := sp') (p := p) a3 a4 a5 a6 a7 ?_ ?_
      · have h := cat_0 pk1 (td1 ..) pk0 (td0 ..) hle hcl a1
        exact pf34_S (by omega) (by decide) hfit (ap_27 h)
      · rw [hR]
        exact join_0 s2 z1 s1 z0 hleR hclR a2
    · obtain ⟨c1, l1, l3⟩ := layString_E (N := N) (c := c') (n := gC G o1 + gC G o0) (by omega) m1 (eR_hp a3).2.2.1 h65
      obtain ⟨F2, t1, t2⟩ := string_R (N := N) (I := I1) (F := F1) (u := tot (gZ G) l2) (n := gC G o1 + gC G o0) (by omega) a4.2.2.2.2.1 (by omega) h65
      have mE1' : o1 ∈ l' := by have := (vE a3 (k := t - 2) (by omega)).2; rw [hv1] at this; exact this
      have mE0' : o0 ∈ l' := by have := (vE a3 (k := t - 1) (by omega)).2; rw [hv0] at this; exact this
      obtain ⟨B, hB1, hB0, hB2⟩ : ∃ B : Nat → Nat, (∀ i, i < gC G o1 → B i = gB G o1 i) ∧ (∀ i, i < gC G o0 → B (gC G o1 + i) = gB G o0 i) ∧ (∀ i, gC G o1 + gC G o0 ≤ i → B i = 0) := by
        refine ⟨fun i => if i < gC G o1 then gB G o1 i else gB G o0 (i - gC G o1), fun i hi => if_pos hi, fun i hi => ?_, fun i hi => ?_⟩
        · dsimp only
          rw [if_neg (by omega)]
          congr 1
          omega
        · dsimp only
          rw [if_neg (by omega)]
          exact O0.2.2 _ (by omega)
      rw [← cut_0 B] at l3 t2
      obtain ⟨c2, k1, k2⟩ := copy_E (N := N) (bg := 0) (off := 0) (n := gC G o1) (M := gC G o1 + gC G o0) (B := B) hN a3 mE1' hK1 (by omega) (by omega) h65 (by omega) (fun i hi => by rw [Nat.zero_add]; exact hB1 i hi) l3
      rw [Nat.zero_add] at k2
      obtain ⟨c3, k3, k4⟩ := copy_E (N := N) (bg := 0) (off := gC G o1) (n := gC G o0) (M := gC G o1 + gC G o0) (B := B) hN a3 mE0' hK0 (by omega) (by omega) h65 (by omega) (fun i hi => by rw [Nat.zero_add]; exact hB0 i hi) k2
      obtain ⟨F3, j1, j2⟩ := join1 (N := N) (J := upd I1 3 (nI (tot (gZ G) l2 + (1 + (gC G o1 + gC G o0 + 3) / 4)))) (F0 := F) (z1 := nI (adr (gZ G) lR o1)) (z3 := nI (adr (gZ G) lR o0)) (B := B) a4 (by rw [upd_n (by omega)]; exact a4.1.1) (by omega) q3 hv1 hv0 hK1 hK0 (by rw [q_cl (by omega)]; exact f1) (by rw [q_cl (by omega)]; exact f0) h65 (by omega) hB1 hB0 N 0 F2 (by omega) (by omega) t2
      rw [cut_n hB2] at k4 j2
      have pk1' := eR_peek (N := N) (k := 1) a3 (by omega)
      rw [show t - 1 - 1 = t - 2 by omega, hv1] at pk1'
      have pk0' := eR_peek (N := N) (k := 0) a3 (by omega)
      rw [Nat.sub_zero, hv0] at pk0'
      have nu1 : m_Value_number N (wE G l' (vO o1)) = some (nI (adr (gZ G) l' o1)) := nu_E (v := vO o1) (eR_hp a3).1 mE1' hnn (by have := eR_hp a3; omega)
      have nu0 : m_Value_number N (wE G l' (vO o0)) = some (nI (adr (gZ G) l' o0)) := nu_E (v := vO o0) (eR_hp a3).1 mE0' hnn (by have := eR_hp a3; omega)
      refine mkS_op (N := N) (f_Q_pairs := f_Q_pairs) (Q_size := Q_size) (fresh' := fresh' + nI (1 + (gC G o1 + gC G o0 + 3) / 4)) (rG' := rG') (rA' := rA') (su' := su') (sp' := sp') (k := 2) h35 a3 a4 a5 a6 a7 k4 j2 h65 m1 m2 (by omega) hkt ?_ ?_
      · intro h
        rw [q_add] at hcl
        have hle2 := hle
        rw [← q_add] at l1
        have hh := cat_1 pk1 (td1 ..) pk0 (td0 ..) hle (by rw [q_add]; exact hcl) a1 (l1 ..) pk1' nu1 (k1 ..) pk0' nu0 (k3 ..) (ob_E (K := 6) (by omega) (by have := eR_hp a3; omega)) h
        exact pf34_S (by omega) (by decide) hfit (ap_27 hh)
      · intro F4 I4 h
        rw [hR]
        rw [← hsum] at t1
        exact join_1 s2 z1 s1 z0 hleR hclR a2 t1 j1 h
  · have hle : ¬ nI (gC G o1) + nI (gC G o0) ≤ 65535 := by
      rw [q_add, show (65535 : Int32) = nI 65535 from rfl, q_le_f (by omega) (by omega)]
      exact id
    have hleR : ¬ F 1 (nI (adr (gZ G) lR o1)).toNatClampNeg + F 1 (nI (adr (gZ G) lR o0)).toNatClampNeg ≤ 65535 := by
      rw [hsum, ← q_add]
      exact hle
    refine prG_op (N := N) (f_Q_pairs := f_Q_pairs) (f_H_spare := f_H_spare) (Q_size := Q_size) (H_fresh := H_fresh) (H_reachedFromGlobals := H_reachedFromGlobals) (H_reachedInAll := H_reachedInAll) (H_spareUsed := H_spareUsed) (H_limit := nI L) (H_every := H_every) (H_madeLimit := I 44) (H_keptGlobalsUsed := H_keptGlobalsUsed) (H_kept := H_kept) (M_status := M_status) (M_place := nI p) (M_depthLimit := I 45) (M_done := M_done) (g := 5) (q := 27) he hr hx h35 (by omega) (by omega) hkt ?_ ?_
    · exact pf34_G (by omega) (by omega) hfit (ap_27 (cat_G pk1 (td1 ..) pk0 (td0 ..) hle))
    · rw [hR]
      exact join_G s2 z1 s1 z0 hleR
end CT
