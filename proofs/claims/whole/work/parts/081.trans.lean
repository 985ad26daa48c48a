/-! What is done on top of the stack, on both sides -/
section TR
variable {N : Nat}
variable {nk : Nat → Nat} {nm : Nat} {nid : Nat} {G : Nat → GO} {lE : List Nat} {gg : Nat → AV} {t : Nat} {gs : Nat → AV} {fr : Nat} {gc : Nat → AV} {hn : Nat} {gb : Nat → Nat} {gf : Nat → Nat} {gr : Nat → Int32} {hF : Nat → Nat} {hH : Nat → Nat} {hP : Nat → Int32} {hD : Nat → Int32} {lR : List Nat} {S_top : Int32} {S_frames : Int32} {S_handlers : Int32} {n_S_values : Nat} {f_S_values : Nat → Int64} {n_S_bases : Nat} {f_S_bases : Nat → Int32} {n_S_floors : Nat} {f_S_floors : Nat → Int32} {n_S_returns : Nat} {f_S_returns : Nat → Int32} {n_S_closures : Nat} {f_S_closures : Nat → Int64} {n_S_handlerFrames : Nat} {f_S_handlerFrames : Nat → Int32} {n_S_handlerPlaces : Nat} {f_S_handlerPlaces : Nat → Int32} {n_S_handlerHeights : Nat} {f_S_handlerHeights : Nat → Int32} {n_S_handlerDepths : Nat} {f_S_handlerDepths : Nat → Int32} {H_globalsUsed : Int32} {H_used : Int32} {H_old : Int32} {H_oldLeadsToNew : Int32} {f_H_globals : Nat → Int64} {n_H_cells : Nat} {f_H_cells : Nat → Int64} {n_H_spare : Nat} {I : Nat → Int32} {F : Nat → Nat → Int32}
theorem rR_c {I' : Nat → Int32} {F' : Nat → Nat → Int32} (h : rR nk nm nid G lR gg t gs fr gc hn gb gf gr hF hH hP hD I F) (qI : ∀ j, j = 3 ∨ j = 7 ∨ j = 8 ∨ j = 20 ∨ j = 21 ∨ j = 22 ∨ j = 29 ∨ j = 30 → I' j = I j) (qF : ∀ j, j ≤ 34 → F' j = F j) : rR nk nm nid G lR gg t gs fr gc hn gb gf gr hF hH hP hD I' F' := by
  obtain ⟨⟨a1, a2, a3, a4, a5, a6, a7, a8⟩, ⟨b1, b2⟩, ⟨c1, c2, c3, c4, c5, c6, c7, c8, c9, c10⟩⟩ := h
  refine ⟨⟨?_, ?_, ?_, ?_, ?_, ?_, ?_, ?_⟩, ⟨?_, ?_⟩, ⟨c1, c2, ?_, c4, ?_, ?_, c7, ?_, ?_, ?_⟩⟩
  · rw [qI 29 (by omega)]; exact a1
  · rw [qI 22 (by omega)]; exact a2
  · rw [qI 30 (by omega)]; exact a3
  · rw [qF 24 (by omega), qF 25 (by omega)]; exact a4
  · rw [qF 26 (by omega)]; exact a5
  · rw [qF 31 (by omega), qF 32 (by omega), qF 33 (by omega), qF 34 (by omega)]; exact a6
  · rw [qI 20 (by omega)]; exact a7
  · rw [qI 21 (by omega)]; exact a8
  · rw [qF 27 (by omega), qF 28 (by omega)]; exact b1
  · rw [qF 23 (by omega)]; exact b2
  · rw [qI 3 (by omega)]; exact c3
  · rw [qF 0 (by omega), qF 1 (by omega)]; exact c5
  · rw [qF 2 (by omega)]; exact c6
  · rw [qF 5 (by omega), qF 6 (by omega)]; exact c8
  · rw [qI 7 (by omega)]; exact c9
  · rw [qI 8 (by omega)]; exact c10
theorem hpR_c {I' : Nat → Int32} {F' : Nat → Nat → Int32} (h : hpR nk nm nid G lR gg I F) (qI : ∀ j, j = 3 ∨ j = 7 ∨ j = 8 → I' j = I j) (qF : ∀ j, j = 0 ∨ j = 1 ∨ j = 2 ∨ j = 5 ∨ j = 6 → F' j = F j) : hpR nk nm nid G lR gg I' F' := by
  obtain ⟨c1, c2, c3, c4, c5, c6, c7, c8, c9, c10⟩ := h
  refine ⟨c1, c2, ?_, c4, ?_, ?_, c7, ?_, ?_, ?_⟩
  · rw [qI 3 (by omega)]; exact c3
  · rw [qF 0 (by omega), qF 1 (by omega)]; exact c5
  · rw [qF 2 (by omega)]; exact c6
  · rw [qF 5 (by omega), qF 6 (by omega)]; exact c8
  · rw [qI 7 (by omega)]; exact c9
  · rw [qI 8 (by omega)]; exact c10
theorem rR_35 (h : rR nk nm nid G lR gg t gs fr gc hn gb gf gr hF hH hP hD I F) (x : Int32) : rR nk nm nid G lR gg t gs fr gc hn gb gf gr hF hH hP hD (upd I 35 x) F := rR_c h (fun j hj => upd_n (by omega)) (fun _ _ => rfl)
/-- k values go, v comes: the reference -/
theorem give_R {v : AV} {k : Nat} (h : rR nk nm nid G lR gg t gs fr gc hn gb gf gr hF hH hP hD I F) (hk : k ≤ t) (ht : t - k < 65536) (ht2 : t ≤ 65536) (hv : okV nk nm lR v) :
    ∃ (F' : Nat → Nat → Int32) (I' : Nat → Int32), m_Model_give N I F (nI k) (tR v) (vR G lR v) = some (nI 5, F', I') ∧ rR nk nm nid G lR gg (t - k + 1) (upA gs (t - k) v) fr gc hn gb gf gr hF hH hP hD I' F' ∧ (∀ j, j ≠ 29 → I' j = I j) ∧ (∀ j, j ≠ 27 → j ≠ 28 → F' j = F j) := by
  obtain ⟨⟨a1, a2, a3, a4, a5, a6, a7, a8⟩, ⟨b1, b2⟩, hc⟩ := h
  have e1 : ∀ x y, upd (upd I 29 x) 29 y = upd I 29 y := fun x y => by
    funext j
    by_cases hj : j = 29
    · rw [upd_e hj, upd_e hj]
    · rw [upd_n hj, upd_n hj, upd_n hj]
  refine ⟨updF (updF F 27 (upd (F 27) (t - k) (tR v))) 28 (upd (F 28) (t - k) (vR G lR v)), upd I 29 (nI (t - k + 1)), ?_, ⟨⟨?_, ?_, ?_, ?_, ?_, ?_, ?_, ?_⟩, ⟨?_, ?_⟩, ?_⟩, fun j hj => upd_n hj, fun j h1 h2 => by rw [updF_n h2, updF_n h1]⟩
  · unfold m_Model_give
    simp (disch := omega) only [q_o, q_0, q_1, q_2, q_3, q_4, q_5, q_6, q_7, q_8, q_9, q_10, q_11, q_12, q_13, q_14, q_15, q_16, q_17, q_18, q_19, q_20, q_21, q_22, q_23, q_24, q_25, q_26, q_27, q_28, q_29, q_30, q_31, q_32, q_33, q_34, q_35, q_36, q_37, q_38, q_39, q_40, q_41, q_42, q_43, q_44, q_45, q_46, q_47, q_48, q_49, q_50, q_51, q_52, q_53, q_63, q_64, q_126, q_128, q_255, q_512, q_1024, q_1026, q_2000, q_2048, q_2049, q_4095, q_4096, q_8192, q_16383, q_65535, q_65536, q_69632, q_131072, q_132000, q_262144, q_300000, q_1000000, q_lt_t, q_lt_f, q_le_t, q_le_f, q_eq_t, q_eq_f, q_cl, q_add, q_mul, q_sub, q_nle_f, q_nle_t, q_nlt_f, q_nlt_t, q_neq_f, eq_self, q_n1, q_n2, q_m1, q_m1', q_m2, q_m21, q_m0, q_ml, upd_e, upd_n, updL_e, updL_n, updF_e, updF_n, let_d, tk_s, bind_s, or_false, false_or, and_true, true_and, if_true, if_false, ite_true, ite_false, reduceIte, not_true, not_false_iff, Nat.zero_add, Nat.add_zero, Nat.sub_zero, a1, e1]
  · rw [upd_e rfl]
  · rw [upd_n (by omega)]; exact a2
  · rw [upd_n (by omega)]; exact a3
  · intro j hj; rw [updF_n (by omega), updF_n (by omega), updF_n (by omega), updF_n (by omega)]; exact a4 j hj
  · intro j h1 hj; rw [updF_n (by omega), updF_n (by omega)]; exact a5 j h1 hj
  · intro j hj
    rw [updF_n (by omega), updF_n (by omega), updF_n (by omega), updF_n (by omega), updF_n (by omega), updF_n (by omega), updF_n (by omega), updF_n (by omega)]
    exact a6 j hj
  · rw [upd_n (by omega)]; exact a7
  · rw [upd_n (by omega)]; exact a8
  · intro j hj
    rw [updF_n (by omega), updF_e rfl, updF_e rfl]
    by_cases e : j = t - k
    · rw [upd_e e, upd_e e, upA_e e]; exact ⟨hv, rfl, rfl⟩
    · rw [upd_n e, upd_n e, upA_n e]; exact b1 j (by omega)
  · intro j hj; rw [updF_n (by omega), updF_n (by omega)]; exact b2 j hj
  · exact hpR_c hc (fun j hj => upd_n (by omega)) (fun j hj => by rw [updF_n (by omega), updF_n (by omega)])
theorem more_R {v : AV} (h : rR nk nm nid G lR gg t gs fr gc hn gb gf gr hF hH hP hD I F) (ht : t < 65536) (hv : okV nk nm lR v) :
    ∃ (F' : Nat → Nat → Int32) (I' : Nat → Int32), m_Model_more N I F (tR v) (vR G lR v) = some (nI 5, F', I') ∧ rR nk nm nid G lR gg (t + 1) (upA gs t v) fr gc hn gb gf gr hF hH hP hD I' F' ∧ (∀ j, j ≠ 29 → I' j = I j) ∧ (∀ j, j ≠ 27 → j ≠ 28 → F' j = F j) := by
  obtain ⟨F', I', a1, a2, a3, a4⟩ := give_R (N := N) (k := 0) h (Nat.zero_le _) (by omega) (by omega) hv
  have h29 := h.1.1
  refine ⟨F', I', ?_, a2, a3, a4⟩
  unfold m_Model_more
  simp (disch := omega) only [q_o, q_0, q_1, q_2, q_3, q_4, q_5, q_6, q_7, q_8, q_9, q_10, q_11, q_12, q_13, q_14, q_15, q_16, q_17, q_18, q_19, q_20, q_21, q_22, q_23, q_24, q_25, q_26, q_27, q_28, q_29, q_30, q_31, q_32, q_33, q_34, q_35, q_36, q_37, q_38, q_39, q_40, q_41, q_42, q_43, q_44, q_45, q_46, q_47, q_48, q_49, q_50, q_51, q_52, q_53, q_63, q_64, q_126, q_128, q_255, q_512, q_1024, q_1026, q_2000, q_2048, q_2049, q_4095, q_4096, q_8192, q_16383, q_65535, q_65536, q_69632, q_131072, q_132000, q_262144, q_300000, q_1000000, q_lt_t, q_lt_f, q_le_t, q_le_f, q_eq_t, q_eq_f, q_cl, q_add, q_mul, q_sub, q_nle_f, q_nle_t, q_nlt_f, q_nlt_t, q_neq_f, eq_self, q_n1, q_n2, q_m1, q_m1', q_m2, q_m21, q_m0, q_ml, upd_e, upd_n, updL_e, updL_n, updF_e, updF_n, let_d, tk_s, bind_s, or_false, false_or, and_true, true_and, if_true, if_false, ite_true, ite_false, reduceIte, not_true, not_false_iff, Nat.zero_add, Nat.add_zero, Nat.sub_zero, h29, a1]
theorem moreF_R (x y : Int32) (h : I 29 = nI 65536) : m_Model_more N I F x y = some (nI 3, F, I) := by
  unfold m_Model_more
  simp (disch := omega) only [q_o, q_0, q_1, q_2, q_3, q_4, q_5, q_6, q_7, q_8, q_9, q_10, q_11, q_12, q_13, q_14, q_15, q_16, q_17, q_18, q_19, q_20, q_21, q_22, q_23, q_24, q_25, q_26, q_27, q_28, q_29, q_30, q_31, q_32, q_33, q_34, q_35, q_36, q_37, q_38, q_39, q_40, q_41, q_42, q_43, q_44, q_45, q_46, q_47, q_48, q_49, q_50, q_51, q_52, q_53, q_63, q_64, q_126, q_128, q_255, q_512, q_1024, q_1026, q_2000, q_2048, q_2049, q_4095, q_4096, q_8192, q_16383, q_65535, q_65536, q_69632, q_131072, q_132000, q_262144, q_300000, q_1000000, q_lt_t, q_lt_f, q_le_t, q_le_f, q_eq_t, q_eq_f, q_cl, q_add, q_mul, q_sub, q_nle_f, q_nle_t, q_nlt_f, q_nlt_t, q_neq_f, eq_self, q_n1, q_n2, q_m1, q_m1', q_m2, q_m21, q_m0, q_ml, upd_e, upd_n, updL_e, updL_n, updF_e, updF_n, let_d, tk_s, bind_s, or_false, false_or, and_true, true_and, if_true, if_false, ite_true, ite_false, reduceIte, not_true, not_false_iff, Nat.zero_add, Nat.add_zero, Nat.sub_zero, h]
/-- k values go: the reference -/
theorem drop_R {k : Nat} (h : rR nk nm nid G lR gg t gs fr gc hn gb gf gr hF hH hP hD I F) (hk : k ≤ t) : rR nk nm nid G lR gg (t - k) gs fr gc hn gb gf gr hF hH hP hD (upd I 29 (nI (t - k))) F := by
  obtain ⟨⟨a1, a2, a3, a4, a5, a6, a7, a8⟩, ⟨b1, b2⟩, hc⟩ := h
  refine ⟨⟨upd_e rfl, ?_, ?_, a4, a5, a6, ?_, ?_⟩, ⟨fun j hj => b1 j (by omega), b2⟩, hpR_c hc (fun j hj => upd_n (by omega)) (fun j hj => rfl)⟩
  · rw [upd_n (by omega)]; exact a2
  · rw [upd_n (by omega)]; exact a3
  · rw [upd_n (by omega)]; exact a7
  · rw [upd_n (by omega)]; exact a8
/-- the engine -/
theorem eR_push {v : AV} (h : eR nk nm nid G lE gg t gs fr gc hn gb gf gr hF hH hP hD S_top S_frames S_handlers n_S_values f_S_values n_S_bases f_S_bases n_S_floors f_S_floors n_S_returns f_S_returns n_S_closures f_S_closures n_S_handlerFrames f_S_handlerFrames n_S_handlerPlaces f_S_handlerPlaces n_S_handlerHeights f_S_handlerHeights n_S_handlerDepths f_S_handlerDepths H_globalsUsed H_used H_old H_oldLeadsToNew f_H_globals n_H_cells f_H_cells n_H_spare) (ht : t < 65536) (hv : okV nk nm lE v) :
    ∃ (nV' : Nat) (fV' : Nat → Int64) (c s : Nat), m_Stacks_push N S_top S_frames S_handlers n_S_values f_S_values (wE G lE v) = some ((nI 5, nI (t + 1), nV', fV'), c, s) ∧ eR nk nm nid G lE gg (t + 1) (upA gs t v) fr gc hn gb gf gr hF hH hP hD (nI (t + 1)) S_frames S_handlers nV' fV' n_S_bases f_S_bases n_S_floors f_S_floors n_S_returns f_S_returns n_S_closures f_S_closures n_S_handlerFrames f_S_handlerFrames n_S_handlerPlaces f_S_handlerPlaces n_S_handlerHeights f_S_handlerHeights n_S_handlerDepths f_S_handlerDepths H_globalsUsed H_used H_old H_oldLeadsToNew f_H_globals n_H_cells f_H_cells n_H_spare ∧ s + 150 * c + pot 65536 n_S_values ≤ pot 65536 nV' := by
  obtain ⟨⟨s1, s2, s3, s4, s5, s6, s7⟩, ⟨l1, l2, l3⟩, ⟨t1, t2, t3, t4, t5⟩, ⟨v1, v2⟩, hp, hk, hn⟩ := h
  subst t1
  obtain ⟨nV', fV', c, s, a1, a2, a3, a4, a5, a6, a7⟩ := push_E (N := N) (w := wE G lE v) (fV := f_S_values) ht t4 l1 l2 S_frames S_handlers
  refine ⟨nV', fV', c, s, a1, ⟨⟨s1, s2, by omega, s4, by omega, s6, s7⟩, ⟨a3, a4, l3⟩, ⟨rfl, t2, t3, a2, t5⟩, ⟨fun j hj => ?_, v2⟩, hp, hk, hn⟩, a7⟩
  by_cases e : j = t
  · rw [e, a6, upA_e rfl]; exact ⟨rfl, hv⟩
  · rw [a5 j (by omega), upA_n e]; exact v1 j (by omega)
theorem eR_repl {v : AV} {k : Nat} (h : eR nk nm nid G lE gg t gs fr gc hn gb gf gr hF hH hP hD S_top S_frames S_handlers n_S_values f_S_values n_S_bases f_S_bases n_S_floors f_S_floors n_S_returns f_S_returns n_S_closures f_S_closures n_S_handlerFrames f_S_handlerFrames n_S_handlerPlaces f_S_handlerPlaces n_S_handlerHeights f_S_handlerHeights n_S_handlerDepths f_S_handlerDepths H_globalsUsed H_used H_old H_oldLeadsToNew f_H_globals n_H_cells f_H_cells n_H_spare) (hk : 1 ≤ k) (hkt : gf (fr - 1) + k ≤ t) (hv : okV nk nm lE v) :
    m_Stacks_replace N S_top S_frames S_handlers n_S_values f_S_values (nI k) (wE G lE v) = some (nI 5, vp_updL f_S_values (t - k) (wE G lE v), nI (t - k + 1)) ∧ eR nk nm nid G lE gg (t - k + 1) (upA gs (t - k) v) fr gc hn gb gf gr hF hH hP hD (nI (t - k + 1)) S_frames S_handlers n_S_values (vp_updL f_S_values (t - k) (wE G lE v)) n_S_bases f_S_bases n_S_floors f_S_floors n_S_returns f_S_returns n_S_closures f_S_closures n_S_handlerFrames f_S_handlerFrames n_S_handlerPlaces f_S_handlerPlaces n_S_handlerHeights f_S_handlerHeights n_S_handlerDepths f_S_handlerDepths H_globalsUsed H_used H_old H_oldLeadsToNew f_H_globals n_H_cells f_H_cells n_H_spare := by
  obtain ⟨⟨s1, s2, s3, s4, s5, s6, s7⟩, ⟨l1, l2, l3⟩, ⟨t1, t2, t3, t4, t5⟩, ⟨v1, v2⟩, hp, hkn, hn⟩ := h
  subst t1
  refine ⟨?_, ⟨s1, s2, by omega, s4, by omega, s6, s7⟩, ⟨l1, l2, l3⟩, ⟨rfl, t2, t3, by omega, t5⟩, ⟨fun j hj => ?_, v2⟩, hp, hkn, hn⟩
  · unfold m_Stacks_replace
    simp (disch := omega) only [q_o, q_0, q_1, q_2, q_3, q_4, q_5, q_6, q_7, q_8, q_9, q_10, q_11, q_12, q_13, q_14, q_15, q_16, q_17, q_18, q_19, q_20, q_21, q_22, q_23, q_24, q_25, q_26, q_27, q_28, q_29, q_30, q_31, q_32, q_33, q_34, q_35, q_36, q_37, q_38, q_39, q_40, q_41, q_42, q_43, q_44, q_45, q_46, q_47, q_48, q_49, q_50, q_51, q_52, q_53, q_63, q_64, q_126, q_128, q_255, q_512, q_1024, q_1026, q_2000, q_2048, q_2049, q_4095, q_4096, q_8192, q_16383, q_65535, q_65536, q_69632, q_131072, q_132000, q_262144, q_300000, q_1000000, q_lt_t, q_lt_f, q_le_t, q_le_f, q_eq_t, q_eq_f, q_cl, q_add, q_mul, q_sub, q_nle_f, q_nle_t, q_nlt_f, q_nlt_t, q_neq_f, eq_self, q_n1, q_n2, q_m1, q_m1', q_m2, q_m21, q_m0, q_ml, upd_e, upd_n, updL_e, updL_n, updF_e, updF_n, let_d, tk_s, bind_s, or_false, false_or, and_true, true_and, if_true, if_false, ite_true, ite_false, reduceIte, not_true, not_false_iff, Nat.zero_add, Nat.add_zero, Nat.sub_zero]
  · by_cases e : j = t - k
    · rw [updL_e e, upA_e e]; exact ⟨rfl, hv⟩
    · rw [updL_n e, upA_n e]; exact v1 j (by omega)
theorem eR_drop {k : Nat} (h : eR nk nm nid G lE gg t gs fr gc hn gb gf gr hF hH hP hD S_top S_frames S_handlers n_S_values f_S_values n_S_bases f_S_bases n_S_floors f_S_floors n_S_returns f_S_returns n_S_closures f_S_closures n_S_handlerFrames f_S_handlerFrames n_S_handlerPlaces f_S_handlerPlaces n_S_handlerHeights f_S_handlerHeights n_S_handlerDepths f_S_handlerDepths H_globalsUsed H_used H_old H_oldLeadsToNew f_H_globals n_H_cells f_H_cells n_H_spare) (hkt : gf (fr - 1) + k ≤ t) : eR nk nm nid G lE gg (t - k) gs fr gc hn gb gf gr hF hH hP hD (nI (t - k)) S_frames S_handlers n_S_values f_S_values n_S_bases f_S_bases n_S_floors f_S_floors n_S_returns f_S_returns n_S_closures f_S_closures n_S_handlerFrames f_S_handlerFrames n_S_handlerPlaces f_S_handlerPlaces n_S_handlerHeights f_S_handlerHeights n_S_handlerDepths f_S_handlerDepths H_globalsUsed H_used H_old H_oldLeadsToNew f_H_globals n_H_cells f_H_cells n_H_spare := by
  obtain ⟨⟨s1, s2, s3, s4, s5, s6, s7⟩, hl, ⟨t1, t2, t3, t4, t5⟩, ⟨v1, v2⟩, hp, hkn, hn⟩ := h
  exact ⟨⟨s1, s2, by omega, s4, by omega, s6, s7⟩, hl, ⟨rfl, t2, t3, by omega, t5⟩, ⟨fun j hj => v1 j (by omega), v2⟩, hp, hkn, hn⟩
theorem eR_peek {k : Nat} (h : eR nk nm nid G lE gg t gs fr gc hn gb gf gr hF hH hP hD S_top S_frames S_handlers n_S_values f_S_values n_S_bases f_S_bases n_S_floors f_S_floors n_S_returns f_S_returns n_S_closures f_S_closures n_S_handlerFrames f_S_handlerFrames n_S_handlerPlaces f_S_handlerPlaces n_S_handlerHeights f_S_handlerHeights n_S_handlerDepths f_S_handlerDepths H_globalsUsed H_used H_old H_oldLeadsToNew f_H_globals n_H_cells f_H_cells n_H_spare) (hk : k < t) : m_Stacks_peek N S_top S_frames S_handlers n_S_values f_S_values (nI k) = some (wE G lE (gs (t - 1 - k))) := by
  obtain ⟨⟨s1, s2, s3, s4⟩, ⟨l1, l2, l3⟩, ⟨t1, t2, t3, t4, t5⟩, ⟨v1, v2⟩, hp, hkn, hn⟩ := h
  subst t1
  have hv := (v1 (t - 1 - k) (by omega)).1
  unfold m_Stacks_peek
  simp (disch := omega) only [q_o, q_0, q_1, q_2, q_3, q_4, q_5, q_6, q_7, q_8, q_9, q_10, q_11, q_12, q_13, q_14, q_15, q_16, q_17, q_18, q_19, q_20, q_21, q_22, q_23, q_24, q_25, q_26, q_27, q_28, q_29, q_30, q_31, q_32, q_33, q_34, q_35, q_36, q_37, q_38, q_39, q_40, q_41, q_42, q_43, q_44, q_45, q_46, q_47, q_48, q_49, q_50, q_51, q_52, q_53, q_63, q_64, q_126, q_128, q_255, q_512, q_1024, q_1026, q_2000, q_2048, q_2049, q_4095, q_4096, q_8192, q_16383, q_65535, q_65536, q_69632, q_131072, q_132000, q_262144, q_300000, q_1000000, q_lt_t, q_lt_f, q_le_t, q_le_f, q_eq_t, q_eq_f, q_cl, q_add, q_mul, q_sub, q_nle_f, q_nle_t, q_nlt_f, q_nlt_t, q_neq_f, eq_self, q_n1, q_n2, q_m1, q_m1', q_m2, q_m21, q_m0, q_ml, upd_e, upd_n, updL_e, updL_n, updF_e, updF_n, let_d, tk_s, bind_s, or_false, false_or, and_true, true_and, if_true, if_false, ite_true, ite_false, reduceIte, not_true, not_false_iff, Nat.zero_add, Nat.add_zero, Nat.sub_zero, hv]
theorem eR_height (h : eR nk nm nid G lE gg t gs fr gc hn gb gf gr hF hH hP hD S_top S_frames S_handlers n_S_values f_S_values n_S_bases f_S_bases n_S_floors f_S_floors n_S_returns f_S_returns n_S_closures f_S_closures n_S_handlerFrames f_S_handlerFrames n_S_handlerPlaces f_S_handlerPlaces n_S_handlerHeights f_S_handlerHeights n_S_handlerDepths f_S_handlerDepths H_globalsUsed H_used H_old H_oldLeadsToNew f_H_globals n_H_cells f_H_cells n_H_spare) : m_Stacks_height N S_top S_frames S_handlers n_S_floors f_S_floors = some (nI (t - gf (fr - 1))) := by
  obtain ⟨⟨s1, s2, s3, s4, s5, s6⟩, ⟨l1, l2, l3, l4, l5, l6⟩, ⟨t1, t2, t3, t4, t5, t6, t7, t8⟩, ⟨v1, v2⟩, hp, hkn, hn⟩ := h
  subst t1 t2
  have hv := (t7 (fr - 1) (by omega)).2
  unfold m_Stacks_height
  simp (disch := omega) only [q_o, q_0, q_1, q_2, q_3, q_4, q_5, q_6, q_7, q_8, q_9, q_10, q_11, q_12, q_13, q_14, q_15, q_16, q_17, q_18, q_19, q_20, q_21, q_22, q_23, q_24, q_25, q_26, q_27, q_28, q_29, q_30, q_31, q_32, q_33, q_34, q_35, q_36, q_37, q_38, q_39, q_40, q_41, q_42, q_43, q_44, q_45, q_46, q_47, q_48, q_49, q_50, q_51, q_52, q_53, q_63, q_64, q_126, q_128, q_255, q_512, q_1024, q_1026, q_2000, q_2048, q_2049, q_4095, q_4096, q_8192, q_16383, q_65535, q_65536, q_69632, q_131072, q_132000, q_262144, q_300000, q_1000000, q_lt_t, q_lt_f, q_le_t, q_le_f, q_eq_t, q_eq_f, q_cl, q_add, q_mul, q_sub, q_nle_f, q_nle_t, q_nlt_f, q_nlt_t, q_neq_f, eq_self, q_n1, q_n2, q_m1, q_m1', q_m2, q_m21, q_m0, q_ml, upd_e, upd_n, updL_e, updL_n, updF_e, updF_n, let_d, tk_s, bind_s, or_false, false_or, and_true, true_and, if_true, if_false, ite_true, ite_false, reduceIte, not_true, not_false_iff, Nat.zero_add, Nat.add_zero, Nat.sub_zero, hv]
theorem rR_height (h : rR nk nm nid G lR gg t gs fr gc hn gb gf gr hF hH hP hD I F) (hs : shp t fr hn gb gf hF hH) : m_Model_height N I F = some (nI (t - gf (fr - 1))) := by
  obtain ⟨s1, s2, s3, s4, s5, s6, s7⟩ := hs
  obtain ⟨⟨a1, a2, a3, a4, a5, a6, a7, a8⟩, ⟨b1, b2⟩, hc⟩ := h
  have hb := a4 (fr - 1) (by omega)
  have hx := s6 (fr - 1) (by omega)
  unfold m_Model_height
  simp (disch := omega) only [q_o, q_0, q_1, q_2, q_3, q_4, q_5, q_6, q_7, q_8, q_9, q_10, q_11, q_12, q_13, q_14, q_15, q_16, q_17, q_18, q_19, q_20, q_21, q_22, q_23, q_24, q_25, q_26, q_27, q_28, q_29, q_30, q_31, q_32, q_33, q_34, q_35, q_36, q_37, q_38, q_39, q_40, q_41, q_42, q_43, q_44, q_45, q_46, q_47, q_48, q_49, q_50, q_51, q_52, q_53, q_63, q_64, q_126, q_128, q_255, q_512, q_1024, q_1026, q_2000, q_2048, q_2049, q_4095, q_4096, q_8192, q_16383, q_65535, q_65536, q_69632, q_131072, q_132000, q_262144, q_300000, q_1000000, q_lt_t, q_lt_f, q_le_t, q_le_f, q_eq_t, q_eq_f, q_cl, q_add, q_mul, q_sub, q_nle_f, q_nle_t, q_nlt_f, q_nlt_t, q_neq_f, eq_self, q_n1, q_n2, q_m1, q_m1', q_m2, q_m21, q_m0, q_ml, upd_e, upd_n, updL_e, updL_n, updF_e, updF_n, let_d, tk_s, bind_s, or_false, false_or, and_true, true_and, if_true, if_false, ite_true, ite_false, reduceIte, not_true, not_false_iff, Nat.zero_add, Nat.add_zero, Nat.sub_zero, a1, a2, hb.1, hb.2]
  congr 2
  omega
end TR
