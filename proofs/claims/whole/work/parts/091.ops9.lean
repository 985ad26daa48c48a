/-! Instructions: frames -/
section OPS
variable {N : Nat}
variable {nk : Nat → Nat} {nm : Nat} {nid : Nat} {G : Nat → GO} {lE : List Nat} {gg : Nat → AV} {t : Nat} {gs : Nat → AV} {fr : Nat} {gc : Nat → AV} {hn : Nat} {gb : Nat → Nat} {gf : Nat → Nat} {gr : Nat → Int32} {hF : Nat → Nat} {hH : Nat → Nat} {hP : Nat → Int32} {hD : Nat → Int32} {lR : List Nat} {P_size : Int32} {P_constants : Int32} {P_closed : Int32} {P_open : Int32} {O_size : Int32} {S_top : Int32} {S_frames : Int32} {S_handlers : Int32} {H_globalsUsed : Int32} {H_used : Int32} {H_spareUsed : Int32} {H_old : Int32} {H_oldLeadsToNew : Int32} {H_limit : Int32} {H_every : Int32} {H_fresh : Int32} {H_made : Int32} {H_madeLimit : Int32} {H_reachedFromGlobals : Int32} {H_reachedInAll : Int32} {H_keptGlobalsUsed : Int32} {H_kept : Int32} {B_names : Int32} {Q_size : Int32} {M_status : Int32} {M_place : Int32} {M_next : Int32} {M_fuel : Int32} {M_ticks : Int32} {M_depth : Int32} {M_depthLimit : Int32} {M_done : Int32} {n_P_words : Nat} {f_P_words : Nat → Int32} {n_P_bytes : Nat} {f_P_bytes : Nat → Int32} {n_P_ends : Nat} {f_P_ends : Nat → Int32} {n_O_bytes : Nat} {f_O_bytes : Nat → Int32} {n_S_values : Nat} {f_S_values : Nat → Int64} {n_S_bases : Nat} {f_S_bases : Nat → Int32} {n_S_floors : Nat} {f_S_floors : Nat → Int32} {n_S_returns : Nat} {f_S_returns : Nat → Int32} {n_S_closures : Nat} {f_S_closures : Nat → Int64} {n_S_handlerFrames : Nat} {f_S_handlerFrames : Nat → Int32} {n_S_handlerPlaces : Nat} {f_S_handlerPlaces : Nat → Int32} {n_S_handlerHeights : Nat} {f_S_handlerHeights : Nat → Int32} {n_S_handlerDepths : Nat} {f_S_handlerDepths : Nat → Int32} {n_H_globals : Nat} {f_H_globals : Nat → Int64} {n_H_cells : Nat} {f_H_cells : Nat → Int64} {n_H_spare : Nat} {f_H_spare : Nat → Int64} {n_Q_links : Nat} {f_Q_links : Nat → Int32} {n_Q_pairs : Nat} {f_Q_pairs : Nat → Int64} {I : Nat → Int32} {F : Nat → Nat → Int32}
theorem enter_E {t fr nV nB : Nat} {fV fC : Nat → Int64} {fB fF fR : Nat → Int32} {bk sh : Int32} (h0 : fr < 8192) (h1 : 1 ≤ fr) (h2 : fr ≤ nB) (h3 : 16 ≤ nB) (h4 : nB ≤ 8192) (ht : 2 ≤ t) (htV : t ≤ nV) (hV : nV ≤ 65536) :
    ∃ (n' : Nat) (fB' fF' fR' : Nat → Int32) (fC' : Nat → Int64) (c s : Nat), m_Stacks_enter N (nI t) (nI fr) sh nV fV nB fB nB fF nB fR nB fC bk = some ((nI 5, vp_updL fV (t - 2) (fV (t - 1)), nI (fr + 1), nI (t - 1), n', fB', n', fC', n', fF', n', fR'), c, s) ∧ fr + 1 ≤ n' ∧ 16 ≤ n' ∧ n' ≤ 8192 ∧ (∀ k, k < fr → fB' k = fB k ∧ fF' k = fF k ∧ fR' k = fR k ∧ fC' k = fC k) ∧ fB' fr = nI (t - 2) ∧ fF' fr = nI (t - 1) ∧ fR' fr = bk ∧ fC' fr = fV (t - 2) ∧ s + 150 * c + 4 * pot 8192 nB ≤ 4 * pot 8192 n' := by
  have e1 : t - 2 + 1 = t - 1 := by omega
  have e2 : t - 1 - 1 = t - 2 := by omega
  by_cases hlt : fr < nB
  · refine ⟨nB, upd fB fr (nI (t - 2)), upd fF fr (nI (t - 1)), upd fR fr bk, vp_updL fC fr (fV (t - 2)), 0, 0, ?_, by omega, h3, h4, fun k hk => ⟨upd_n (by omega), upd_n (by omega), upd_n (by omega), updL_n (by omega)⟩, upd_e rfl, upd_e rfl, upd_e rfl, updL_e rfl, by omega⟩
    unfold m_Stacks_enter m_Stacks_peek m_Stacks_replace
    simp (disch := omega) only [q_o, q_0, q_1, q_2, q_3, q_4, q_5, q_6, q_7, q_8, q_9, q_10, q_11, q_12, q_13, q_14, q_15, q_16, q_17, q_18, q_19, q_20, q_21, q_22, q_23, q_24, q_25, q_26, q_27, q_28, q_29, q_30, q_31, q_32, q_33, q_34, q_35, q_36, q_37, q_38, q_39, q_40, q_41, q_42, q_43, q_44, q_45, q_46, q_47, q_48, q_49, q_50, q_51, q_52, q_53, q_63, q_64, q_126, q_128, q_255, q_512, q_1024, q_1026, q_2000, q_2048, q_2049, q_4095, q_4096, q_8192, q_16383, q_65535, q_65536, q_69632, q_131072, q_132000, q_262144, q_300000, q_1000000, q_lt_t, q_lt_f, q_le_t, q_le_f, q_eq_t, q_eq_f, q_cl, q_add, q_mul, q_sub, q_nle_f, q_nle_t, q_nlt_f, q_nlt_t, q_neq_f, eq_self, q_n1, q_n2, q_m1, q_m1', q_m2, q_m21, q_m0, q_ml, upd_e, upd_n, updL_e, updL_n, updF_e, updF_n, let_d, tk_s, bind_s, or_false, false_or, and_true, true_and, if_true, if_false, ite_true, ite_false, reduceIte, not_true, not_false_iff, Nat.zero_add, Nat.add_zero, Nat.sub_zero, e1, e2]
  · have hl := longer_E (N := N) (n := nB) (need := fr + 1) (m := 8192) (by omega) (by omega) (by omega)
    have hc := fun f : Nat → Int32 => copyI_E (N := N) (n := nB) (m := min 8192 (max (fr + 1) (2 * nB))) (f := f) (by omega) (by omega)
    have hc2 := fun f : Nat → Int64 => copyJ_E (N := N) (n := nB) (m := min 8192 (max (fr + 1) (2 * nB))) (f := f) (by omega) (by omega)
    have hp := pot_new (n := nB) (m := 8192) (k := min 8192 (max (fr + 1) (2 * nB))) (by omega) (by omega)
    have hM1 : fr + 1 ≤ min 8192 (max (fr + 1) (2 * nB)) := by omega
    have hM2 : 16 ≤ min 8192 (max (fr + 1) (2 * nB)) := by omega
    have hM3 : min 8192 (max (fr + 1) (2 * nB)) ≤ 8192 := by omega
    revert hl hc hc2 hp hM1 hM2 hM3
    generalize min 8192 (max (fr + 1) (2 * nB)) = M
    intro hl hc hc2 hp hM1 hM2 hM3
    refine ⟨M, upd (va_cpy fB (fun _ => 0) 0 0 nB) fr (nI (t - 2)), upd (va_cpy fF (fun _ => 0) 0 0 nB) fr (nI (t - 1)), upd (va_cpy fR (fun _ => 0) 0 0 nB) fr bk, vp_updL (va_cpy fC (fun _ => 0) 0 0 nB) fr (fV (t - 2)), 4, M + M + M + M, ?_, hM1, hM2, hM3, fun k hk => ⟨?_, ?_, ?_, ?_⟩, upd_e rfl, upd_e rfl, upd_e rfl, updL_e rfl, by omega⟩
    · unfold m_Stacks_enter m_Stacks_widenFrames m_Stacks_peek m_Stacks_replace
      simp (disch := omega) only [q_o, q_0, q_1, q_2, q_3, q_4, q_5, q_6, q_7, q_8, q_9, q_10, q_11, q_12, q_13, q_14, q_15, q_16, q_17, q_18, q_19, q_20, q_21, q_22, q_23, q_24, q_25, q_26, q_27, q_28, q_29, q_30, q_31, q_32, q_33, q_34, q_35, q_36, q_37, q_38, q_39, q_40, q_41, q_42, q_43, q_44, q_45, q_46, q_47, q_48, q_49, q_50, q_51, q_52, q_53, q_63, q_64, q_126, q_128, q_255, q_512, q_1024, q_1026, q_2000, q_2048, q_2049, q_4095, q_4096, q_8192, q_16383, q_65535, q_65536, q_69632, q_131072, q_132000, q_262144, q_300000, q_1000000, q_lt_t, q_lt_f, q_le_t, q_le_f, q_eq_t, q_eq_f, q_cl, q_add, q_mul, q_sub, q_nle_f, q_nle_t, q_nlt_f, q_nlt_t, q_neq_f, eq_self, q_n1, q_n2, q_m1, q_m1', q_m2, q_m21, q_m0, q_ml, upd_e, upd_n, updL_e, updL_n, updF_e, updF_n, let_d, tk_s, bind_s, or_false, false_or, and_true, true_and, if_true, if_false, ite_true, ite_false, reduceIte, not_true, not_false_iff, Nat.zero_add, Nat.add_zero, Nat.sub_zero, hl, hc, hc2, e1, e2]
    · rw [upd_n (by omega), cpy_lt (by omega)]
    · rw [upd_n (by omega), cpy_lt (by omega)]
    · rw [upd_n (by omega), cpy_lt (by omega)]
    · rw [updL_n (by omega), cpy_lt (by omega)]
theorem call_F1 (hI : m_Model_is N I F (nI 2) (nI 4) = some (nI 0)) : m_Model_call N I F = some (nI 4, F, I) := by
  have h : m_Model_is N I F 2 4 = some (nI 0) := hI
  unfold m_Model_call
  rw [h, bind_s, if_pos (show nI 0 = 0 from rfl)]
  rfl
theorem call_F2 (hI : m_Model_is N I F (nI 2) (nI 4) = some (nI 1)) (hf : I 22 = nI 8192) : m_Model_call N I F = some (nI 3, F, I) := by
  have h : m_Model_is N I F 2 4 = some (nI 1) := hI
  unfold m_Model_call
  rw [h, bind_s, if_neg (show ¬ nI 1 = 0 by decide), if_pos (show I 22 = 8192 from hf)]
  rfl
theorem call_R {o p : Nat} (hr : rR nk nm nid G lR gg t gs fr gc hn gb gf gr hF hH hP hD I F) (h1 : 1 ≤ fr) (h2 : fr < 8192) (h3 : t ≤ 65536) (h4 : 2 ≤ t) (h35 : I 35 = nI p) (hI : m_Model_is N I F (nI 2) (nI 4) = some (nI 1)) (ho : gs (t - 2) = vO o) (hK : gK G o = 4) : m_Model_call N I F = some (nI 5, updF (updF (updF (updF (updF (updF F 27 (upd (F 27) (t - 2) (tR (gs (t - 1))))) 28 (upd (F 28) (t - 2) (vR G lR (gs (t - 1))))) 23 (upd (F 23) fr (nI (adr (gZ G) lR o)))) 24 (upd (F 24) fr (nI (t - 2)))) 25 (upd (F 25) fr (nI 1))) 26 (upd (F 26) fr (nI (p + 1))), upd (upd (upd I 29 (nI (t - 1))) 22 (nI (fr + 1))) 35 (gN G o)) := by
  have hs := scalar_R (N := N) (d := 2) hr (by omega) h4 h3
  have hoR := (at_R (d := 2) hr (by omega) h4).2.2
  rw [ho] at hs hoR
  have hs : m_Model_scalar N I F (nI 2) = some (nI (adr (gZ G) lR o)) := hs
  obtain ⟨y1, y2, y3, y4, y5⟩ := frR hr h1
  obtain ⟨u1, u2, u3⟩ := vRr hr (k := t - 1) (by omega)
  obtain ⟨o1, o2, o3, o4, o5, o6⟩ := obj_R hr hoR
  have ech : chR G o = gN G o := by unfold chR; rw [if_neg (by omega)]
  rw [ech] at o5
  have em : t - 1 - 1 = t - 2 := by omega
  have q822 : (nI fr = nI 8192) = False := q_eq_f (by omega) (by omega) (by omega)
  clear hr
  unfold m_Model_call
  simp only [q_1, q_2, q_4, q_0, q_5, q_8192, hI, hs, bind_s, q_eq_f (show (1 : Nat) ≠ 0 by omega) (by omega) (by omega), q_eq_t (show (0 : Nat) = 0 from rfl), if_true, if_false, ite_true, ite_false, reduceIte, y2, q822]
  simp (maxSteps := 2000000) (disch := omega) only [q_o, q_0, q_1, q_2, q_3, q_4, q_5, q_6, q_7, q_8, q_9, q_10, q_11, q_12, q_13, q_14, q_15, q_16, q_17, q_18, q_19, q_20, q_21, q_22, q_23, q_24, q_25, q_26, q_27, q_28, q_29, q_30, q_31, q_32, q_33, q_34, q_35, q_36, q_37, q_38, q_39, q_40, q_41, q_42, q_43, q_44, q_45, q_46, q_47, q_48, q_49, q_50, q_51, q_52, q_53, q_63, q_64, q_126, q_128, q_255, q_512, q_1024, q_1026, q_2000, q_2048, q_2049, q_4095, q_4096, q_8192, q_16383, q_65535, q_65536, q_69632, q_131072, q_132000, q_262144, q_300000, q_1000000, q_lt_t, q_lt_f, q_le_t, q_le_f, q_eq_t, q_eq_f, q_cl, q_add, q_mul, q_sub, q_nle_f, q_nle_t, q_nlt_f, q_nlt_t, q_neq_f, eq_self, q_n1, q_n2, q_m1, q_m1', q_m2, q_m21, q_m0, q_ml, upd_e, upd_n, updL_e, updL_n, updF_e, updF_n, let_d, tk_s, bind_s, or_false, false_or, and_true, true_and, if_true, if_false, ite_true, ite_false, reduceIte, not_true, not_false_iff, Nat.zero_add, Nat.add_zero, Nat.sub_zero, y1, y2, u1, u2, o5, em, h35]
theorem eR_call {o p n' : Nat} {fB' fF' fR' : Nat → Int32} {fC' : Nat → Int64} (he : eR nk nm nid G lE gg t gs fr gc hn gb gf gr hF hH hP hD S_top S_frames S_handlers n_S_values f_S_values n_S_bases f_S_bases n_S_floors f_S_floors n_S_returns f_S_returns n_S_closures f_S_closures n_S_handlerFrames f_S_handlerFrames n_S_handlerPlaces f_S_handlerPlaces n_S_handlerHeights f_S_handlerHeights n_S_handlerDepths f_S_handlerDepths H_globalsUsed H_used H_old H_oldLeadsToNew f_H_globals n_H_cells f_H_cells n_H_spare) (hh : gf (fr - 1) + 2 ≤ t) (h0 : fr < 8192) (ho : gs (t - 2) = vO o) (hKo : gK G o = 4) (z2 : fr + 1 ≤ n') (z3 : 16 ≤ n') (z4 : n' ≤ 8192) (z5 : ∀ k, k < fr → fB' k = f_S_bases k ∧ fF' k = f_S_floors k ∧ fR' k = f_S_returns k ∧ fC' k = f_S_closures k) (z6 : fB' fr = nI (t - 2)) (z7 : fF' fr = nI (t - 1)) (z8 : fR' fr = nI (p + 1)) (z9 : fC' fr = f_S_values (t - 2)) : eR nk nm nid G lE gg (t - 1) (upA gs (t - 2) (gs (t - 1))) (fr + 1) (upA gc fr (gs (t - 2))) hn (upN gb fr (t - 2)) (upN gf fr (t - 1)) (upd gr fr (nI (p + 1))) hF hH hP hD (nI (t - 1)) (nI (fr + 1)) S_handlers n_S_values (vp_updL f_S_values (t - 2) (f_S_values (t - 1))) n' fB' n' fF' n' fR' n' fC' n_S_handlerFrames f_S_handlerFrames n_S_handlerPlaces f_S_handlerPlaces n_S_handlerHeights f_S_handlerHeights n_S_handlerDepths f_S_handlerDepths H_globalsUsed H_used H_old H_oldLeadsToNew f_H_globals n_H_cells f_H_cells n_H_spare := by
  obtain ⟨v1, v2⟩ := vE he (k := t - 1) (by omega)
  obtain ⟨v1', v2'⟩ := vE he (k := t - 2) (by omega)
  obtain ⟨⟨s1, s2, s3, s4, s5, s6, s7, s8, s9⟩, ⟨l1, l2, l3, l4, l5, l6, l7, l8⟩, ⟨t1, t2, t3, t4, t5, t6, t7, t8, t9⟩, ⟨w1, w2⟩, e5, e6, e7⟩ := he
  refine ⟨⟨by omega, by omega, by omega, s4, ?_, fun k hk => ?_, fun i j h1 h2 => ?_, fun j hj => ?_, s9⟩, ⟨l1, l2, z3, z4, rfl, rfl, rfl, l8⟩, ⟨rfl, rfl, t3, by omega, z2, t6, fun k hk => ?_, fun k h1 hk => ?_, t9⟩, ⟨fun k hk => ?_, fun k hk => ?_⟩, e5, fun k hk => ?_, e7⟩
  · rw [show fr + 1 - 1 = fr by omega, upN_e rfl]; omega
  · by_cases e : k = fr
    · rw [upN_e e, upN_e e]; omega
    · rw [upN_n e, upN_n e]; exact s6 k (by omega)
  · by_cases e : j = fr
    · rw [upN_e e, upN_n (by omega)]
      by_cases e2 : i = fr - 1
      · rw [e2]; omega
      · have := s7 i (fr - 1) (by omega) (by omega)
        have := s6 (fr - 1) (by omega)
        omega
    · rw [upN_n (by omega), upN_n e]; exact s7 i j h1 (by omega)
  · have := s8 j hj; omega
  · by_cases e : k = fr
    · rw [e, z6, z7, upN_e rfl, upN_e rfl]; exact ⟨rfl, rfl⟩
    · obtain ⟨y1, y2, y3, y4⟩ := z5 k (by omega)
      rw [y1, y2, upN_n e, upN_n e]; exact t7 k (by omega)
  · by_cases e : k = fr
    · rw [e, z8, upd_e rfl]
    · obtain ⟨y1, y2, y3, y4⟩ := z5 k (by omega)
      rw [y3, upd_n e]; exact t8 k h1 (by omega)
  · by_cases e : k = t - 2
    · rw [updL_e e, upA_e e]; exact ⟨v1, v2⟩
    · rw [updL_n e, upA_n e]; exact w1 k (by omega)
  · by_cases e : k = fr
    · rw [e, z9, upA_e rfl]; exact ⟨v1', v2'⟩
    · obtain ⟨y1, y2, y3, y4⟩ := z5 k (by omega)
      rw [y4, upA_n e]; exact w2 k (by omega)
  · by_cases e : k = fr
    · rw [upA_e e]; exact Or.inr ⟨o, ho, by omega⟩
    · rw [upA_n e]; exact e6 k (by omega)
theorem rR_call {o p : Nat} (hr : rR nk nm nid G lR gg t gs fr gc hn gb gf gr hF hH hP hD I F) (h4 : 2 ≤ t) (ho : gs (t - 2) = vO o) : rR nk nm nid G lR gg (t - 1) (upA gs (t - 2) (gs (t - 1))) (fr + 1) (upA gc fr (gs (t - 2))) hn (upN gb fr (t - 2)) (upN gf fr (t - 1)) (upd gr fr (nI (p + 1))) hF hH hP hD (upd (upd (upd I 29 (nI (t - 1))) 22 (nI (fr + 1))) 35 (gN G o)) (updF (updF (updF (updF (updF (updF F 27 (upd (F 27) (t - 2) (tR (gs (t - 1))))) 28 (upd (F 28) (t - 2) (vR G lR (gs (t - 1))))) 23 (upd (F 23) fr (nI (adr (gZ G) lR o)))) 24 (upd (F 24) fr (nI (t - 2)))) 25 (upd (F 25) fr (nI 1))) 26 (upd (F 26) fr (nI (p + 1)))) := by
  obtain ⟨u1, u2, u3⟩ := vRr hr (k := t - 1) (by omega)
  have hoR := (vRr hr (k := t - 2) (by omega)).2.2
  rw [ho] at hoR
  obtain ⟨⟨a1, a2, a3, a4, a5, a6, a7, a8⟩, ⟨b1, b2⟩, c⟩ := hr
  have hF27 : ∀ j, j ≠ 27 → j ≠ 28 → j ≠ 23 → j ≠ 24 → j ≠ 25 → j ≠ 26 → updF (updF (updF (updF (updF (updF F 27 (upd (F 27) (t - 2) (tR (gs (t - 1))))) 28 (upd (F 28) (t - 2) (vR G lR (gs (t - 1))))) 23 (upd (F 23) fr (nI (adr (gZ G) lR o)))) 24 (upd (F 24) fr (nI (t - 2)))) 25 (upd (F 25) fr (nI 1))) 26 (upd (F 26) fr (nI (p + 1))) j = F j := by
    intro j h1 h2 h3 h4 h5 h6
    rw [updF_n h6, updF_n h5, updF_n h4, updF_n h3, updF_n h2, updF_n h1]
  refine ⟨⟨?_, ?_, ?_, fun k hk => ⟨?_, ?_⟩, fun k h1 hk => ?_, ?_, ?_, ?_⟩, ⟨fun k hk => ?_, fun k hk => ?_⟩, hpR_c c (fun j hj => by rw [upd_n (by omega), upd_n (by omega), upd_n (by omega)]) (fun j hj => hF27 j (by omega) (by omega) (by omega) (by omega) (by omega) (by omega))⟩
  · rw [upd_n (by omega), upd_n (by omega), upd_e rfl]
  · rw [upd_n (by omega), upd_e rfl]
  · rw [upd_n (by omega), upd_n (by omega), upd_n (by omega)]; exact a3
  · rw [updF_n (by omega), updF_n (by omega), updF_e rfl]
    by_cases e : k = fr
    · rw [upd_e e, upN_e e]
    · rw [upd_n e, upN_n e]; exact (a4 k (by omega)).1
  · rw [updF_n (by omega), updF_e rfl]
    by_cases e : k = fr
    · rw [upd_e e, upN_e e, upN_e e]; congr 1; omega
    · rw [upd_n e, upN_n e, upN_n e]; exact (a4 k (by omega)).2
  · rw [updF_e rfl]
    by_cases e : k = fr
    · rw [upd_e e, upd_e e]
    · rw [upd_n e, upd_n e]; exact a5 k h1 (by omega)
  · rw [hF27 31 (by omega) (by omega) (by omega) (by omega) (by omega) (by omega), hF27 32 (by omega) (by omega) (by omega) (by omega) (by omega) (by omega), hF27 33 (by omega) (by omega) (by omega) (by omega) (by omega) (by omega), hF27 34 (by omega) (by omega) (by omega) (by omega) (by omega) (by omega)]; exact a6
  · rw [upd_n (by omega), upd_n (by omega), upd_n (by omega)]; exact a7
  · rw [upd_n (by omega), upd_n (by omega), upd_n (by omega)]; exact a8
  · rw [updF_n (show (27 : Nat) ≠ 26 by omega), updF_n (show (27 : Nat) ≠ 25 by omega), updF_n (show (27 : Nat) ≠ 24 by omega), updF_n (show (27 : Nat) ≠ 23 by omega), updF_n (show (27 : Nat) ≠ 28 by omega), updF_e rfl, updF_n (show (28 : Nat) ≠ 26 by omega), updF_n (show (28 : Nat) ≠ 25 by omega), updF_n (show (28 : Nat) ≠ 24 by omega), updF_n (show (28 : Nat) ≠ 23 by omega), updF_e rfl]
    by_cases e : k = t - 2
    · rw [upd_e e, upd_e e, upA_e e]; exact ⟨u3, rfl, rfl⟩
    · rw [upd_n e, upd_n e, upA_n e]; exact b1 k (by omega)
  · rw [updF_n (show (23 : Nat) ≠ 26 by omega), updF_n (show (23 : Nat) ≠ 25 by omega), updF_n (show (23 : Nat) ≠ 24 by omega), updF_e rfl]
    by_cases e : k = fr
    · rw [upd_e e, upA_e e, ho]; exact ⟨hoR, rfl⟩
    · rw [upd_n e, upA_n e]; exact b2 k (by omega)
set_option maxRecDepth 4000 in
set_option maxHeartbeats 4000000 in
theorem op_17 {a wd : Int32} {p L : Nat} (hN : 400000 ≤ N) (he : eR nk nm nid G lE gg t gs fr gc hn gb gf gr hF hH hP hD S_top S_frames S_handlers n_S_values f_S_values n_S_bases f_S_bases n_S_floors f_S_floors n_S_returns f_S_returns n_S_closures f_S_closures n_S_handlerFrames f_S_handlerFrames n_S_handlerPlaces f_S_handlerPlaces n_S_handlerHeights f_S_handlerHeights n_S_handlerDepths f_S_handlerDepths H_globalsUsed H_used H_old H_oldLeadsToNew f_H_globals n_H_cells f_H_cells n_H_spare) (hr : rR nk nm nid G lR gg t gs fr gc hn gb gf gr hF hH hP hD I F) (hx : xR nm M_fuel M_ticks H_made M_depth B_names O_size n_O_bytes f_O_bytes n_Q_links f_Q_links n_Q_pairs n_H_cells I F) (h35 : I 35 = nI p) (hp : p < 262144) (hop : F 14 p = nI 17) (hh : gf (fr - 1) + 2 ≤ t) (h43 : I 43 = nI L) (hL : L ≤ 131072) : opR nm n_H_cells I F (potE n_S_values n_S_bases n_S_handlerFrames n_H_cells n_H_spare n_Q_links n_Q_pairs n_O_bytes) (m_Machine_perform N P_size P_constants P_closed P_open O_size S_top S_frames S_handlers H_globalsUsed H_used H_spareUsed H_old H_oldLeadsToNew (nI L) H_every H_fresh H_made (I 44) H_reachedFromGlobals H_reachedInAll H_keptGlobalsUsed H_kept B_names Q_size M_status (nI p) (nI (p + 1)) M_fuel M_ticks M_depth (I 45) M_done n_P_words f_P_words n_P_bytes f_P_bytes n_P_ends f_P_ends n_O_bytes f_O_bytes n_S_values f_S_values n_S_bases f_S_bases n_S_floors f_S_floors n_S_returns f_S_returns n_S_closures f_S_closures n_S_handlerFrames f_S_handlerFrames n_S_handlerPlaces f_S_handlerPlaces n_S_handlerHeights f_S_handlerHeights n_S_handlerDepths f_S_handlerDepths 2049 f_H_globals n_H_cells f_H_cells n_H_spare f_H_spare n_Q_links f_Q_links n_Q_pairs f_Q_pairs (nI 17) a) (sw N I F a wd) := by
  obtain ⟨q1, q2, q3, qt, qs, qh, qb, qf, q4, q5, q6, q7, q8, q9, qx, qy, qz⟩ := frE he
  obtain ⟨y1, y2, y3, y4, y5⟩ := frR hr q1
  subst qt qs qh
  obtain ⟨v1, v2⟩ := vE he (k := t - 1) (by omega)
  obtain ⟨u1, u2, u3⟩ := vRr hr (k := t - 1) (by omega)
  have hpk := eR_peek (N := N) (k := 0) he (by omega)
  rw [Nat.sub_zero] at hpk
  obtain ⟨hG, hT, hC, hH', hnn⟩ := eR_hp he
  have hkd := kd_E (N := N) hG v2
  have hk8 := kV_8 hG v2
  have hGR := hr.2.2.1
  obtain ⟨v1', v2'⟩ := vE he (k := t - 2) (by omega)
  obtain ⟨u1', u2', u3'⟩ := vRr hr (k := t - 2) (by omega)
  have hpk' := eR_peek (N := N) (k := 1) he (by omega)
  rw [show t - 1 - 1 = t - 2 by omega] at hpk'
  have hkd' := kd_E (N := N) hG v2'
  have hk8' := kV_8 hG v2'
  have hI := is_K (N := N) (d := 2) (K := 4) hr (by omega) (by omega) q3 (by omega) (by omega)
  by_cases hK : kV G (gs (t - 2)) = 4
  · obtain ⟨o, ho, hKo⟩ := kV_obj (v := gs (t - 2)) (G := G) (by omega)
    have hoE : o ∈ lE := by rw [ho] at v2'; exact v2'
    rw [if_pos hK] at hI
    rw [hK] at hkd'
    have hto := told_O (N := N) he hoE
    rw [if_neg (by omega)] at hto
    obtain ⟨l1, l2, l3, l4, l5, l6, l7, l8⟩ := he.2.1
    by_cases h0 : fr < 8192
    · rw [l5, l6, l7]
      obtain ⟨n', fB', fF', fR', fC', cc, ss, z1, z2, z3, z4, z5, z6, z7, z8, z9, z10⟩ := enter_E (N := N) (t := t) (fV := f_S_values) (fB := f_S_bases) (fF := f_S_floors) (fR := f_S_returns) (fC := f_S_closures) (bk := nI (p + 1)) (sh := nI hn) h0 q1 q8 l3 l4 (by omega) q6 l2
      have hE' := eR_call he hh h0 ho (by omega) z2 z3 z4 z5 z6 z7 z8 z9
      have hR' := rR_call (p := p) hr (by omega) ho
      have hc := call_R (N := N) hr q1 h0 q3 (by omega) h35 hI ho (by omega)
      refine ⟨nI 5, f_H_globals, Q_size, H_fresh, H_globalsUsed, H_made, H_old, H_oldLeadsToNew, H_reachedFromGlobals, H_reachedInAll, H_spareUsed, H_used, M_depth, M_fuel, (gN G o), M_ticks, B_names, O_size, (nI (fr + 1)), (nI hn), (nI (t - 1)), n_Q_links, f_Q_links, n_Q_pairs, f_Q_pairs, n_H_cells, f_H_cells, n_H_spare, f_H_spare, n_O_bytes, f_O_bytes, n', fB', n', fC', n', fF', n_S_handlerDepths, f_S_handlerDepths, n_S_handlerFrames, f_S_handlerFrames, n_S_handlerHeights, f_S_handlerHeights, n_S_handlerPlaces, f_S_handlerPlaces, n', fR', n_S_values, (vp_updL f_S_values (t - 2) (f_S_values (t - 1))), cc, ss, upd (upd (upd I 29 (nI (t - 1))) 22 (nI (fr + 1))) 35 (gN G o), updF (updF (updF (updF (updF (updF F 27 (upd (F 27) (t - 2) (tR (gs (t - 1))))) 28 (upd (F 28) (t - 2) (vR G lR (gs (t - 1))))) 23 (upd (F 23) fr (nI (adr (gZ G) lR o)))) 24 (upd (F 24) fr (nI (t - 2)))) 25 (upd (F 25) fr (nI 1))) 26 (upd (F 26) fr (nI (p + 1))), ?_, ?_, pst_on hE' hR' (xR_c hx (fun j hj => by rw [upd_n (by omega), upd_n (by omega), upd_n (by omega)]) (by rw [updF_n (by omega), updF_n (by omega), updF_n (by omega), updF_n (by omega), updF_n (by omega), updF_n (by omega)])) (by omega) ⟨fun j hj => by rw [updF_n (by omega), updF_n (by omega), updF_n (by omega), updF_n (by omega), updF_n (by omega), updF_n (by omega)], fun j hj => by rw [upd_n (by omega), upd_n (by omega), upd_n (by omega)]⟩ (by rw [upd_e rfl]) (by unfold potE; omega)⟩
      · rw [ho] at hpk' hkd'
        clear hE' hR' hx
        rw [pf_17]; simp (disch := omega) only [q_o, q_0, q_1, q_2, q_3, q_4, q_5, q_6, q_7, q_8, q_9, q_10, q_11, q_12, q_13, q_14, q_15, q_16, q_17, q_18, q_19, q_20, q_21, q_22, q_23, q_24, q_25, q_26, q_27, q_28, q_29, q_30, q_31, q_32, q_33, q_34, q_35, q_36, q_37, q_38, q_39, q_40, q_41, q_42, q_43, q_44, q_45, q_46, q_47, q_48, q_49, q_50, q_51, q_52, q_53, q_63, q_64, q_126, q_128, q_255, q_512, q_1024, q_1026, q_2000, q_2048, q_2049, q_4095, q_4096, q_8192, q_16383, q_65535, q_65536, q_69632, q_131072, q_132000, q_262144, q_300000, q_1000000, q_lt_t, q_lt_f, q_le_t, q_le_f, q_eq_t, q_eq_f, q_cl, q_add, q_mul, q_sub, q_nle_f, q_nle_t, q_nlt_f, q_nlt_t, q_neq_f, eq_self, q_n1, q_n2, q_m1, q_m1', q_m2, q_m21, q_m0, q_ml, upd_e, upd_n, updL_e, updL_n, updF_e, updF_n, let_d, tk_s, bind_s, or_false, false_or, and_true, true_and, if_true, if_false, ite_true, ite_false, reduceIte, not_true, not_false_iff, Nat.zero_add, Nat.add_zero, Nat.sub_zero, m_Machine_enterFrame, hpk', hkd', z1, hto]
      · clear hE' hR' hx he
        rw [sw_17 (by rw [h35, q_cl (by omega)]; exact hop)]; simp (maxSteps := 2000000) (disch := omega) only [q_o, q_0, q_1, q_2, q_3, q_4, q_5, q_6, q_7, q_8, q_9, q_10, q_11, q_12, q_13, q_14, q_15, q_16, q_17, q_18, q_19, q_20, q_21, q_22, q_23, q_24, q_25, q_26, q_27, q_28, q_29, q_30, q_31, q_32, q_33, q_34, q_35, q_36, q_37, q_38, q_39, q_40, q_41, q_42, q_43, q_44, q_45, q_46, q_47, q_48, q_49, q_50, q_51, q_52, q_53, q_63, q_64, q_126, q_128, q_255, q_512, q_1024, q_1026, q_2000, q_2048, q_2049, q_4095, q_4096, q_8192, q_16383, q_65535, q_65536, q_69632, q_131072, q_132000, q_262144, q_300000, q_1000000, q_lt_t, q_lt_f, q_le_t, q_le_f, q_eq_t, q_eq_f, q_cl, q_add, q_mul, q_sub, q_nle_f, q_nle_t, q_nlt_f, q_nlt_t, q_neq_f, eq_self, q_n1, q_n2, q_m1, q_m1', q_m2, q_m21, q_m0, q_ml, upd_e, upd_n, updL_e, updL_n, updF_e, updF_n, let_d, tk_s, bind_s, or_false, false_or, and_true, true_and, if_true, if_false, ite_true, ite_false, reduceIte, not_true, not_false_iff, Nat.zero_add, Nat.add_zero, Nat.sub_zero, h35, next_5, next_n, hc]
    · have h1 : fr = 8192 := by omega
      have hc := call_F2 hI (by rw [y2, h1])
      refine ⟨nI 3, f_H_globals, Q_size, H_fresh, H_globalsUsed, H_made, H_old, H_oldLeadsToNew, H_reachedFromGlobals, H_reachedInAll, H_spareUsed, H_used, M_depth, M_fuel, (nI (p + 1)), M_ticks, B_names, O_size, (nI fr), (nI hn), (nI t), n_Q_links, f_Q_links, n_Q_pairs, f_Q_pairs, n_H_cells, f_H_cells, n_H_spare, f_H_spare, n_O_bytes, f_O_bytes, n_S_bases, f_S_bases, n_S_closures, f_S_closures, n_S_floors, f_S_floors, n_S_handlerDepths, f_S_handlerDepths, n_S_handlerFrames, f_S_handlerFrames, n_S_handlerHeights, f_S_handlerHeights, n_S_handlerPlaces, f_S_handlerPlaces, n_S_returns, f_S_returns, n_S_values, f_S_values, 0, 0, I, F, ?_, ?_, pst_same (by omega) he hr hx⟩
      · rw [pf_17]; simp (disch := omega) only [q_o, q_0, q_1, q_2, q_3, q_4, q_5, q_6, q_7, q_8, q_9, q_10, q_11, q_12, q_13, q_14, q_15, q_16, q_17, q_18, q_19, q_20, q_21, q_22, q_23, q_24, q_25, q_26, q_27, q_28, q_29, q_30, q_31, q_32, q_33, q_34, q_35, q_36, q_37, q_38, q_39, q_40, q_41, q_42, q_43, q_44, q_45, q_46, q_47, q_48, q_49, q_50, q_51, q_52, q_53, q_63, q_64, q_126, q_128, q_255, q_512, q_1024, q_1026, q_2000, q_2048, q_2049, q_4095, q_4096, q_8192, q_16383, q_65535, q_65536, q_69632, q_131072, q_132000, q_262144, q_300000, q_1000000, q_lt_t, q_lt_f, q_le_t, q_le_f, q_eq_t, q_eq_f, q_cl, q_add, q_mul, q_sub, q_nle_f, q_nle_t, q_nlt_f, q_nlt_t, q_neq_f, eq_self, q_n1, q_n2, q_m1, q_m1', q_m2, q_m21, q_m0, q_ml, upd_e, upd_n, updL_e, updL_n, updF_e, updF_n, let_d, tk_s, bind_s, or_false, false_or, and_true, true_and, if_true, if_false, ite_true, ite_false, reduceIte, not_true, not_false_iff, Nat.zero_add, Nat.add_zero, Nat.sub_zero, m_Machine_enterFrame, m_Stacks_enter, hpk', hkd']
      · rw [sw_17 (by rw [h35, q_cl (by omega)]; exact hop)]; simp (maxSteps := 2000000) (disch := omega) only [q_o, q_0, q_1, q_2, q_3, q_4, q_5, q_6, q_7, q_8, q_9, q_10, q_11, q_12, q_13, q_14, q_15, q_16, q_17, q_18, q_19, q_20, q_21, q_22, q_23, q_24, q_25, q_26, q_27, q_28, q_29, q_30, q_31, q_32, q_33, q_34, q_35, q_36, q_37, q_38, q_39, q_40, q_41, q_42, q_43, q_44, q_45, q_46, q_47, q_48, q_49, q_50, q_51, q_52, q_53, q_63, q_64, q_126, q_128, q_255, q_512, q_1024, q_1026, q_2000, q_2048, q_2049, q_4095, q_4096, q_8192, q_16383, q_65535, q_65536, q_69632, q_131072, q_132000, q_262144, q_300000, q_1000000, q_lt_t, q_lt_f, q_le_t, q_le_f, q_eq_t, q_eq_f, q_cl, q_add, q_mul, q_sub, q_nle_f, q_nle_t, q_nlt_f, q_nlt_t, q_neq_f, eq_self, q_n1, q_n2, q_m1, q_m1', q_m2, q_m21, q_m0, q_ml, upd_e, upd_n, updL_e, updL_n, updF_e, updF_n, let_d, tk_s, bind_s, or_false, false_or, and_true, true_and, if_true, if_false, ite_true, ite_false, reduceIte, not_true, not_false_iff, Nat.zero_add, Nat.add_zero, Nat.sub_zero, h35, next_5, next_n, hc]
  · rw [if_neg hK] at hI
    refine ⟨nI 4, f_H_globals, Q_size, H_fresh, H_globalsUsed, H_made, H_old, H_oldLeadsToNew, H_reachedFromGlobals, H_reachedInAll, H_spareUsed, H_used, M_depth, M_fuel, (nI (p + 1)), M_ticks, B_names, O_size, (nI fr), (nI hn), (nI t), n_Q_links, f_Q_links, n_Q_pairs, f_Q_pairs, n_H_cells, f_H_cells, n_H_spare, f_H_spare, n_O_bytes, f_O_bytes, n_S_bases, f_S_bases, n_S_closures, f_S_closures, n_S_floors, f_S_floors, n_S_handlerDepths, f_S_handlerDepths, n_S_handlerFrames, f_S_handlerFrames, n_S_handlerHeights, f_S_handlerHeights, n_S_handlerPlaces, f_S_handlerPlaces, n_S_returns, f_S_returns, n_S_values, f_S_values, 0, 0, I, F, ?_, ?_, pst_same (by omega) he hr hx⟩
    · rw [pf_17]; simp (disch := omega) only [q_o, q_0, q_1, q_2, q_3, q_4, q_5, q_6, q_7, q_8, q_9, q_10, q_11, q_12, q_13, q_14, q_15, q_16, q_17, q_18, q_19, q_20, q_21, q_22, q_23, q_24, q_25, q_26, q_27, q_28, q_29, q_30, q_31, q_32, q_33, q_34, q_35, q_36, q_37, q_38, q_39, q_40, q_41, q_42, q_43, q_44, q_45, q_46, q_47, q_48, q_49, q_50, q_51, q_52, q_53, q_63, q_64, q_126, q_128, q_255, q_512, q_1024, q_1026, q_2000, q_2048, q_2049, q_4095, q_4096, q_8192, q_16383, q_65535, q_65536, q_69632, q_131072, q_132000, q_262144, q_300000, q_1000000, q_lt_t, q_lt_f, q_le_t, q_le_f, q_eq_t, q_eq_f, q_cl, q_add, q_mul, q_sub, q_nle_f, q_nle_t, q_nlt_f, q_nlt_t, q_neq_f, eq_self, q_n1, q_n2, q_m1, q_m1', q_m2, q_m21, q_m0, q_ml, upd_e, upd_n, updL_e, updL_n, updF_e, updF_n, let_d, tk_s, bind_s, or_false, false_or, and_true, true_and, if_true, if_false, ite_true, ite_false, reduceIte, not_true, not_false_iff, Nat.zero_add, Nat.add_zero, Nat.sub_zero, m_Machine_enterFrame, hpk', hkd']
    · rw [sw_17 (by rw [h35, q_cl (by omega)]; exact hop)]; simp (maxSteps := 2000000) (disch := omega) only [q_o, q_0, q_1, q_2, q_3, q_4, q_5, q_6, q_7, q_8, q_9, q_10, q_11, q_12, q_13, q_14, q_15, q_16, q_17, q_18, q_19, q_20, q_21, q_22, q_23, q_24, q_25, q_26, q_27, q_28, q_29, q_30, q_31, q_32, q_33, q_34, q_35, q_36, q_37, q_38, q_39, q_40, q_41, q_42, q_43, q_44, q_45, q_46, q_47, q_48, q_49, q_50, q_51, q_52, q_53, q_63, q_64, q_126, q_128, q_255, q_512, q_1024, q_1026, q_2000, q_2048, q_2049, q_4095, q_4096, q_8192, q_16383, q_65535, q_65536, q_69632, q_131072, q_132000, q_262144, q_300000, q_1000000, q_lt_t, q_lt_f, q_le_t, q_le_f, q_eq_t, q_eq_f, q_cl, q_add, q_mul, q_sub, q_nle_f, q_nle_t, q_nlt_f, q_nlt_t, q_neq_f, eq_self, q_n1, q_n2, q_m1, q_m1', q_m2, q_m21, q_m0, q_ml, upd_e, upd_n, updL_e, updL_n, updF_e, updF_n, let_d, tk_s, bind_s, or_false, false_or, and_true, true_and, if_true, if_false, ite_true, ite_false, reduceIte, not_true, not_false_iff, Nat.zero_add, Nat.add_zero, Nat.sub_zero, h35, next_5, next_n, call_F1 hI]
end OPS
