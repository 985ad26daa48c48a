/-! look and byteOf, both sides -/
section LY
variable {N : Nat}
variable {nk : Nat → Nat} {nm : Nat} {nid : Nat} {G : Nat → GO} {lE : List Nat} {gg : Nat → AV} {t : Nat} {gs : Nat → AV} {fr : Nat} {gc : Nat → AV} {hn : Nat} {gb : Nat → Nat} {gf : Nat → Nat} {gr : Nat → Int32} {hF : Nat → Nat} {hH : Nat → Nat} {hP : Nat → Int32} {hD : Nat → Int32} {lR : List Nat} {P_size : Int32} {P_constants : Int32} {P_closed : Int32} {P_open : Int32} {O_size : Int32} {S_top : Int32} {S_frames : Int32} {S_handlers : Int32} {H_globalsUsed : Int32} {H_used : Int32} {H_spareUsed : Int32} {H_old : Int32} {H_oldLeadsToNew : Int32} {H_limit : Int32} {H_every : Int32} {H_fresh : Int32} {H_made : Int32} {H_madeLimit : Int32} {H_reachedFromGlobals : Int32} {H_reachedInAll : Int32} {H_keptGlobalsUsed : Int32} {H_kept : Int32} {B_names : Int32} {Q_size : Int32} {M_status : Int32} {M_place : Int32} {M_next : Int32} {M_fuel : Int32} {M_ticks : Int32} {M_depth : Int32} {M_depthLimit : Int32} {M_done : Int32} {n_P_words : Nat} {f_P_words : Nat → Int32} {n_P_bytes : Nat} {f_P_bytes : Nat → Int32} {n_P_ends : Nat} {f_P_ends : Nat → Int32} {n_O_bytes : Nat} {f_O_bytes : Nat → Int32} {n_S_values : Nat} {f_S_values : Nat → Int64} {n_S_bases : Nat} {f_S_bases : Nat → Int32} {n_S_floors : Nat} {f_S_floors : Nat → Int32} {n_S_returns : Nat} {f_S_returns : Nat → Int32} {n_S_closures : Nat} {f_S_closures : Nat → Int64} {n_S_handlerFrames : Nat} {f_S_handlerFrames : Nat → Int32} {n_S_handlerPlaces : Nat} {f_S_handlerPlaces : Nat → Int32} {n_S_handlerHeights : Nat} {f_S_handlerHeights : Nat → Int32} {n_S_handlerDepths : Nat} {f_S_handlerDepths : Nat → Int32} {n_H_globals : Nat} {f_H_globals : Nat → Int64} {n_H_cells : Nat} {f_H_cells : Nat → Int64} {n_H_spare : Nat} {f_H_spare : Nat → Int64} {n_Q_links : Nat} {f_Q_links : Nat → Int32} {n_Q_pairs : Nat} {f_Q_pairs : Nat → Int64} {I : Nat → Int32} {F : Nat → Nat → Int32}
def tdV (G : Nat → GO) : AV → Int32
  | .inl n => n
  | .inr (.inl (k, _)) => nI k
  | .inr (.inr o) => if gK G o = 6 then nI (gC G o) else gN G o
def ptV (G : Nat → GO) : AV → Nat
  | .inl _ => 0
  | .inr (.inl _) => 0
  | .inr (.inr o) => gNp G o
theorem parts_w {l : List Nat} {c : Nat → Int64} {nC : Nat} {v : AV} (hG : wf nk nm nid G l) (ht : tot (gZ G) l ≤ nC) (hC : nC ≤ 131072) (hh : heE G l c) (hn' : nm < 134217728) (hv : okV nk nm l v) : ∀ (H_globalsUsed : Int32) (H_used : Int32) (H_spareUsed : Int32) (H_old : Int32) (H_oldLeadsToNew : Int32) (H_limit : Int32) (H_every : Int32) (H_fresh : Int32) (H_made : Int32) (H_madeLimit : Int32) (H_reachedFromGlobals : Int32) (H_reachedInAll : Int32) (H_keptGlobalsUsed : Int32) (H_kept : Int32), m_Heap_parts N H_globalsUsed H_used H_spareUsed H_old H_oldLeadsToNew H_limit H_every H_fresh H_made H_madeLimit H_reachedFromGlobals H_reachedInAll H_keptGlobalsUsed H_kept nC c (wE G l v) = some (nI (ptV G v)) := by
  have h := parts_h (N := N) hG ht hC hh hn' hv
  rcases v with n | ⟨k, i⟩ | o
  · exact h
  · exact h
  · exact h
theorem told_h {l : List Nat} {c : Nat → Int64} {nC : Nat} {v : AV} (hG : wf nk nm nid G l) (ht : tot (gZ G) l ≤ nC) (hC : nC ≤ 131072) (hh : heE G l c) (hn' : nm < 134217728) (hv : okV nk nm l v) : ∀ (H_globalsUsed : Int32) (H_used : Int32) (H_spareUsed : Int32) (H_old : Int32) (H_oldLeadsToNew : Int32) (H_limit : Int32) (H_every : Int32) (H_fresh : Int32) (H_made : Int32) (H_madeLimit : Int32) (H_reachedFromGlobals : Int32) (H_reachedInAll : Int32) (H_keptGlobalsUsed : Int32) (H_kept : Int32), m_Heap_told N H_globalsUsed H_used H_spareUsed H_old H_oldLeadsToNew H_limit H_every H_fresh H_made H_madeLimit H_reachedFromGlobals H_reachedInAll H_keptGlobalsUsed H_kept nC c (wE G l v) = some (tdV G v) := by
  intros
  have h1 := kd_E (N := N) hG hv
  have h0 := nu_E (N := N) hG hv hn' (by omega)
  rcases v with n | ⟨k, i⟩ | o
  · have h1 : m_Value_kind N (wE G l (vS n)) = some (nI 0) := h1
    unfold m_Heap_told
    simp (disch := omega) only [q_o, q_0, q_1, q_2, q_3, q_4, q_5, q_6, q_7, q_8, q_9, q_10, q_11, q_12, q_13, q_14, q_15, q_16, q_17, q_18, q_19, q_20, q_21, q_22, q_23, q_24, q_25, q_26, q_27, q_28, q_29, q_30, q_31, q_32, q_33, q_34, q_35, q_36, q_37, q_38, q_39, q_40, q_41, q_42, q_43, q_44, q_45, q_46, q_47, q_48, q_49, q_50, q_51, q_52, q_53, q_63, q_64, q_126, q_128, q_255, q_512, q_1024, q_1026, q_2000, q_2048, q_2049, q_4095, q_4096, q_8192, q_16383, q_65535, q_65536, q_69632, q_131072, q_132000, q_262144, q_300000, q_1000000, q_lt_t, q_lt_f, q_le_t, q_le_f, q_eq_t, q_eq_f, q_cl, q_add, q_mul, q_sub, q_nle_f, q_nle_t, q_nlt_f, q_nlt_t, q_neq_f, eq_self, q_n1, q_n2, q_m1, q_m1', q_m2, q_m21, q_m0, q_ml, upd_e, upd_n, updL_e, updL_n, updF_e, updF_n, let_d, tk_s, bind_s, or_false, false_or, and_true, true_and, if_true, if_false, ite_true, ite_false, reduceIte, not_true, not_false_iff, Nat.zero_add, Nat.add_zero, Nat.sub_zero, h1, h0]
    rfl
  · have h1 : m_Value_kind N (wE G l (vN k i)) = some (nI 1) := h1
    unfold m_Heap_told
    simp (disch := omega) only [q_o, q_0, q_1, q_2, q_3, q_4, q_5, q_6, q_7, q_8, q_9, q_10, q_11, q_12, q_13, q_14, q_15, q_16, q_17, q_18, q_19, q_20, q_21, q_22, q_23, q_24, q_25, q_26, q_27, q_28, q_29, q_30, q_31, q_32, q_33, q_34, q_35, q_36, q_37, q_38, q_39, q_40, q_41, q_42, q_43, q_44, q_45, q_46, q_47, q_48, q_49, q_50, q_51, q_52, q_53, q_63, q_64, q_126, q_128, q_255, q_512, q_1024, q_1026, q_2000, q_2048, q_2049, q_4095, q_4096, q_8192, q_16383, q_65535, q_65536, q_69632, q_131072, q_132000, q_262144, q_300000, q_1000000, q_lt_t, q_lt_f, q_le_t, q_le_f, q_eq_t, q_eq_f, q_cl, q_add, q_mul, q_sub, q_nle_f, q_nle_t, q_nlt_f, q_nlt_t, q_neq_f, eq_self, q_n1, q_n2, q_m1, q_m1', q_m2, q_m21, q_m0, q_ml, upd_e, upd_n, updL_e, updL_n, updF_e, updF_n, let_d, tk_s, bind_s, or_false, false_or, and_true, true_and, if_true, if_false, ite_true, ite_false, reduceIte, not_true, not_false_iff, Nat.zero_add, Nat.add_zero, Nat.sub_zero, h1, h0]
    rfl
  · have ho : o ∈ l := hv
    have hO := (hG.2 o ho).2.1
    have hk := okO_K hO
    have hb := adr_bd ho (G := G) (by omega)
    have hend := adr_end (Z := gZ G) ho
    have h2 : m_Value_number N (wE G l (vO o)) = some (nI (adr (gZ G) l o)) := h0
    have h3 := (hh o ho).1
    have h1 : m_Value_kind N (wE G l (vO o)) = some (nI (gK G o)) := h1
    have h4 : m_Value_number N (hE G o) = some (if gK G o = 6 then nI (gC G o) else gN G o) := by
      show some (nuW (hE G o)) = _
      rw [nu_hE hO hn']
    unfold m_Heap_told
    simp (disch := omega) only [q_o, q_0, q_1, q_2, q_3, q_4, q_5, q_6, q_7, q_8, q_9, q_10, q_11, q_12, q_13, q_14, q_15, q_16, q_17, q_18, q_19, q_20, q_21, q_22, q_23, q_24, q_25, q_26, q_27, q_28, q_29, q_30, q_31, q_32, q_33, q_34, q_35, q_36, q_37, q_38, q_39, q_40, q_41, q_42, q_43, q_44, q_45, q_46, q_47, q_48, q_49, q_50, q_51, q_52, q_53, q_63, q_64, q_126, q_128, q_255, q_512, q_1024, q_1026, q_2000, q_2048, q_2049, q_4095, q_4096, q_8192, q_16383, q_65535, q_65536, q_69632, q_131072, q_132000, q_262144, q_300000, q_1000000, q_lt_t, q_lt_f, q_le_t, q_le_f, q_eq_t, q_eq_f, q_cl, q_add, q_mul, q_sub, q_nle_f, q_nle_t, q_nlt_f, q_nlt_t, q_neq_f, eq_self, q_n1, q_n2, q_m1, q_m1', q_m2, q_m21, q_m0, q_ml, upd_e, upd_n, updL_e, updL_n, updF_e, updF_n, let_d, tk_s, bind_s, or_false, false_or, and_true, true_and, if_true, if_false, ite_true, ite_false, reduceIte, not_true, not_false_iff, Nat.zero_add, Nat.add_zero, Nat.sub_zero, h1, h2, h3, h4]
    rfl
theorem ite4 {ζ : Type} (w : Int32) (f : Int32 → ζ) (a b c d : Int32) : (if w = 0 then f a else if w = 1 then f b else if w = 2 then f c else f d) = f (if w = 0 then a else if w = 1 then b else if w = 2 then c else d) := by
  by_cases c0 : w = 0
  · rw [if_pos c0, if_pos c0]
  · rw [if_neg c0, if_neg c0]
    by_cases c1 : w = 1
    · rw [if_pos c1, if_pos c1]
    · rw [if_neg c1, if_neg c1]
      by_cases c2 : w = 2
      · rw [if_pos c2, if_pos c2]
      · rw [if_neg c2, if_neg c2]
/-- the reference's look, once the value is found -/
theorem look_R {i w : Int32} {x : Int64} {u : AV} {J : Nat → Int32} (hr : hpR nk nm nid G lR gg I F) (hn' : nm < 134217728) (hf : m_Model_find N I F i x = some (1, J)) (hu : okV nk nm lR u) (h52 : J 52 = tR u) (h53 : J 53 = vR G lR u) :
    m_Model_look N I F i x w = (if w = 0 then some (nI (kV G u), J) else if w = 1 then some (tdV G u, J) else if w = 2 then some (nI (ptV G u), J) else some (-1, J)) := by
  obtain ⟨c1, c2, c3, c4, c5, c6⟩ := hr
  rcases u with n | ⟨k, i'⟩ | o
  · have e52 : J 52 = nI 0 := h52
    have e53 : J 53 = n := h53
    have eK : kV G (Sum.inl n) = 0 := rfl
    have eN : tdV G (Sum.inl n) = n := rfl
    have eP : ptV G (Sum.inl n) = 0 := rfl
    have e0 : nI 0 &&& nI 255 = nI 0 := by decide
    unfold m_Model_look lm_Model_look_1 lm_Model_look_2
    simp (disch := omega) only [q_o, q_0, q_1, q_2, q_3, q_4, q_5, q_6, q_7, q_8, q_9, q_10, q_11, q_12, q_13, q_14, q_15, q_16, q_17, q_18, q_19, q_20, q_21, q_22, q_23, q_24, q_25, q_26, q_27, q_28, q_29, q_30, q_31, q_32, q_33, q_34, q_35, q_36, q_37, q_38, q_39, q_40, q_41, q_42, q_43, q_44, q_45, q_46, q_47, q_48, q_49, q_50, q_51, q_52, q_53, q_63, q_64, q_126, q_128, q_255, q_512, q_1024, q_1026, q_2000, q_2048, q_2049, q_4095, q_4096, q_8192, q_16383, q_65535, q_65536, q_69632, q_131072, q_132000, q_262144, q_300000, q_1000000, q_lt_t, q_lt_f, q_le_t, q_le_f, q_eq_t, q_eq_f, q_cl, q_add, q_mul, q_sub, q_nle_f, q_nle_t, q_nlt_f, q_nlt_t, q_neq_f, eq_self, q_n1, q_n2, q_m1, q_m1', q_m2, q_m21, q_m0, q_ml, upd_e, upd_n, updL_e, updL_n, updF_e, updF_n, let_d, tk_s, bind_s, or_false, false_or, and_true, true_and, if_true, if_false, ite_true, ite_false, reduceIte, not_true, not_false_iff, Nat.zero_add, Nat.add_zero, Nat.sub_zero, hf, e52, e53, e0, eK, eN, eP]
  · have hk := hu.1
    have e52 : J 52 = nI (1 + 256 * k) := h52
    have e53 : J 53 = nI i' := h53
    have eK : kV G (Sum.inr (Sum.inl (k, i'))) = 1 := rfl
    have eN : tdV G (Sum.inr (Sum.inl (k, i'))) = nI k := rfl
    have eP : ptV G (Sum.inr (Sum.inl (k, i'))) = 0 := rfl
    have e0 : nI (1 + 256 * k) &&& nI 255 = nI 1 := (r_and' (1 + 256 * k)).trans (congrArg nI (by omega))
    have es : ((nI (1 + 256 * k)).toUInt32 >>> ((nI 8).toUInt32 &&& (nI 31).toUInt32)).toInt32 = nI k := (r_shr (1 + 256 * k) (by omega)).trans (congrArg nI (by omega))
    unfold m_Model_look lm_Model_look_1 lm_Model_look_2
    simp (disch := omega) only [q_o, q_0, q_1, q_2, q_3, q_4, q_5, q_6, q_7, q_8, q_9, q_10, q_11, q_12, q_13, q_14, q_15, q_16, q_17, q_18, q_19, q_20, q_21, q_22, q_23, q_24, q_25, q_26, q_27, q_28, q_29, q_30, q_31, q_32, q_33, q_34, q_35, q_36, q_37, q_38, q_39, q_40, q_41, q_42, q_43, q_44, q_45, q_46, q_47, q_48, q_49, q_50, q_51, q_52, q_53, q_63, q_64, q_126, q_128, q_255, q_512, q_1024, q_1026, q_2000, q_2048, q_2049, q_4095, q_4096, q_8192, q_16383, q_65535, q_65536, q_69632, q_131072, q_132000, q_262144, q_300000, q_1000000, q_lt_t, q_lt_f, q_le_t, q_le_f, q_eq_t, q_eq_f, q_cl, q_add, q_mul, q_sub, q_nle_f, q_nle_t, q_nlt_f, q_nlt_t, q_neq_f, eq_self, q_n1, q_n2, q_m1, q_m1', q_m2, q_m21, q_m0, q_ml, upd_e, upd_n, updL_e, updL_n, updF_e, updF_n, let_d, tk_s, bind_s, or_false, false_or, and_true, true_and, if_true, if_false, ite_true, ite_false, reduceIte, not_true, not_false_iff, Nat.zero_add, Nat.add_zero, Nat.sub_zero, hf, e52, e53, e0, es, eK, eN, eP]
  · have ho : o ∈ lR := hu
    have hO := (c1.2 o ho).2.1
    have hb := adr_bd ho (G := G) c4
    obtain ⟨a1, a2, a3, a4⟩ := c5 o ho
    have hka := kindAt_R (N := N) (I := J) (F := F) hO hb.1 a1
    have hpa := partsAt_R (N := N) (I := J) (F := F) hO hb.1 a1
    obtain ⟨m, t1, t2, t3, t4, t5, t6⟩ := th_bd hO
    have e52 : J 52 = nI 2 := h52
    have e53 : J 53 = nI (adr (gZ G) lR o) := h53
    have eK : kV G (Sum.inr (Sum.inr o)) = gK G o := rfl
    have eN : tdV G (Sum.inr (Sum.inr o)) = if gK G o = 6 then nI (gC G o) else gN G o := rfl
    have eP : ptV G (Sum.inr (Sum.inr o)) = gNp G o := rfl
    unfold m_Model_look lm_Model_look_1 lm_Model_look_2
    rcases hO with ⟨q, q2, _⟩ | ⟨q, _⟩ | ⟨q, _⟩ | ⟨q, q2, _⟩ | ⟨q, _⟩ | ⟨q, _⟩
    · simp (disch := omega) only [q_o, q_0, q_1, q_2, q_3, q_4, q_5, q_6, q_7, q_8, q_9, q_10, q_11, q_12, q_13, q_14, q_15, q_16, q_17, q_18, q_19, q_20, q_21, q_22, q_23, q_24, q_25, q_26, q_27, q_28, q_29, q_30, q_31, q_32, q_33, q_34, q_35, q_36, q_37, q_38, q_39, q_40, q_41, q_42, q_43, q_44, q_45, q_46, q_47, q_48, q_49, q_50, q_51, q_52, q_53, q_63, q_64, q_126, q_128, q_255, q_512, q_1024, q_1026, q_2000, q_2048, q_2049, q_4095, q_4096, q_8192, q_16383, q_65535, q_65536, q_69632, q_131072, q_132000, q_262144, q_300000, q_1000000, q_lt_t, q_lt_f, q_le_t, q_le_f, q_eq_t, q_eq_f, q_cl, q_add, q_mul, q_sub, q_nle_f, q_nle_t, q_nlt_f, q_nlt_t, q_neq_f, eq_self, q_n1, q_n2, q_m1, q_m1', q_m2, q_m21, q_m0, q_ml, upd_e, upd_n, updL_e, updL_n, updF_e, updF_n, let_d, tk_s, bind_s, or_false, false_or, and_true, true_and, if_true, if_false, ite_true, ite_false, reduceIte, not_true, not_false_iff, Nat.zero_add, Nat.add_zero, Nat.sub_zero, hf, e52, e53, hka, hpa, eK, eN, eP, q, q2]
    · have ec : chR G o = gN G o := by unfold chR; rw [if_neg (by omega)]
      simp (disch := omega) only [q_o, q_0, q_1, q_2, q_3, q_4, q_5, q_6, q_7, q_8, q_9, q_10, q_11, q_12, q_13, q_14, q_15, q_16, q_17, q_18, q_19, q_20, q_21, q_22, q_23, q_24, q_25, q_26, q_27, q_28, q_29, q_30, q_31, q_32, q_33, q_34, q_35, q_36, q_37, q_38, q_39, q_40, q_41, q_42, q_43, q_44, q_45, q_46, q_47, q_48, q_49, q_50, q_51, q_52, q_53, q_63, q_64, q_126, q_128, q_255, q_512, q_1024, q_1026, q_2000, q_2048, q_2049, q_4095, q_4096, q_8192, q_16383, q_65535, q_65536, q_69632, q_131072, q_132000, q_262144, q_300000, q_1000000, q_lt_t, q_lt_f, q_le_t, q_le_f, q_eq_t, q_eq_f, q_cl, q_add, q_mul, q_sub, q_nle_f, q_nle_t, q_nlt_f, q_nlt_t, q_neq_f, eq_self, q_n1, q_n2, q_m1, q_m1', q_m2, q_m21, q_m0, q_ml, upd_e, upd_n, updL_e, updL_n, updF_e, updF_n, let_d, tk_s, bind_s, or_false, false_or, and_true, true_and, if_true, if_false, ite_true, ite_false, reduceIte, not_true, not_false_iff, Nat.zero_add, Nat.add_zero, Nat.sub_zero, hf, e52, e53, hka, hpa, eK, eN, eP, q, a2, ec]
    · have ec : chR G o = gN G o := by unfold chR; rw [if_neg (by omega)]
      simp (disch := omega) only [q_o, q_0, q_1, q_2, q_3, q_4, q_5, q_6, q_7, q_8, q_9, q_10, q_11, q_12, q_13, q_14, q_15, q_16, q_17, q_18, q_19, q_20, q_21, q_22, q_23, q_24, q_25, q_26, q_27, q_28, q_29, q_30, q_31, q_32, q_33, q_34, q_35, q_36, q_37, q_38, q_39, q_40, q_41, q_42, q_43, q_44, q_45, q_46, q_47, q_48, q_49, q_50, q_51, q_52, q_53, q_63, q_64, q_126, q_128, q_255, q_512, q_1024, q_1026, q_2000, q_2048, q_2049, q_4095, q_4096, q_8192, q_16383, q_65535, q_65536, q_69632, q_131072, q_132000, q_262144, q_300000, q_1000000, q_lt_t, q_lt_f, q_le_t, q_le_f, q_eq_t, q_eq_f, q_cl, q_add, q_mul, q_sub, q_nle_f, q_nle_t, q_nlt_f, q_nlt_t, q_neq_f, eq_self, q_n1, q_n2, q_m1, q_m1', q_m2, q_m21, q_m0, q_ml, upd_e, upd_n, updL_e, updL_n, updF_e, updF_n, let_d, tk_s, bind_s, or_false, false_or, and_true, true_and, if_true, if_false, ite_true, ite_false, reduceIte, not_true, not_false_iff, Nat.zero_add, Nat.add_zero, Nat.sub_zero, hf, e52, e53, hka, hpa, eK, eN, eP, q, a2, ec]
    · simp (disch := omega) only [q_o, q_0, q_1, q_2, q_3, q_4, q_5, q_6, q_7, q_8, q_9, q_10, q_11, q_12, q_13, q_14, q_15, q_16, q_17, q_18, q_19, q_20, q_21, q_22, q_23, q_24, q_25, q_26, q_27, q_28, q_29, q_30, q_31, q_32, q_33, q_34, q_35, q_36, q_37, q_38, q_39, q_40, q_41, q_42, q_43, q_44, q_45, q_46, q_47, q_48, q_49, q_50, q_51, q_52, q_53, q_63, q_64, q_126, q_128, q_255, q_512, q_1024, q_1026, q_2000, q_2048, q_2049, q_4095, q_4096, q_8192, q_16383, q_65535, q_65536, q_69632, q_131072, q_132000, q_262144, q_300000, q_1000000, q_lt_t, q_lt_f, q_le_t, q_le_f, q_eq_t, q_eq_f, q_cl, q_add, q_mul, q_sub, q_nle_f, q_nle_t, q_nlt_f, q_nlt_t, q_neq_f, eq_self, q_n1, q_n2, q_m1, q_m1', q_m2, q_m21, q_m0, q_ml, upd_e, upd_n, updL_e, updL_n, updF_e, updF_n, let_d, tk_s, bind_s, or_false, false_or, and_true, true_and, if_true, if_false, ite_true, ite_false, reduceIte, not_true, not_false_iff, Nat.zero_add, Nat.add_zero, Nat.sub_zero, hf, e52, e53, hka, hpa, eK, eN, eP, q, q2]
    · have ec : chR G o = nI (gC G o) := by unfold chR; rw [if_pos (Or.inl q)]
      simp (disch := omega) only [q_o, q_0, q_1, q_2, q_3, q_4, q_5, q_6, q_7, q_8, q_9, q_10, q_11, q_12, q_13, q_14, q_15, q_16, q_17, q_18, q_19, q_20, q_21, q_22, q_23, q_24, q_25, q_26, q_27, q_28, q_29, q_30, q_31, q_32, q_33, q_34, q_35, q_36, q_37, q_38, q_39, q_40, q_41, q_42, q_43, q_44, q_45, q_46, q_47, q_48, q_49, q_50, q_51, q_52, q_53, q_63, q_64, q_126, q_128, q_255, q_512, q_1024, q_1026, q_2000, q_2048, q_2049, q_4095, q_4096, q_8192, q_16383, q_65535, q_65536, q_69632, q_131072, q_132000, q_262144, q_300000, q_1000000, q_lt_t, q_lt_f, q_le_t, q_le_f, q_eq_t, q_eq_f, q_cl, q_add, q_mul, q_sub, q_nle_f, q_nle_t, q_nlt_f, q_nlt_t, q_neq_f, eq_self, q_n1, q_n2, q_m1, q_m1', q_m2, q_m21, q_m0, q_ml, upd_e, upd_n, updL_e, updL_n, updF_e, updF_n, let_d, tk_s, bind_s, or_false, false_or, and_true, true_and, if_true, if_false, ite_true, ite_false, reduceIte, not_true, not_false_iff, Nat.zero_add, Nat.add_zero, Nat.sub_zero, hf, e52, e53, hka, hpa, eK, eN, eP, q, a2, ec]
    · have eg := t5 q
      have es : ((F 0 (adr (gZ G) lR o)).toUInt32 >>> ((nI 8).toUInt32 &&& (nI 31).toUInt32)).toInt32 = nI m := by
        rw [a1, t1]
        exact (r_shr (gK G o + 256 * m) (by omega)).trans (congrArg nI (by omega))
      simp (disch := omega) only [q_o, q_0, q_1, q_2, q_3, q_4, q_5, q_6, q_7, q_8, q_9, q_10, q_11, q_12, q_13, q_14, q_15, q_16, q_17, q_18, q_19, q_20, q_21, q_22, q_23, q_24, q_25, q_26, q_27, q_28, q_29, q_30, q_31, q_32, q_33, q_34, q_35, q_36, q_37, q_38, q_39, q_40, q_41, q_42, q_43, q_44, q_45, q_46, q_47, q_48, q_49, q_50, q_51, q_52, q_53, q_63, q_64, q_126, q_128, q_255, q_512, q_1024, q_1026, q_2000, q_2048, q_2049, q_4095, q_4096, q_8192, q_16383, q_65535, q_65536, q_69632, q_131072, q_132000, q_262144, q_300000, q_1000000, q_lt_t, q_lt_f, q_le_t, q_le_f, q_eq_t, q_eq_f, q_cl, q_add, q_mul, q_sub, q_nle_f, q_nle_t, q_nlt_f, q_nlt_t, q_neq_f, eq_self, q_n1, q_n2, q_m1, q_m1', q_m2, q_m21, q_m0, q_ml, upd_e, upd_n, updL_e, updL_n, updF_e, updF_n, let_d, tk_s, bind_s, or_false, false_or, and_true, true_and, if_true, if_false, ite_true, ite_false, reduceIte, not_true, not_false_iff, Nat.zero_add, Nat.add_zero, Nat.sub_zero, hf, e52, e53, hka, hpa, eK, eN, eP, q, es, eg]
theorem look_ER {i w : Int32} {x : Int64} (hN : 400000 ≤ N) (h : hpE nk nm nid G lE gg H_globalsUsed H_used H_old H_oldLeadsToNew f_H_globals f_H_cells n_H_cells) (hC : n_H_cells ≤ 131072) (hn' : nm < 134217728) (hr : hpR nk nm nid G lR gg I F) : ∃ r J', (∀ (H_spareUsed : Int32) (H_limit : Int32) (H_every : Int32) (H_fresh : Int32) (H_made : Int32) (H_madeLimit : Int32) (H_reachedFromGlobals : Int32) (H_reachedInAll : Int32) (H_keptGlobalsUsed : Int32) (H_kept : Int32), m_Engine_look N H_globalsUsed H_used H_spareUsed H_old H_oldLeadsToNew H_limit H_every H_fresh H_made H_madeLimit H_reachedFromGlobals H_reachedInAll H_keptGlobalsUsed H_kept 2049 f_H_globals n_H_cells f_H_cells i x w = some r) ∧ m_Model_look N I F i x w = some (r, J') ∧ ∀ k, k ≠ 52 → k ≠ 53 → J' k = I k := by
  have hG := h.1
  have hT := h.2.2.1
  have hh := h.2.2.2.1
  obtain ⟨a1, a2⟩ := fnd_E (N := N) (i := i) (x := x) hN h hC hn'
  obtain ⟨J1, c1, c2, c3⟩ := fnd_R (N := N) (i := i) (x := x) hN hr
  cases hu : fnd G gg i x with
  | none =>
    rw [hu] at a2 c2
    try dsimp only at a2 c2
    refine ⟨-1, J1, ?_, ?_, c1⟩
    · intros
      unfold m_Engine_look
      rw [a2, bind_s, if_pos ((lg_cmp_eq _ _).mpr rfl)]
    · unfold m_Model_look
      rw [c2, bind_s]
      exact if_pos rfl
  | some u =>
    rw [hu] at a2 c2
    try dsimp only at a2 c2
    have hne := nw_ne hG (a1 u hu)
    obtain ⟨k1, k2, k3⟩ := c3 u hu
    have hR := look_R (N := N) (w := w) hr hn' c2 k1 k2 k3
    have e1 := kd_E (N := N) hG (a1 u hu)
    have e2 := told_h (N := N) hG hT hC hh hn' (a1 u hu)
    have e3 := parts_w (N := N) hG hT hC hh hn' (a1 u hu)
    refine ⟨_, J1, ?_, hR.trans (ite4 w (fun r => some (r, J1)) _ _ _ _), c1⟩
    intros
    unfold m_Engine_look
    rw [a2, bind_s, if_neg hne, e1, e2, e3, bind_s, bind_s, bind_s]
    exact ite4 w some _ _ _ _
theorem byteOf_ER {i w : Int32} {x : Int64} (hN : 400000 ≤ N) (h : hpE nk nm nid G lE gg H_globalsUsed H_used H_old H_oldLeadsToNew f_H_globals f_H_cells n_H_cells) (hC : n_H_cells ≤ 131072) (hn' : nm < 134217728) (hr : hpR nk nm nid G lR gg I F) : ∃ r J', (∀ (H_spareUsed : Int32) (H_limit : Int32) (H_every : Int32) (H_fresh : Int32) (H_made : Int32) (H_madeLimit : Int32) (H_reachedFromGlobals : Int32) (H_reachedInAll : Int32) (H_keptGlobalsUsed : Int32) (H_kept : Int32), m_Engine_byteOf N H_globalsUsed H_used H_spareUsed H_old H_oldLeadsToNew H_limit H_every H_fresh H_made H_madeLimit H_reachedFromGlobals H_reachedInAll H_keptGlobalsUsed H_kept 2049 f_H_globals n_H_cells f_H_cells i x w = some r) ∧ m_Model_byteOf N I F i x w = some (r, J') ∧ ∀ k, k ≠ 52 → k ≠ 53 → J' k = I k := by
  have hG := h.1
  have hT := h.2.2.1
  have hh := h.2.2.2.1
  obtain ⟨a1, a2⟩ := fnd_E (N := N) (i := i) (x := x) hN h hC hn'
  obtain ⟨J1, c1, c2, c3⟩ := fnd_R (N := N) (i := i) (x := x) hN hr
  cases hu : fnd G gg i x with
  | none =>
    rw [hu] at a2 c2
    try dsimp only at a2 c2
    refine ⟨-1, J1, ?_, ?_, c1⟩
    · intros
      unfold m_Engine_byteOf
      rw [a2, bind_s, if_pos ((lg_cmp_eq _ _).mpr rfl)]
    · unfold m_Model_byteOf lm_Model_byteOf_1
      rw [c2, bind_s]
      refine (if_pos rfl).trans ?_
      exact if_pos rfl
  | some u =>
    rw [hu] at a2 c2
    try dsimp only at a2 c2
    have hok := a1 u hu
    have hne := nw_ne hG hok
    obtain ⟨k1, k2, k3⟩ := c3 u hu
    have e1 := kd_E (N := N) hG hok
    have h8 := kV_8 hG hok
    by_cases h6 : kV G u = 6
    · obtain ⟨o, rfl⟩ : ∃ o, u = vO o := by
        rcases u with n | ⟨k, i⟩ | o
        · exact absurd (show (0 : Nat) = 6 from h6) (by decide)
        · exact absurd (show (1 : Nat) = 6 from h6) (by decide)
        · exact ⟨o, rfl⟩
      have hK : gK G o = 6 := h6
      have hoE : o ∈ lE := hok
      have hoR : o ∈ lR := k1
      have e2 := told_h (N := N) hG hT hC hh hn' hok
      have e2 : ∀ (H_globalsUsed : Int32) (H_used : Int32) (H_spareUsed : Int32) (H_old : Int32) (H_oldLeadsToNew : Int32) (H_limit : Int32) (H_every : Int32) (H_fresh : Int32) (H_made : Int32) (H_madeLimit : Int32) (H_reachedFromGlobals : Int32) (H_reachedInAll : Int32) (H_keptGlobalsUsed : Int32) (H_kept : Int32), m_Heap_told N H_globalsUsed H_used H_spareUsed H_old H_oldLeadsToNew H_limit H_every H_fresh H_made H_madeLimit H_reachedFromGlobals H_reachedInAll H_keptGlobalsUsed H_kept n_H_cells f_H_cells (wE G lE (vO o)) = some (nI (gC G o)) := by
        intros
        rw [e2]
        show some (if gK G o = 6 then nI (gC G o) else gN G o) = _
        rw [if_pos hK]
      have e3 : m_Value_number N (wE G lE (vO o)) = some (nI (adr (gZ G) lE o)) := nu_E (N := N) (v := vO o) hG hoE hn' (by omega)
      obtain ⟨d1, d2, d3, d4, d5, d6⟩ := hr
      have hO := (d1.2 o hoR).2.1
      have hb := adr_bd hoR (G := G) d4
      obtain ⟨b1, b2, b3, b4⟩ := d5 o hoR
      have hka := kindAt_R (N := N) (I := J1) (F := F) hO hb.1 b1
      have O1 := str_ok hO hK
      have hz : gZ G o = 1 + (gC G o + 3) / 4 := by unfold gZ; rw [if_pos hK]
      have hendE := adr_end (Z := gZ G) hoE
      have hendR := adr_end (Z := gZ G) hoR
      have e52 : J1 52 = 2 := k2
      have e53 : J1 53 = nI (adr (gZ G) lR o) := k3
      have ec : F 1 (adr (gZ G) lR o) = nI (gC G o) := by rw [b2]; unfold chR; rw [if_pos (Or.inl hK)]
      have hR : m_Model_byteOf N I F i x w = (if w < 0 then some (-1, J1) else if nI (gC G o) ≤ w then some (-1, J1) else (m_Model_byteAt N J1 F (nI (adr (gZ G) lR o)) w).bind fun z => some (z, J1)) := by
        unfold m_Model_byteOf lm_Model_byteOf_1
        rw [c2, bind_s]
        refine (if_neg (by decide)).trans ?_
        rw [if_pos e52, e53, hka, bind_s, hK, if_pos (show nI 6 = 6 from rfl)]
        refine (if_neg (by decide)).trans ?_
        rw [e53, if_neg (bd_n hb.1 (by omega)), q_cl (by omega), ec]
      have hE : ∀ (H_spareUsed : Int32) (H_limit : Int32) (H_every : Int32) (H_fresh : Int32) (H_made : Int32) (H_madeLimit : Int32) (H_reachedFromGlobals : Int32) (H_reachedInAll : Int32) (H_keptGlobalsUsed : Int32) (H_kept : Int32), m_Engine_byteOf N H_globalsUsed H_used H_spareUsed H_old H_oldLeadsToNew H_limit H_every H_fresh H_made H_madeLimit H_reachedFromGlobals H_reachedInAll H_keptGlobalsUsed H_kept 2049 f_H_globals n_H_cells f_H_cells i x w = (if w < 0 then some (-1) else if w < nI (gC G o) then (m_Heap_byteAt N H_globalsUsed H_used H_spareUsed H_old H_oldLeadsToNew H_limit H_every H_fresh H_made H_madeLimit H_reachedFromGlobals H_reachedInAll H_keptGlobalsUsed H_kept n_H_cells f_H_cells (nI (adr (gZ G) lE o)) w).bind fun z => some z else some (-1)) := by
        intros
        unfold m_Engine_byteOf
        rw [a2, bind_s, if_neg hne, e1, bind_s, h6, if_pos (show nI 6 = 6 from rfl), e2, bind_s, e3, bind_s]
      by_cases w0 : w < 0
      · refine ⟨-1, J1, ?_, by rw [hR, if_pos w0], c1⟩
        intros
        rw [hE, if_pos w0]
      · obtain ⟨n, hn6, rfl⟩ := nI_of w0
        by_cases hl : n < gC G o
        · have r1 : ∀ (H_globalsUsed : Int32) (H_used : Int32) (H_spareUsed : Int32) (H_old : Int32) (H_oldLeadsToNew : Int32) (H_limit : Int32) (H_every : Int32) (H_fresh : Int32) (H_made : Int32) (H_madeLimit : Int32) (H_reachedFromGlobals : Int32) (H_reachedInAll : Int32) (H_keptGlobalsUsed : Int32) (H_kept : Int32), m_Heap_byteAt N H_globalsUsed H_used H_spareUsed H_old H_oldLeadsToNew H_limit H_every H_fresh H_made H_madeLimit H_reachedFromGlobals H_reachedInAll H_keptGlobalsUsed H_kept n_H_cells f_H_cells (nI (adr (gZ G) lE o)) (nI n) = some (nI (gB G o n)) := byteAt_w O1.2.1 (by omega) (by omega) hC ((hh o hoE).2.2 hK _ (by omega))
          have r2 : m_Model_byteAt N J1 F (nI (adr (gZ G) lR o)) (nI n) = some (nI (gB G o n)) := byteAt_r O1.2.1 (by omega) (by omega) (b4 hK _ (by omega))
          refine ⟨nI (gB G o n), J1, ?_, ?_, c1⟩
          · intros
            rw [hE, if_neg w0, if_pos (show nI n < nI (gC G o) by rw [q_lt_t (by omega) (by omega)]; exact True.intro), r1, bind_s]
          · rw [hR, if_neg w0, if_neg (show ¬ nI (gC G o) ≤ nI n by rw [q_le_f (by omega) (by omega)]; exact id), r2, bind_s]
        · refine ⟨-1, J1, ?_, ?_, c1⟩
          · intros
            rw [hE, if_neg w0, if_neg (show ¬ nI n < nI (gC G o) by rw [q_lt_f (by omega) (by omega)]; exact id)]
          · rw [hR, if_neg w0, if_pos (show nI (gC G o) ≤ nI n by rw [q_le_t (by omega) (by omega)]; exact True.intro)]
    · refine ⟨-1, J1, ?_, ?_, c1⟩
      · intros
        unfold m_Engine_byteOf
        rw [a2, bind_s, if_neg hne, e1, bind_s, if_neg (show ¬ nI (kV G u) = 6 from ne_l (b := 6) h6 (by omega) (by omega))]
      · unfold m_Model_byteOf lm_Model_byteOf_1
        rw [c2, bind_s]
        refine (if_neg (by decide)).trans ?_
        by_cases hob : ∃ o, u = vO o
        · obtain ⟨o, rfl⟩ := hob
          have hoR : o ∈ lR := k1
          obtain ⟨d1, d2, d3, d4, d5, d6⟩ := hr
          have hO := (d1.2 o hoR).2.1
          have hb := adr_bd hoR (G := G) d4
          have hka := kindAt_R (N := N) (I := J1) (F := F) hO hb.1 (d5 o hoR).1
          have e52 : J1 52 = 2 := k2
          have e53 : J1 53 = nI (adr (gZ G) lR o) := k3
          have h6 : ¬ gK G o = 6 := h6
          have hk8 := (okO_K hO).2
          rw [if_pos e52, e53, hka, bind_s, if_neg (show ¬ nI (gK G o) = 6 from ne_l (b := 6) h6 (by omega) (by omega))]
          exact if_pos rfl
        · rw [k2, if_neg (show ¬ tR u = 2 from tR_ne k1 (fun p hp => hob ⟨p, hp⟩))]
          exact if_pos rfl
end LY
