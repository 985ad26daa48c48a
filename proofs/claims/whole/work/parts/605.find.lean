/-! A value by its path -/
section FD
variable {N : Nat}
variable {nk : Nat → Nat} {nm : Nat} {nid : Nat} {G : Nat → GO} {lE : List Nat} {gg : Nat → AV} {t : Nat} {gs : Nat → AV} {fr : Nat} {gc : Nat → AV} {hn : Nat} {gb : Nat → Nat} {gf : Nat → Nat} {gr : Nat → Int32} {hF : Nat → Nat} {hH : Nat → Nat} {hP : Nat → Int32} {hD : Nat → Int32} {lR : List Nat} {P_size : Int32} {P_constants : Int32} {P_closed : Int32} {P_open : Int32} {O_size : Int32} {S_top : Int32} {S_frames : Int32} {S_handlers : Int32} {H_globalsUsed : Int32} {H_used : Int32} {H_spareUsed : Int32} {H_old : Int32} {H_oldLeadsToNew : Int32} {H_limit : Int32} {H_every : Int32} {H_fresh : Int32} {H_made : Int32} {H_madeLimit : Int32} {H_reachedFromGlobals : Int32} {H_reachedInAll : Int32} {H_keptGlobalsUsed : Int32} {H_kept : Int32} {B_names : Int32} {Q_size : Int32} {M_status : Int32} {M_place : Int32} {M_next : Int32} {M_fuel : Int32} {M_ticks : Int32} {M_depth : Int32} {M_depthLimit : Int32} {M_done : Int32} {n_P_words : Nat} {f_P_words : Nat → Int32} {n_P_bytes : Nat} {f_P_bytes : Nat → Int32} {n_P_ends : Nat} {f_P_ends : Nat → Int32} {n_O_bytes : Nat} {f_O_bytes : Nat → Int32} {n_S_values : Nat} {f_S_values : Nat → Int64} {n_S_bases : Nat} {f_S_bases : Nat → Int32} {n_S_floors : Nat} {f_S_floors : Nat → Int32} {n_S_returns : Nat} {f_S_returns : Nat → Int32} {n_S_closures : Nat} {f_S_closures : Nat → Int64} {n_S_handlerFrames : Nat} {f_S_handlerFrames : Nat → Int32} {n_S_handlerPlaces : Nat} {f_S_handlerPlaces : Nat → Int32} {n_S_handlerHeights : Nat} {f_S_handlerHeights : Nat → Int32} {n_S_handlerDepths : Nat} {f_S_handlerDepths : Nat → Int32} {n_H_globals : Nat} {f_H_globals : Nat → Int64} {n_H_cells : Nat} {f_H_cells : Nat → Int64} {n_H_spare : Nat} {f_H_spare : Nat → Int64} {n_Q_links : Nat} {f_Q_links : Nat → Int32} {n_Q_pairs : Nat} {f_Q_pairs : Nat → Int64} {I : Nat → Int32} {F : Nat → Nat → Int32}
def bK (x : Int64) (k : Nat) : Nat := (shL x k).toBitVec.toNat % 256
theorem bK_lt (x : Int64) (k : Nat) : bK x k < 256 := Nat.mod_lt _ (by decide)
theorem bK_e (x : Int64) (k : Nat) : (shL x k).toInt32 &&& 255 = nI (bK x k) := by
  have h : (shL x k).toInt32 &&& nI 255 = nI (byI (shL x k).toInt32) := byI_and _
  have e : byI (shL x k).toInt32 = bK x k := by
    unfold byI bK
    have : (shL x k).toInt32.toBitVec.toNat = (shL x k).toBitVec.toNat % 4294967296 := by
      show ((shL x k).toBitVec.signExtend 32).toNat = _
      rw [BitVec.signExtend_eq_setWidth_of_le _ (by omega), BitVec.toNat_setWidth]
    rw [this]
    omega
  rw [e] at h
  exact h
theorem lN_tn (y : Int64) : y = lN y.toBitVec.toNat := by
  apply Int64.toBitVec_inj.mp
  rw [wb_tb]
  apply BitVec.eq_of_toNat_eq
  rw [BitVec.toNat_ofNat, Nat.mod_eq_of_lt y.toBitVec.isLt]
theorem bK_r (x : Int64) {k : Nat} (hk : k < 8) : (x >>> ((nI (8 * k)).toInt64 &&& 63)) &&& 255 = lN (bK x k) := by
  have e : x >>> ((nI (8 * k)).toInt64 &&& 63) = shA x k := by
    unfold shA
    rw [show (8 : Int32) = nI 8 from rfl, q_mul]
  rw [e, ← sh_and x hk]
  have hl := (shL x k).toBitVec.isLt
  have h := lN_tn (shL x k)
  unfold bK
  generalize (shL x k).toBitVec.toNat = n at h hl
  rw [h]
  exact wb_mask (k := 8) hl (by decide)
/-- what a path leads to -/
def fpt (G : Nat → GO) (x : Int64) : Nat → Nat → AV → Option AV
  | 0, _, v => some v
  | m + 1, k, v => if bK x k = 0 then some v else match v with
    | .inr (.inr o) => if bK x k ≤ gNp G o then fpt G x m (k + 1) (gP G o (bK x k)) else none
    | _ => none
/-- what finding needs of a heap: hpE without the rest -/
theorem parts_h {l : List Nat} {c : Nat → Int64} {nC : Nat} {v : AV} (hG : wf nk nm nid G l) (ht : tot (gZ G) l ≤ nC) (hC : nC ≤ 131072) (hh : heE G l c) (hn' : nm < 134217728) (hv : okV nk nm l v) : ∀ (H_globalsUsed : Int32) (H_used : Int32) (H_spareUsed : Int32) (H_old : Int32) (H_oldLeadsToNew : Int32) (H_limit : Int32) (H_every : Int32) (H_fresh : Int32) (H_made : Int32) (H_madeLimit : Int32) (H_reachedFromGlobals : Int32) (H_reachedInAll : Int32) (H_keptGlobalsUsed : Int32) (H_kept : Int32), m_Heap_parts N H_globalsUsed H_used H_spareUsed H_old H_oldLeadsToNew H_limit H_every H_fresh H_made H_madeLimit H_reachedFromGlobals H_reachedInAll H_keptGlobalsUsed H_kept nC c (wE G l v) = some (nI (match v with | .inr (.inr o) => gNp G o | _ => 0)) := by
  intros
  have h1 := kd_E (N := N) hG hv
  rcases v with n | ⟨k, i⟩ | o
  · have h1 : m_Value_kind N (wE G l (vS n)) = some (nI 0) := h1
    unfold m_Heap_parts
    simp (disch := omega) only [q_o, q_0, q_1, q_2, q_3, q_4, q_5, q_6, q_7, q_8, q_9, q_10, q_11, q_12, q_13, q_14, q_15, q_16, q_17, q_18, q_19, q_20, q_21, q_22, q_23, q_24, q_25, q_26, q_27, q_28, q_29, q_30, q_31, q_32, q_33, q_34, q_35, q_36, q_37, q_38, q_39, q_40, q_41, q_42, q_43, q_44, q_45, q_46, q_47, q_48, q_49, q_50, q_51, q_52, q_53, q_63, q_64, q_126, q_128, q_255, q_512, q_1024, q_1026, q_2000, q_2048, q_2049, q_4095, q_4096, q_8192, q_16383, q_65535, q_65536, q_69632, q_131072, q_132000, q_262144, q_300000, q_1000000, q_lt_t, q_lt_f, q_le_t, q_le_f, q_eq_t, q_eq_f, q_cl, q_add, q_mul, q_sub, q_nle_f, q_nle_t, q_nlt_f, q_nlt_t, q_neq_f, eq_self, q_n1, q_n2, q_m1, q_m1', q_m2, q_m21, q_m0, q_ml, upd_e, upd_n, updL_e, updL_n, updF_e, updF_n, let_d, tk_s, bind_s, or_false, false_or, and_true, true_and, if_true, if_false, ite_true, ite_false, reduceIte, not_true, not_false_iff, Nat.zero_add, Nat.add_zero, Nat.sub_zero, h1]
  · have h1 : m_Value_kind N (wE G l (vN k i)) = some (nI 1) := h1
    unfold m_Heap_parts
    simp (disch := omega) only [q_o, q_0, q_1, q_2, q_3, q_4, q_5, q_6, q_7, q_8, q_9, q_10, q_11, q_12, q_13, q_14, q_15, q_16, q_17, q_18, q_19, q_20, q_21, q_22, q_23, q_24, q_25, q_26, q_27, q_28, q_29, q_30, q_31, q_32, q_33, q_34, q_35, q_36, q_37, q_38, q_39, q_40, q_41, q_42, q_43, q_44, q_45, q_46, q_47, q_48, q_49, q_50, q_51, q_52, q_53, q_63, q_64, q_126, q_128, q_255, q_512, q_1024, q_1026, q_2000, q_2048, q_2049, q_4095, q_4096, q_8192, q_16383, q_65535, q_65536, q_69632, q_131072, q_132000, q_262144, q_300000, q_1000000, q_lt_t, q_lt_f, q_le_t, q_le_f, q_eq_t, q_eq_f, q_cl, q_add, q_mul, q_sub, q_nle_f, q_nle_t, q_nlt_f, q_nlt_t, q_neq_f, eq_self, q_n1, q_n2, q_m1, q_m1', q_m2, q_m21, q_m0, q_ml, upd_e, upd_n, updL_e, updL_n, updF_e, updF_n, let_d, tk_s, bind_s, or_false, false_or, and_true, true_and, if_true, if_false, ite_true, ite_false, reduceIte, not_true, not_false_iff, Nat.zero_add, Nat.add_zero, Nat.sub_zero, h1]
  · have ho : o ∈ l := hv
    have hO := (hG.2 o ho).2.1
    have hk := okO_K hO
    have hb := adr_bd ho (G := G) (by omega)
    have hend := adr_end (Z := gZ G) ho
    have h2 : m_Value_number N (wE G l (vO o)) = some (nI (adr (gZ G) l o)) := nu_E (N := N) (v := vO o) hG ho hn' (by omega)
    have h3 := (hh o ho).1
    have h1 : m_Value_kind N (wE G l (vO o)) = some (nI (gK G o)) := h1
    unfold m_Heap_parts
    by_cases h6 : gK G o = 6
    · have : gNp G o = 0 := by unfold gNp; rw [if_pos h6]
      simp (disch := omega) only [q_o, q_0, q_1, q_2, q_3, q_4, q_5, q_6, q_7, q_8, q_9, q_10, q_11, q_12, q_13, q_14, q_15, q_16, q_17, q_18, q_19, q_20, q_21, q_22, q_23, q_24, q_25, q_26, q_27, q_28, q_29, q_30, q_31, q_32, q_33, q_34, q_35, q_36, q_37, q_38, q_39, q_40, q_41, q_42, q_43, q_44, q_45, q_46, q_47, q_48, q_49, q_50, q_51, q_52, q_53, q_63, q_64, q_126, q_128, q_255, q_512, q_1024, q_1026, q_2000, q_2048, q_2049, q_4095, q_4096, q_8192, q_16383, q_65535, q_65536, q_69632, q_131072, q_132000, q_262144, q_300000, q_1000000, q_lt_t, q_lt_f, q_le_t, q_le_f, q_eq_t, q_eq_f, q_cl, q_add, q_mul, q_sub, q_nle_f, q_nle_t, q_nlt_f, q_nlt_t, q_neq_f, eq_self, q_n1, q_n2, q_m1, q_m1', q_m2, q_m21, q_m0, q_ml, upd_e, upd_n, updL_e, updL_n, updF_e, updF_n, let_d, tk_s, bind_s, or_false, false_or, and_true, true_and, if_true, if_false, ite_true, ite_false, reduceIte, not_true, not_false_iff, Nat.zero_add, Nat.add_zero, Nat.sub_zero, h1, h6, this]
    · have hz := gZ_np h6
      have hz2 := okO_Z hO hn'
      have e : 1 + gNp G o - 1 = gNp G o := by omega
      simp (disch := omega) only [q_o, q_0, q_1, q_2, q_3, q_4, q_5, q_6, q_7, q_8, q_9, q_10, q_11, q_12, q_13, q_14, q_15, q_16, q_17, q_18, q_19, q_20, q_21, q_22, q_23, q_24, q_25, q_26, q_27, q_28, q_29, q_30, q_31, q_32, q_33, q_34, q_35, q_36, q_37, q_38, q_39, q_40, q_41, q_42, q_43, q_44, q_45, q_46, q_47, q_48, q_49, q_50, q_51, q_52, q_53, q_63, q_64, q_126, q_128, q_255, q_512, q_1024, q_1026, q_2000, q_2048, q_2049, q_4095, q_4096, q_8192, q_16383, q_65535, q_65536, q_69632, q_131072, q_132000, q_262144, q_300000, q_1000000, q_lt_t, q_lt_f, q_le_t, q_le_f, q_eq_t, q_eq_f, q_cl, q_add, q_mul, q_sub, q_nle_f, q_nle_t, q_nlt_f, q_nlt_t, q_neq_f, eq_self, q_n1, q_n2, q_m1, q_m1', q_m2, q_m21, q_m0, q_ml, upd_e, upd_n, updL_e, updL_n, updF_e, updF_n, let_d, tk_s, bind_s, or_false, false_or, and_true, true_and, if_true, if_false, ite_true, ite_false, reduceIte, not_true, not_false_iff, Nat.zero_add, Nat.add_zero, Nat.sub_zero, h1, h2, h3, sizeOf_hE hO hn', hz, e]
theorem find1 {l : List Nat} {c : Nat → Int64} {nC : Nat} {x : Int64} (hG : wf nk nm nid G l) (ht : tot (gZ G) l ≤ nC) (hC : nC ≤ 131072) (hh : heE G l c) (hn' : nm < 134217728) : ∀ (m k : Nat) (v : AV), k ≤ 8 → 9 - k < m → okV nk nm l v →
    (∀ u, fpt G x (8 - k) k v = some u → okV nk nm l u) ∧ ∀ (H_globalsUsed : Int32) (H_used : Int32) (H_spareUsed : Int32) (H_old : Int32) (H_oldLeadsToNew : Int32) (H_limit : Int32) (H_every : Int32) (H_fresh : Int32) (H_made : Int32) (H_madeLimit : Int32) (H_reachedFromGlobals : Int32) (H_reachedInAll : Int32) (H_keptGlobalsUsed : Int32) (H_kept : Int32), (lm_Heap_find_1 N H_globalsUsed H_used H_spareUsed H_old H_oldLeadsToNew H_limit H_every H_fresh H_made H_madeLimit H_reachedFromGlobals H_reachedInAll H_keptGlobalsUsed H_kept nC c x (fun (v2_4 : Int64) (v2_6 : Int32) => some v2_4) (fun (v2_4 : Int64) (v2_6 : Int32) => some (-9223372036854775808 : Int64)) (fun (v2_4 : Int64) (v2_6 : Int32) => some v2_4) m (wE G l v) (nI k)) = some (match fpt G x (8 - k) k v with | some u => wE G l u | none => -9223372036854775808)
  | 0, k, v, _, h, _ => absurd h (Nat.not_lt_zero _)
  | m + 1, k, v, hk, hm, hv => by
    by_cases q : k = 8
    · subst q
      refine ⟨fun u hu => ?_, ?_⟩
      · have hu : some v = some u := hu
        rw [← Option.some.inj hu]
        exact hv
      · intros
        rw [lm_Heap_find_1, if_pos (by decide)]
        rfl
    · have e8 : ¬ (8 : Int32) ≤ nI k := by rw [show (8 : Int32) = nI 8 from rfl, q_le_f (by omega) (by omega)]; exact id
      have hb := bK_lt x k
      have he : 8 - k = 8 - (k + 1) + 1 := by omega
      have hp := parts_h (N := N) hG ht hC hh hn' hv
      by_cases h0 : bK x k = 0
      · have hf : fpt G x (8 - k) k v = some v := by rw [he]; exact if_pos h0
        rw [hf]
        refine ⟨fun u hu => by rw [← Option.some.inj hu]; exact hv, ?_⟩
        intros
        rw [lm_Heap_find_1, if_neg e8, let_d]
        refine (if_pos (show (shL x k).toInt32 &&& 255 = 0 by rw [bK_e, h0]; rfl)).trans rfl
      · have hne : ¬ (shL x k).toInt32 &&& 255 = 0 := by rw [bK_e]; exact ne_l (b := 0) h0 (by omega) (by omega)
        by_cases hob : ∃ o, v = vO o
        · obtain ⟨o, rfl⟩ := hob
          have ho : o ∈ l := hv
          have hnb := np_bd (hG.2 o ho).2.1 hn'
          have hp : ∀ (H_globalsUsed : Int32) (H_used : Int32) (H_spareUsed : Int32) (H_old : Int32) (H_oldLeadsToNew : Int32) (H_limit : Int32) (H_every : Int32) (H_fresh : Int32) (H_made : Int32) (H_madeLimit : Int32) (H_reachedFromGlobals : Int32) (H_reachedInAll : Int32) (H_keptGlobalsUsed : Int32) (H_kept : Int32), m_Heap_parts N H_globalsUsed H_used H_spareUsed H_old H_oldLeadsToNew H_limit H_every H_fresh H_made H_madeLimit H_reachedFromGlobals H_reachedInAll H_keptGlobalsUsed H_kept nC c (wE G l (vO o)) = some (nI (gNp G o)) := hp
          have hf : fpt G x (8 - k) k (vO o) = if bK x k ≤ gNp G o then fpt G x (8 - (k + 1)) (k + 1) (gP G o (bK x k)) else none := by rw [he]; exact if_neg h0
          by_cases hle : bK x k ≤ gNp G o
          · rw [if_pos hle] at hf
            have hend := adr_end (Z := gZ G) ho
            have hiz := (np_lt hle (by omega)).1
            have h3 := (hh o ho).2.1 (bK x k) (by omega) hle
            have okp := (hG.2 o ho).2.2.1 (bK x k) (by omega) hle
            have nu : m_Value_number N (wE G l (vO o)) = some (nI (adr (gZ G) l o)) := nu_E (N := N) (v := vO o) hG ho hn' (by omega)
            have ih := find1 (x := x) hG ht hC hh hn' m (k + 1) (gP G o (bK x k)) (by omega) (by omega) okp
            rw [hf]
            refine ⟨ih.1, ?_⟩
            intros
            rw [lm_Heap_find_1, if_neg e8, let_d]
            refine (if_neg hne).trans ?_
            rw [hp, bind_s, show (x.toUInt64 >>> ((8 * nI k).toInt64.toUInt64 &&& Int64.toUInt64 63)).toInt64.toInt32 &&& 255 = nI (bK x k) from bK_e x k, if_pos (show nI (bK x k) ≤ nI (gNp G o) by rw [q_le_t (by omega) (by omega)]; exact True.intro), nu, bind_s, q_add, if_neg (bd_n (by omega) (by omega)), q_cl (by omega), h3, nI_1]
            exact ih.2 ..
          · rw [if_neg hle] at hf
            rw [hf]
            refine ⟨fun u hu => (by cases hu), ?_⟩
            intros
            rw [lm_Heap_find_1, if_neg e8, let_d]
            refine (if_neg hne).trans ?_
            rw [hp, bind_s, show (x.toUInt64 >>> ((8 * nI k).toInt64.toUInt64 &&& Int64.toUInt64 63)).toInt64.toInt32 &&& 255 = nI (bK x k) from bK_e x k, if_neg (show ¬ nI (bK x k) ≤ nI (gNp G o) by rw [q_le_f (by omega) (by omega)]; exact id)]
        · have hf : fpt G x (8 - k) k v = none := by
            rw [he]
            rcases v with n | ⟨k', i'⟩ | o
            · exact if_neg h0
            · exact if_neg h0
            · exact absurd ⟨o, rfl⟩ hob
          have hp : ∀ (H_globalsUsed : Int32) (H_used : Int32) (H_spareUsed : Int32) (H_old : Int32) (H_oldLeadsToNew : Int32) (H_limit : Int32) (H_every : Int32) (H_fresh : Int32) (H_made : Int32) (H_madeLimit : Int32) (H_reachedFromGlobals : Int32) (H_reachedInAll : Int32) (H_keptGlobalsUsed : Int32) (H_kept : Int32), m_Heap_parts N H_globalsUsed H_used H_spareUsed H_old H_oldLeadsToNew H_limit H_every H_fresh H_made H_madeLimit H_reachedFromGlobals H_reachedInAll H_keptGlobalsUsed H_kept nC c (wE G l v) = some (nI 0) := by
            rcases v with n | ⟨k', i'⟩ | o
            · exact hp
            · exact hp
            · exact absurd ⟨o, rfl⟩ hob
          rw [hf]
          refine ⟨fun u hu => (by cases hu), ?_⟩
          intros
          rw [lm_Heap_find_1, if_neg e8, let_d]
          refine (if_neg hne).trans ?_
          rw [hp, bind_s, show (x.toUInt64 >>> ((8 * nI k).toInt64.toUInt64 &&& Int64.toUInt64 63)).toInt64.toInt32 &&& 255 = nI (bK x k) from bK_e x k, if_neg (show ¬ nI (bK x k) ≤ nI 0 by rw [q_le_f (by omega) (by omega)]; exact id)]
theorem find2 {l : List Nat} {c : Nat → Int64} {nC : Nat} {x : Int64} (hG : wf nk nm nid G l) (ht : tot (gZ G) l ≤ nC) (hC : nC ≤ 131072) (hh : heE G l c) (hn' : nm < 134217728) : ∀ (m k : Nat) (v : AV), k ≤ 8 → 9 - k < m → okV nk nm l v →
    (∀ u, fpt G x (8 - k) k v = some u → okV nk nm l u) ∧ ∀ (H_globalsUsed : Int32) (H_used : Int32) (H_spareUsed : Int32) (H_old : Int32) (H_oldLeadsToNew : Int32) (H_limit : Int32) (H_every : Int32) (H_fresh : Int32) (H_made : Int32) (H_madeLimit : Int32) (H_reachedFromGlobals : Int32) (H_reachedInAll : Int32) (H_keptGlobalsUsed : Int32) (H_kept : Int32), (lm_Heap_find_2 N H_globalsUsed H_used H_spareUsed H_old H_oldLeadsToNew H_limit H_every H_fresh H_made H_madeLimit H_reachedFromGlobals H_reachedInAll H_keptGlobalsUsed H_kept nC c x (fun (v2_4 : Int64) (v2_6 : Int32) => some v2_4) (fun (v2_4 : Int64) (v2_6 : Int32) => some (-9223372036854775808 : Int64)) (fun (v2_4 : Int64) (v2_6 : Int32) => some v2_4) m (wE G l v) (nI k)) = some (match fpt G x (8 - k) k v with | some u => wE G l u | none => -9223372036854775808)
  | 0, k, v, _, h, _ => absurd h (Nat.not_lt_zero _)
  | m + 1, k, v, hk, hm, hv => by
    by_cases q : k = 8
    · subst q
      refine ⟨fun u hu => ?_, ?_⟩
      · have hu : some v = some u := hu
        rw [← Option.some.inj hu]
        exact hv
      · intros
        rw [lm_Heap_find_2, if_pos (by decide)]
        rfl
    · have e8 : ¬ (8 : Int32) ≤ nI k := by rw [show (8 : Int32) = nI 8 from rfl, q_le_f (by omega) (by omega)]; exact id
      have hb := bK_lt x k
      have he : 8 - k = 8 - (k + 1) + 1 := by omega
      have hp := parts_h (N := N) hG ht hC hh hn' hv
      by_cases h0 : bK x k = 0
      · have hf : fpt G x (8 - k) k v = some v := by rw [he]; exact if_pos h0
        rw [hf]
        refine ⟨fun u hu => by rw [← Option.some.inj hu]; exact hv, ?_⟩
        intros
        rw [lm_Heap_find_2, if_neg e8, let_d]
        refine (if_pos (show (shL x k).toInt32 &&& 255 = 0 by rw [bK_e, h0]; rfl)).trans rfl
      · have hne : ¬ (shL x k).toInt32 &&& 255 = 0 := by rw [bK_e]; exact ne_l (b := 0) h0 (by omega) (by omega)
        by_cases hob : ∃ o, v = vO o
        · obtain ⟨o, rfl⟩ := hob
          have ho : o ∈ l := hv
          have hnb := np_bd (hG.2 o ho).2.1 hn'
          have hp : ∀ (H_globalsUsed : Int32) (H_used : Int32) (H_spareUsed : Int32) (H_old : Int32) (H_oldLeadsToNew : Int32) (H_limit : Int32) (H_every : Int32) (H_fresh : Int32) (H_made : Int32) (H_madeLimit : Int32) (H_reachedFromGlobals : Int32) (H_reachedInAll : Int32) (H_keptGlobalsUsed : Int32) (H_kept : Int32), m_Heap_parts N H_globalsUsed H_used H_spareUsed H_old H_oldLeadsToNew H_limit H_every H_fresh H_made H_madeLimit H_reachedFromGlobals H_reachedInAll H_keptGlobalsUsed H_kept nC c (wE G l (vO o)) = some (nI (gNp G o)) := hp
          have hf : fpt G x (8 - k) k (vO o) = if bK x k ≤ gNp G o then fpt G x (8 - (k + 1)) (k + 1) (gP G o (bK x k)) else none := by rw [he]; exact if_neg h0
          by_cases hle : bK x k ≤ gNp G o
          · rw [if_pos hle] at hf
            have hend := adr_end (Z := gZ G) ho
            have hiz := (np_lt hle (by omega)).1
            have h3 := (hh o ho).2.1 (bK x k) (by omega) hle
            have okp := (hG.2 o ho).2.2.1 (bK x k) (by omega) hle
            have nu : m_Value_number N (wE G l (vO o)) = some (nI (adr (gZ G) l o)) := nu_E (N := N) (v := vO o) hG ho hn' (by omega)
            have ih := find2 (x := x) hG ht hC hh hn' m (k + 1) (gP G o (bK x k)) (by omega) (by omega) okp
            rw [hf]
            refine ⟨ih.1, ?_⟩
            intros
            rw [lm_Heap_find_2, if_neg e8, let_d]
            refine (if_neg hne).trans ?_
            rw [hp, bind_s, show (x.toUInt64 >>> ((8 * nI k).toInt64.toUInt64 &&& Int64.toUInt64 63)).toInt64.toInt32 &&& 255 = nI (bK x k) from bK_e x k, if_pos (show nI (bK x k) ≤ nI (gNp G o) by rw [q_le_t (by omega) (by omega)]; exact True.intro), nu, bind_s, q_add, if_neg (bd_n (by omega) (by omega)), q_cl (by omega), h3, nI_1]
            exact ih.2 ..
          · rw [if_neg hle] at hf
            rw [hf]
            refine ⟨fun u hu => (by cases hu), ?_⟩
            intros
            rw [lm_Heap_find_2, if_neg e8, let_d]
            refine (if_neg hne).trans ?_
            rw [hp, bind_s, show (x.toUInt64 >>> ((8 * nI k).toInt64.toUInt64 &&& Int64.toUInt64 63)).toInt64.toInt32 &&& 255 = nI (bK x k) from bK_e x k, if_neg (show ¬ nI (bK x k) ≤ nI (gNp G o) by rw [q_le_f (by omega) (by omega)]; exact id)]
        · have hf : fpt G x (8 - k) k v = none := by
            rw [he]
            rcases v with n | ⟨k', i'⟩ | o
            · exact if_neg h0
            · exact if_neg h0
            · exact absurd ⟨o, rfl⟩ hob
          have hp : ∀ (H_globalsUsed : Int32) (H_used : Int32) (H_spareUsed : Int32) (H_old : Int32) (H_oldLeadsToNew : Int32) (H_limit : Int32) (H_every : Int32) (H_fresh : Int32) (H_made : Int32) (H_madeLimit : Int32) (H_reachedFromGlobals : Int32) (H_reachedInAll : Int32) (H_keptGlobalsUsed : Int32) (H_kept : Int32), m_Heap_parts N H_globalsUsed H_used H_spareUsed H_old H_oldLeadsToNew H_limit H_every H_fresh H_made H_madeLimit H_reachedFromGlobals H_reachedInAll H_keptGlobalsUsed H_kept nC c (wE G l v) = some (nI 0) := by
            rcases v with n | ⟨k', i'⟩ | o
            · exact hp
            · exact hp
            · exact absurd ⟨o, rfl⟩ hob
          rw [hf]
          refine ⟨fun u hu => (by cases hu), ?_⟩
          intros
          rw [lm_Heap_find_2, if_neg e8, let_d]
          refine (if_neg hne).trans ?_
          rw [hp, bind_s, show (x.toUInt64 >>> ((8 * nI k).toInt64.toUInt64 &&& Int64.toUInt64 63)).toInt64.toInt32 &&& 255 = nI (bK x k) from bK_e x k, if_neg (show ¬ nI (bK x k) ≤ nI 0 by rw [q_le_f (by omega) (by omega)]; exact id)]
theorem okO_n4 {o : Nat} (h : okO nk nm G o) : gNp G o ≤ 4095 := by
  unfold gNp
  rcases h with ⟨q, _, _, q2⟩ | ⟨q, q2⟩ | ⟨q, q2⟩ | ⟨q, _, q2⟩ | ⟨q, _⟩ | ⟨q, _⟩
  · rw [if_neg (by omega), if_neg (by omega)]; omega
  · rw [if_neg (by omega), if_neg (by omega)]; omega
  · rw [if_neg (by omega), if_neg (by omega)]; omega
  · rw [if_neg (by omega), if_neg (by omega)]; omega
  · rw [if_pos q]; omega
  · rw [if_neg (by omega), if_pos q]; omega
theorem find3 {l : List Nat} {x : Int64} (h : hpR nk nm nid G l gg I F) : ∀ (m k : Nat) (v : AV) (J : Nat → Int32), k ≤ 8 → 9 - k < m → okV nk nm l v → J 52 = tR v → J 53 = vR G l v →
    ∃ J', (∀ j, j ≠ 52 → j ≠ 53 → J' j = J j) ∧ lm_Model_find_3 N F x (fun (v3_4 : Int32) (w3_I : (Nat → Int32)) => some ((1 : Int32), w3_I)) (fun (v3_4 : Int32) (w3_I : (Nat → Int32)) => some ((0 : Int32), w3_I)) m (nI (8 * k)) J = some (match fpt G x (8 - k) k v with | some u => 1 | none => 0, J') ∧ ∀ u, fpt G x (8 - k) k v = some u → okV nk nm l u ∧ J' 52 = tR u ∧ J' 53 = vR G l u
  | 0, k, v, J, _, h, _, _, _ => absurd h (Nat.not_lt_zero _)
  | m + 1, k, v, J, hk, hm, hv, h52, h53 => by
    obtain ⟨c1, c2, c3, c4, c5, c6⟩ := h
    by_cases q : k = 8
    · subst q
      refine ⟨J, fun _ _ _ => rfl, ?_, fun u hu => ?_⟩
      · rw [lm_Model_find_3, if_pos (by decide)]
        rfl
      · have hu : some v = some u := hu
        rw [← Option.some.inj hu]
        exact ⟨hv, h52, h53⟩
    · have e8 : ¬ (64 : Int32) ≤ nI (8 * k) := by rw [show (64 : Int32) = nI 64 from rfl, q_le_f (by omega) (by omega)]; exact id
      have hb := bK_lt x k
      have he : 8 - k = 8 - (k + 1) + 1 := by omega
      have hbr := bK_r x (k := k) (by omega)
      by_cases h0 : bK x k = 0
      · have hf : fpt G x (8 - k) k v = some v := by rw [he]; exact if_pos h0
        rw [hf]
        refine ⟨J, fun _ _ _ => rfl, ?_, fun u hu => by rw [← Option.some.inj hu]; exact ⟨hv, h52, h53⟩⟩
        rw [lm_Model_find_3, if_neg e8, hbr, h0, if_pos (show lg_cmp (lN 0) 0 = 0 from (lg_cmp_eq _ _).mpr rfl)]
      · have hne : ¬ lg_cmp (lN (bK x k)) 0 = 0 := fun h => h0 (lN_inj (b := 0) (by omega) (by omega) ((lg_cmp_eq _ _).mp h))
        by_cases hob : ∃ o, v = vO o
        · obtain ⟨o, rfl⟩ := hob
          have ho : o ∈ l := hv
          have h52' : J 52 = 2 := h52
          have h53' : J 53 = nI (adr (gZ G) l o) := h53
          have hO := (c1.2 o ho).2.1
          have hb2 := adr_bd ho (G := G) c4
          obtain ⟨a1, a2, a3, a4⟩ := c5 o ho
          have hpa := partsAt_R (N := N) (I := J) (F := F) hO hb2.1 a1
          have hf : fpt G x (8 - k) k (vO o) = if bK x k ≤ gNp G o then fpt G x (8 - (k + 1)) (k + 1) (gP G o (bK x k)) else none := by rw [he]; exact if_neg h0
          have hnb : gNp G o < 2147483648 := by
            have := okO_n4 hO
            omega
          by_cases hle : bK x k ≤ gNp G o
          · rw [if_pos hle] at hf
            have hiz := (np_lt hle (by omega)).1
            have okp := (c1.2 o ho).2.2.1 (bK x k) (by omega) hle
            obtain ⟨p1, p2⟩ := a3 (bK x k) (by omega) hle
            obtain ⟨J', d1, d2, d3⟩ := find3 (x := x) ⟨c1, c2, c3, c4, c5, c6⟩ m (k + 1) (gP G o (bK x k)) (upd (upd J 52 (tR (gP G o (bK x k)))) 53 (vR G l (gP G o (bK x k)))) (by omega) (by omega) okp (by rw [upd_n (by omega), upd_e rfl]) (upd_e rfl)
            rw [hf]
            refine ⟨J', fun j j52 j53 => by rw [d1 j j52 j53, upd_n j53, upd_n j52], ?_, d3⟩
            rw [lm_Model_find_3, if_neg e8, hbr, if_neg hne, if_pos h52', h53', hpa, bind_s, lN_i, if_pos (show nI (bK x k) ≤ nI (gNp G o) by rw [q_le_t (by omega) (by omega)]; exact True.intro), q_add, if_neg (bd_n (by omega) (by omega)), let_d, let_d, if_neg (bd_n (by omega) (by omega)), let_d, let_d, q_cl (by omega), p1, p2, show nI (8 * k) + 8 = nI (8 * (k + 1)) from q_add _ 8]
            exact d2
          · rw [if_neg hle] at hf
            rw [hf]
            refine ⟨J, fun _ _ _ => rfl, ?_, fun u hu => by cases hu⟩
            rw [lm_Model_find_3, if_neg e8, hbr, if_neg hne, if_pos h52', h53', hpa, bind_s, lN_i, if_neg (show ¬ nI (bK x k) ≤ nI (gNp G o) by rw [q_le_f (by omega) (by omega)]; exact id)]
        · have hf : fpt G x (8 - k) k v = none := by
            rw [he]
            rcases v with n | ⟨k', i'⟩ | o
            · exact if_neg h0
            · exact if_neg h0
            · exact absurd ⟨o, rfl⟩ hob
          rw [hf]
          refine ⟨J, fun _ _ _ => rfl, ?_, fun u hu => by cases hu⟩
          rw [lm_Model_find_3, if_neg e8, hbr, if_neg hne, h52, if_neg (show ¬ tR v = 2 from tR_ne hv (fun p hp => hob ⟨p, hp⟩))]
end FD
