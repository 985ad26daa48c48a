/-! The reference's cells: kind, parts, size; marking -/
section RF
variable {G : Nat → GO} {l : List Nat} {nk : Nat → Nat} {nm nid : Nat} {N : Nat} {I : Nat → Int32} {F : Nat → Nat → Int32}
theorem r_and (a : Nat) (h : a < 2147483648) : nI a &&& nI 255 = nI (a % 256) := by
  have : nI a &&& nI 255 = _ := pk_and (nI a) 8 (by decide)
  rw [nI_tn, Nat.mod_eq_of_lt (show a < 4294967296 by omega)] at this
  exact this
theorem r_shr (a : Nat) (h : a < 4294967296) : ((nI a).toUInt32 >>> ((nI 8).toUInt32 &&& (nI 31).toUInt32)).toInt32 = nI (a / 256) := by
  have e : ((nI 8).toUInt32 &&& (nI 31).toUInt32) = 8 := by decide
  rw [e]
  apply Int32.toBitVec_inj.mp
  apply BitVec.eq_of_toNat_eq
  rw [nI_tn]
  show ((nI a).toUInt32 >>> (8 : UInt32)).toNat = _
  rw [UInt32.toNat_shiftRight]
  show (nI a).toBitVec.toNat >>> (8 % 32) = _
  rw [nI_tn, Nat.shiftRight_eq_div_pow, show 2 ^ (8 % 32) = 256 by decide]
  omega
theorem th_bd {o : Nat} (h : okO nk nm G o) : ∃ m, thR G o = nI (gK G o + 256 * m) ∧ m ≤ 65535 ∧ gK G o < 8 ∧ (gK G o = 2 ∨ gK G o = 4 → m = gC G o) ∧ (gK G o = 7 → gN G o = nI m) ∧ (gK G o = 3 ∨ gK G o = 5 → m = 1) ∧ (gK G o = 6 → m = 0) := by
  have hk := okO_K h
  unfold thR
  rcases h with h | h | h | h | h | ⟨h, k, h1, h2, h3⟩
  · exact ⟨gC G o, by rw [if_neg (by omega), if_neg (by omega)], by omega, hk.2, fun _ => rfl, by omega, by omega, by omega⟩
  · exact ⟨gC G o, by rw [if_neg (by omega), if_neg (by omega)], by omega, hk.2, fun _ => rfl, by omega, by omega, by omega⟩
  · exact ⟨gC G o, by rw [if_neg (by omega), if_neg (by omega)], by omega, hk.2, fun _ => rfl, by omega, by omega, by omega⟩
  · exact ⟨gC G o, by rw [if_neg (by omega), if_neg (by omega)], by omega, hk.2, fun _ => rfl, by omega, by omega, by omega⟩
  · exact ⟨0, by rw [if_pos (by omega)], by omega, hk.2, by omega, by omega, by omega, by omega⟩
  · refine ⟨k, by rw [if_neg (by omega), if_pos (by omega), h1, q_cl (by omega)], by omega, hk.2, by omega, fun _ => h1, by omega, by omega⟩
theorem kindAt_R {o a : Nat} (h : okO nk nm G o) (ha : a < 131072) (h0 : F 0 a = thR G o) : m_Model_kindAt N I F (nI a) = some (nI (gK G o)) := by
  obtain ⟨m, e, hm, hk, _⟩ := th_bd h
  unfold m_Model_kindAt
  simp (disch := omega) only [q_o, q_0, q_1, q_2, q_3, q_4, q_5, q_6, q_7, q_8, q_9, q_10, q_11, q_12, q_13, q_14, q_15, q_16, q_17, q_18, q_19, q_20, q_21, q_22, q_23, q_24, q_25, q_26, q_27, q_28, q_29, q_30, q_31, q_32, q_33, q_34, q_35, q_36, q_37, q_38, q_39, q_40, q_41, q_42, q_43, q_44, q_45, q_46, q_47, q_48, q_49, q_50, q_51, q_52, q_53, q_63, q_64, q_126, q_128, q_255, q_512, q_1024, q_1026, q_2000, q_2048, q_2049, q_4095, q_4096, q_8192, q_16383, q_65535, q_65536, q_69632, q_131072, q_132000, q_262144, q_300000, q_1000000, q_lt_t, q_lt_f, q_le_t, q_le_f, q_eq_t, q_eq_f, q_cl, q_add, q_mul, q_sub, q_nle_f, q_nle_t, q_nlt_f, q_nlt_t, q_neq_f, eq_self, q_n1, q_n2, q_m1, q_m1', q_m2, q_m21, q_m0, q_ml, upd_e, upd_n, updL_e, updL_n, updF_e, updF_n, let_d, tk_s, bind_s, or_false, false_or, and_true, true_and, if_true, if_false, ite_true, ite_false, reduceIte, not_true, not_false_iff, Nat.zero_add, Nat.add_zero, Nat.sub_zero, h0, e, r_and]
  congr 2
  omega
theorem partsAt_R {o a : Nat} (h : okO nk nm G o) (ha : a < 131072) (h0 : F 0 a = thR G o) : m_Model_partsAt N I F (nI a) = some (nI (gNp G o)) := by
  obtain ⟨m, e, hm, hk, e1, e2, e3, e4⟩ := th_bd h
  have hk2 := okO_K h
  unfold m_Model_partsAt
  rw [kindAt_R h ha h0]
  unfold gNp
  by_cases h6 : gK G o = 6
  · simp (disch := omega) only [q_o, q_0, q_1, q_2, q_3, q_4, q_5, q_6, q_7, q_8, q_9, q_10, q_11, q_12, q_13, q_14, q_15, q_16, q_17, q_18, q_19, q_20, q_21, q_22, q_23, q_24, q_25, q_26, q_27, q_28, q_29, q_30, q_31, q_32, q_33, q_34, q_35, q_36, q_37, q_38, q_39, q_40, q_41, q_42, q_43, q_44, q_45, q_46, q_47, q_48, q_49, q_50, q_51, q_52, q_53, q_63, q_64, q_126, q_128, q_255, q_512, q_1024, q_1026, q_2000, q_2048, q_2049, q_4095, q_4096, q_8192, q_16383, q_65535, q_65536, q_69632, q_131072, q_132000, q_262144, q_300000, q_1000000, q_lt_t, q_lt_f, q_le_t, q_le_f, q_eq_t, q_eq_f, q_cl, q_add, q_mul, q_sub, q_nle_f, q_nle_t, q_nlt_f, q_nlt_t, q_neq_f, eq_self, q_n1, q_n2, q_m1, q_m1', q_m2, q_m21, q_m0, q_ml, upd_e, upd_n, updL_e, updL_n, updF_e, updF_n, let_d, tk_s, bind_s, or_false, false_or, and_true, true_and, if_true, if_false, ite_true, ite_false, reduceIte, not_true, not_false_iff, Nat.zero_add, Nat.add_zero, Nat.sub_zero, h6]
  · by_cases h24 : gK G o = 2 ∨ gK G o = 4
    · have em := e1 h24
      have ed : (gK G o + 256 * m) / 256 = m := by omega
      rcases h24 with h24 | h24
      all_goals
        simp (disch := omega) only [q_o, q_0, q_1, q_2, q_3, q_4, q_5, q_6, q_7, q_8, q_9, q_10, q_11, q_12, q_13, q_14, q_15, q_16, q_17, q_18, q_19, q_20, q_21, q_22, q_23, q_24, q_25, q_26, q_27, q_28, q_29, q_30, q_31, q_32, q_33, q_34, q_35, q_36, q_37, q_38, q_39, q_40, q_41, q_42, q_43, q_44, q_45, q_46, q_47, q_48, q_49, q_50, q_51, q_52, q_53, q_63, q_64, q_126, q_128, q_255, q_512, q_1024, q_1026, q_2000, q_2048, q_2049, q_4095, q_4096, q_8192, q_16383, q_65535, q_65536, q_69632, q_131072, q_132000, q_262144, q_300000, q_1000000, q_lt_t, q_lt_f, q_le_t, q_le_f, q_eq_t, q_eq_f, q_cl, q_add, q_mul, q_sub, q_nle_f, q_nle_t, q_nlt_f, q_nlt_t, q_neq_f, eq_self, q_n1, q_n2, q_m1, q_m1', q_m2, q_m21, q_m0, q_ml, upd_e, upd_n, updL_e, updL_n, updF_e, updF_n, let_d, tk_s, bind_s, or_false, false_or, and_true, true_and, if_true, if_false, ite_true, ite_false, reduceIte, not_true, not_false_iff, Nat.zero_add, Nat.add_zero, Nat.sub_zero, h0, e, r_shr, ed]
        rw [em]
    · have hc : gK G o = 7 ∨ gC G o = 1 := by
        rcases h with h | h | h | h | h | ⟨h, _⟩ <;> omega
      rcases hc with h7 | h1
      · simp (disch := omega) only [q_o, q_0, q_1, q_2, q_3, q_4, q_5, q_6, q_7, q_8, q_9, q_10, q_11, q_12, q_13, q_14, q_15, q_16, q_17, q_18, q_19, q_20, q_21, q_22, q_23, q_24, q_25, q_26, q_27, q_28, q_29, q_30, q_31, q_32, q_33, q_34, q_35, q_36, q_37, q_38, q_39, q_40, q_41, q_42, q_43, q_44, q_45, q_46, q_47, q_48, q_49, q_50, q_51, q_52, q_53, q_63, q_64, q_126, q_128, q_255, q_512, q_1024, q_1026, q_2000, q_2048, q_2049, q_4095, q_4096, q_8192, q_16383, q_65535, q_65536, q_69632, q_131072, q_132000, q_262144, q_300000, q_1000000, q_lt_t, q_lt_f, q_le_t, q_le_f, q_eq_t, q_eq_f, q_cl, q_add, q_mul, q_sub, q_nle_f, q_nle_t, q_nlt_f, q_nlt_t, q_neq_f, eq_self, q_n1, q_n2, q_m1, q_m1', q_m2, q_m21, q_m0, q_ml, upd_e, upd_n, updL_e, updL_n, updF_e, updF_n, let_d, tk_s, bind_s, or_false, false_or, and_true, true_and, if_true, if_false, ite_true, ite_false, reduceIte, not_true, not_false_iff, Nat.zero_add, Nat.add_zero, Nat.sub_zero, h7]
      · by_cases h7 : gK G o = 7
        · simp (disch := omega) only [q_o, q_0, q_1, q_2, q_3, q_4, q_5, q_6, q_7, q_8, q_9, q_10, q_11, q_12, q_13, q_14, q_15, q_16, q_17, q_18, q_19, q_20, q_21, q_22, q_23, q_24, q_25, q_26, q_27, q_28, q_29, q_30, q_31, q_32, q_33, q_34, q_35, q_36, q_37, q_38, q_39, q_40, q_41, q_42, q_43, q_44, q_45, q_46, q_47, q_48, q_49, q_50, q_51, q_52, q_53, q_63, q_64, q_126, q_128, q_255, q_512, q_1024, q_1026, q_2000, q_2048, q_2049, q_4095, q_4096, q_8192, q_16383, q_65535, q_65536, q_69632, q_131072, q_132000, q_262144, q_300000, q_1000000, q_lt_t, q_lt_f, q_le_t, q_le_f, q_eq_t, q_eq_f, q_cl, q_add, q_mul, q_sub, q_nle_f, q_nle_t, q_nlt_f, q_nlt_t, q_neq_f, eq_self, q_n1, q_n2, q_m1, q_m1', q_m2, q_m21, q_m0, q_ml, upd_e, upd_n, updL_e, updL_n, updF_e, updF_n, let_d, tk_s, bind_s, or_false, false_or, and_true, true_and, if_true, if_false, ite_true, ite_false, reduceIte, not_true, not_false_iff, Nat.zero_add, Nat.add_zero, Nat.sub_zero, h7]
        · simp (disch := omega) only [q_o, q_0, q_1, q_2, q_3, q_4, q_5, q_6, q_7, q_8, q_9, q_10, q_11, q_12, q_13, q_14, q_15, q_16, q_17, q_18, q_19, q_20, q_21, q_22, q_23, q_24, q_25, q_26, q_27, q_28, q_29, q_30, q_31, q_32, q_33, q_34, q_35, q_36, q_37, q_38, q_39, q_40, q_41, q_42, q_43, q_44, q_45, q_46, q_47, q_48, q_49, q_50, q_51, q_52, q_53, q_63, q_64, q_126, q_128, q_255, q_512, q_1024, q_1026, q_2000, q_2048, q_2049, q_4095, q_4096, q_8192, q_16383, q_65535, q_65536, q_69632, q_131072, q_132000, q_262144, q_300000, q_1000000, q_lt_t, q_lt_f, q_le_t, q_le_f, q_eq_t, q_eq_f, q_cl, q_add, q_mul, q_sub, q_nle_f, q_nle_t, q_nlt_f, q_nlt_t, q_neq_f, eq_self, q_n1, q_n2, q_m1, q_m1', q_m2, q_m21, q_m0, q_ml, upd_e, upd_n, updL_e, updL_n, updF_e, updF_n, let_d, tk_s, bind_s, or_false, false_or, and_true, true_and, if_true, if_false, ite_true, ite_false, reduceIte, not_true, not_false_iff, Nat.zero_add, Nat.add_zero, Nat.sub_zero, h1, q_neq_f]
theorem sizeAt_R {o a : Nat} (h : okO nk nm G o) (hn : nm < 134217728) (ha : a < 131072) (h0 : F 0 a = thR G o) (h1 : F 1 a = chR G o) : m_Model_sizeAt N I F (nI a) = some (nI (gZ G o)) := by
  have hz := okO_Z h hn
  unfold m_Model_sizeAt
  rw [kindAt_R h ha h0, partsAt_R h ha h0]
  by_cases h6 : gK G o = 6
  · have hc := hz.2.2.2 h6
    have ec : chR G o = nI (gC G o) := by unfold chR; rw [if_pos (Or.inl h6)]
    have eZ : gZ G o = 1 + (gC G o + 3) / 4 := by unfold gZ; rw [if_pos h6]
    simp (disch := omega) only [q_o, q_0, q_1, q_2, q_3, q_4, q_5, q_6, q_7, q_8, q_9, q_10, q_11, q_12, q_13, q_14, q_15, q_16, q_17, q_18, q_19, q_20, q_21, q_22, q_23, q_24, q_25, q_26, q_27, q_28, q_29, q_30, q_31, q_32, q_33, q_34, q_35, q_36, q_37, q_38, q_39, q_40, q_41, q_42, q_43, q_44, q_45, q_46, q_47, q_48, q_49, q_50, q_51, q_52, q_53, q_63, q_64, q_126, q_128, q_255, q_512, q_1024, q_1026, q_2000, q_2048, q_2049, q_4095, q_4096, q_8192, q_16383, q_65535, q_65536, q_69632, q_131072, q_132000, q_262144, q_300000, q_1000000, q_lt_t, q_lt_f, q_le_t, q_le_f, q_eq_t, q_eq_f, q_cl, q_add, q_mul, q_sub, q_nle_f, q_nle_t, q_nlt_f, q_nlt_t, q_neq_f, eq_self, q_n1, q_n2, q_m1, q_m1', q_m2, q_m21, q_m0, q_ml, upd_e, upd_n, updL_e, updL_n, updF_e, updF_n, let_d, tk_s, bind_s, or_false, false_or, and_true, true_and, if_true, if_false, ite_true, ite_false, reduceIte, not_true, not_false_iff, Nat.zero_add, Nat.add_zero, Nat.sub_zero, h6, h1, ec, q_div4, eZ]
  · have hk := okO_K h
    rw [gZ_np h6]
    simp (disch := omega) only [q_o, q_0, q_1, q_2, q_3, q_4, q_5, q_6, q_7, q_8, q_9, q_10, q_11, q_12, q_13, q_14, q_15, q_16, q_17, q_18, q_19, q_20, q_21, q_22, q_23, q_24, q_25, q_26, q_27, q_28, q_29, q_30, q_31, q_32, q_33, q_34, q_35, q_36, q_37, q_38, q_39, q_40, q_41, q_42, q_43, q_44, q_45, q_46, q_47, q_48, q_49, q_50, q_51, q_52, q_53, q_63, q_64, q_126, q_128, q_255, q_512, q_1024, q_1026, q_2000, q_2048, q_2049, q_4095, q_4096, q_8192, q_16383, q_65535, q_65536, q_69632, q_131072, q_132000, q_262144, q_300000, q_1000000, q_lt_t, q_lt_f, q_le_t, q_le_f, q_eq_t, q_eq_f, q_cl, q_add, q_mul, q_sub, q_nle_f, q_nle_t, q_nlt_f, q_nlt_t, q_neq_f, eq_self, q_n1, q_n2, q_m1, q_m1', q_m2, q_m21, q_m0, q_ml, upd_e, upd_n, updL_e, updL_n, updF_e, updF_n, let_d, tk_s, bind_s, or_false, false_or, and_true, true_and, if_true, if_false, ite_true, ite_false, reduceIte, not_true, not_false_iff, Nat.zero_add, Nat.add_zero, Nat.sub_zero]
/-- marking: dn has been gone through, wl waits -/
def lnk (Z : Nat → Nat) (l : List Nat) (C : Nat → Int32) : List Nat → Int32 → Prop
  | [], h => h = mI2
  | o :: w, h => h = nI (adr Z l o) ∧ lnk Z l C w (C (adr Z l o))
theorem lnk_upd {Z : Nat → Nat} {C : Nat → Int32} {a : Nat} {x : Int32} : ∀ {w : List Nat} {h : Int32}, (∀ q, q ∈ w → adr Z l q ≠ a) → lnk Z l C w h → lnk Z l (upd C a x) w h
  | [], h, _, e => e
  | o :: w, h, hne, e => ⟨e.1, by
      rw [upd_n (hne o (List.mem_cons_self ..))]
      exact lnk_upd (fun q hq => hne q (List.mem_cons_of_mem _ hq)) e.2⟩
def mst (G : Nat → GO) (l : List Nat) (P : Nat → Prop) (C : Nat → Int32) (hd r : Int32) (dn wl : List Nat) : Prop :=
  (dn ++ wl).Nodup ∧ (∀ o, o ∈ dn ++ wl → o ∈ l ∧ P o) ∧ (∀ o, o ∈ dn → C (adr (gZ G) l o) = mI2) ∧ (∀ o, o ∈ l → o ∉ dn ++ wl → C (adr (gZ G) l o) = mI1) ∧ (∀ a, a < 131072 → (∀ o, o ∈ l → a ≠ adr (gZ G) l o) → C a = mI1) ∧ lnk (gZ G) l C wl hd ∧ r = nI (tot (gZ G) (dn ++ wl))
def sameF (F F' : Nat → Nat → Int32) : Prop := ∀ k, k ≠ 2 → F' k = F k
def sameI (I I' : Nat → Int32) : Prop := ∀ k, k ≠ 50 → k ≠ 51 → I' k = I k
theorem tR_ne {v : AV} (h : okV nk nm l v) (hv : ∀ p, v ≠ vO p) : ¬ tR v = nI 2 := by
  rcases v with n | ⟨k, i⟩ | o
  · show ¬ nI 0 = nI 2
    rw [q_eq_f (by omega) (by omega) (by omega)]
    exact id
  · show ¬ nI (1 + 256 * k) = nI 2
    have := h.1
    rw [q_eq_f (by omega) (by omega) (by omega)]
    exact id
  · exact absurd rfl (hv o)
theorem mark_R {P : Nat → Prop} {dn wl : List Nat} {v : AV} (hG : wf nk nm nid G l) (hn : nm < 134217728) (ht : tot (gZ G) l ≤ 131072) (hh : heR G l (F 0) (F 1)) (hm : mst G l P (F 2) (I 50) (I 51) dn wl) (hv : okV nk nm l v) (hP : ∀ p, v = vO p → P p) :
    ∃ (F' : Nat → Nat → Int32) (I' : Nat → Int32) (e : List Nat), m_Model_mark N I F (tR v) (vR G l v) = some (F', I') ∧ sameF F F' ∧ sameI I I' ∧ mst G l P (F' 2) (I' 50) (I' 51) dn (e ++ wl) ∧ (∀ p, v = vO p → p ∈ dn ++ (e ++ wl)) := by
  by_cases hob : ∀ p, v ≠ vO p
  · refine ⟨F, I, [], ?_, fun _ _ => rfl, fun _ _ _ => rfl, hm, fun p hp => absurd hp (hob p)⟩
    unfold m_Model_mark
    have := tR_ne hv hob
    simp (disch := omega) only [q_o, q_0, q_1, q_2, q_3, q_4, q_5, q_6, q_7, q_8, q_9, q_10, q_11, q_12, q_13, q_14, q_15, q_16, q_17, q_18, q_19, q_20, q_21, q_22, q_23, q_24, q_25, q_26, q_27, q_28, q_29, q_30, q_31, q_32, q_33, q_34, q_35, q_36, q_37, q_38, q_39, q_40, q_41, q_42, q_43, q_44, q_45, q_46, q_47, q_48, q_49, q_50, q_51, q_52, q_53, q_63, q_64, q_126, q_128, q_255, q_512, q_1024, q_1026, q_2000, q_2048, q_2049, q_4095, q_4096, q_8192, q_16383, q_65535, q_65536, q_69632, q_131072, q_132000, q_262144, q_300000, q_1000000, q_lt_t, q_lt_f, q_le_t, q_le_f, q_eq_t, q_eq_f, q_cl, q_add, q_mul, q_sub, q_nle_f, q_nle_t, q_nlt_f, q_nlt_t, q_neq_f, eq_self, q_n1, q_n2, q_m1, q_m1', q_m2, q_m21, q_m0, q_ml, upd_e, upd_n, updL_e, updL_n, updF_e, updF_n, let_d, tk_s, bind_s, or_false, false_or, and_true, true_and, if_true, if_false, ite_true, ite_false, reduceIte, not_true, not_false_iff, Nat.zero_add, Nat.add_zero, Nat.sub_zero, this]
  · have : ∃ o, v = vO o := by
      rcases v with n | ⟨k, i⟩ | o
      · exact absurd (fun p h => by cases h) hob
      · exact absurd (fun p h => by cases h) hob
      · exact ⟨o, rfl⟩
    obtain ⟨o, rfl⟩ := this
    have hv : o ∈ l := hv
    obtain ⟨w1, hO, w3, w4⟩ := hG.2 o hv
    have hend := adr_end (Z := gZ G) hv
    have hz := gZ_pos G o
    obtain ⟨a1, a2, a3, a4, a5, a6, a7⟩ := hm
    have et : tR (vO o) = nI 2 := rfl
    have ev : vR G l (vO o) = nI (adr (gZ G) l o) := rfl
    obtain ⟨b0, b1, _⟩ := hh o hv
    by_cases hmk : o ∈ dn ++ wl
    · refine ⟨F, I, [], ?_, fun _ _ => rfl, fun _ _ _ => rfl, ⟨a1, a2, a3, a4, a5, a6, a7⟩, fun p hp => by cases hp; exact hmk⟩
      have hne : ¬ F 2 (adr (gZ G) l o) = mI1 := by
        rcases List.mem_append.mp hmk with h | h
        · rw [a3 o h]
          decide
        · have : ∀ (w : List Nat) (hd : Int32), lnk (gZ G) l (F 2) w hd → (∀ q, q ∈ w → q ∈ l) → o ∈ w → ¬ F 2 (adr (gZ G) l o) = mI1 := by
            intro w
            induction w with
            | nil => intro hd _ _ h; cases h
            | cons x w ih =>
              intro hd hl hs ho
              rcases List.mem_cons.mp ho with rfl | ho
              · cases w with
                | nil => rw [hl.2]; decide
                | cons y w =>
                  rw [hl.2.1]
                  have := adr_end (Z := gZ G) (hs y (List.mem_cons_of_mem _ (List.mem_cons_self ..)))
                  rw [q_m1 (by omega)]
                  exact id
              · exact ih _ hl.2 (fun q hq => hs q (List.mem_cons_of_mem _ hq)) ho
          exact this wl _ a6 (fun q hq => (a2 q (List.mem_append_right _ hq)).1) h
      unfold m_Model_mark
      simp (disch := omega) only [q_o, q_0, q_1, q_2, q_3, q_4, q_5, q_6, q_7, q_8, q_9, q_10, q_11, q_12, q_13, q_14, q_15, q_16, q_17, q_18, q_19, q_20, q_21, q_22, q_23, q_24, q_25, q_26, q_27, q_28, q_29, q_30, q_31, q_32, q_33, q_34, q_35, q_36, q_37, q_38, q_39, q_40, q_41, q_42, q_43, q_44, q_45, q_46, q_47, q_48, q_49, q_50, q_51, q_52, q_53, q_63, q_64, q_126, q_128, q_255, q_512, q_1024, q_1026, q_2000, q_2048, q_2049, q_4095, q_4096, q_8192, q_16383, q_65535, q_65536, q_69632, q_131072, q_132000, q_262144, q_300000, q_1000000, q_lt_t, q_lt_f, q_le_t, q_le_f, q_eq_t, q_eq_f, q_cl, q_add, q_mul, q_sub, q_nle_f, q_nle_t, q_nlt_f, q_nlt_t, q_neq_f, eq_self, q_n1, q_n2, q_m1, q_m1', q_m2, q_m21, q_m0, q_ml, upd_e, upd_n, updL_e, updL_n, updF_e, updF_n, let_d, tk_s, bind_s, or_false, false_or, and_true, true_and, if_true, if_false, ite_true, ite_false, reduceIte, not_true, not_false_iff, Nat.zero_add, Nat.add_zero, Nat.sub_zero, et, ev, hne]
    · have hC := a4 o hv hmk
      refine ⟨updF F 2 (upd (F 2) (adr (gZ G) l o) (I 50)), upd (upd I 50 (nI (adr (gZ G) l o))) 51 (I 51 + nI (gZ G o)), [o], ?_, ?_, ?_, ?_, fun p hp => by cases hp; exact List.mem_append_right _ (List.mem_append_left _ (List.mem_singleton.mpr rfl))⟩
      · unfold m_Model_mark
        have hs := sizeAt_R (N := N) (I := upd I 50 (nI (adr (gZ G) l o))) (F := updF F 2 (upd (F 2) (adr (gZ G) l o) (I 50))) (a := adr (gZ G) l o) hO hn (by omega) (by rw [updF_n (by omega)]; exact b0) (by rw [updF_n (by omega)]; exact b1)
        simp (disch := omega) only [q_o, q_0, q_1, q_2, q_3, q_4, q_5, q_6, q_7, q_8, q_9, q_10, q_11, q_12, q_13, q_14, q_15, q_16, q_17, q_18, q_19, q_20, q_21, q_22, q_23, q_24, q_25, q_26, q_27, q_28, q_29, q_30, q_31, q_32, q_33, q_34, q_35, q_36, q_37, q_38, q_39, q_40, q_41, q_42, q_43, q_44, q_45, q_46, q_47, q_48, q_49, q_50, q_51, q_52, q_53, q_63, q_64, q_126, q_128, q_255, q_512, q_1024, q_1026, q_2000, q_2048, q_2049, q_4095, q_4096, q_8192, q_16383, q_65535, q_65536, q_69632, q_131072, q_132000, q_262144, q_300000, q_1000000, q_lt_t, q_lt_f, q_le_t, q_le_f, q_eq_t, q_eq_f, q_cl, q_add, q_mul, q_sub, q_nle_f, q_nle_t, q_nlt_f, q_nlt_t, q_neq_f, eq_self, q_n1, q_n2, q_m1, q_m1', q_m2, q_m21, q_m0, q_ml, upd_e, upd_n, updL_e, updL_n, updF_e, updF_n, let_d, tk_s, bind_s, or_false, false_or, and_true, true_and, if_true, if_false, ite_true, ite_false, reduceIte, not_true, not_false_iff, Nat.zero_add, Nat.add_zero, Nat.sub_zero, et, ev, hC, hs]
      · intro k hk
        rw [updF_n hk]
      · intro k h1 h2
        rw [upd_n h2, upd_n h1]
      · rw [updF_e rfl, upd_n (by omega), upd_e rfl, upd_e rfl]
        have hnd : (dn ++ ([o] ++ wl)).Nodup := by
          have : (dn ++ ([o] ++ wl)).Perm (o :: (dn ++ wl)) := by
            simp only [List.singleton_append]
            exact List.perm_middle
          exact (List.Perm.nodup_iff this).mpr (List.nodup_cons.mpr ⟨hmk, a1⟩)
        have hZ := gZ_pos G
        refine ⟨hnd, ?_, ?_, ?_, ?_, ?_, ?_⟩
        · intro q hq
          rcases List.mem_append.mp hq with h | h
          · exact a2 q (List.mem_append_left _ h)
          · rcases List.mem_append.mp h with h | h
            · rw [List.mem_singleton] at h
              subst h
              exact ⟨hv, hP q rfl⟩
            · exact a2 q (List.mem_append_right _ h)
        · intro q hq
          rw [upd_n (fun e => hmk (by rw [← adr_inj hZ (a2 q (List.mem_append_left _ hq)).1 hv e]; exact List.mem_append_left _ hq))]
          exact a3 q hq
        · intro q hq hqn
          have hqo : q ≠ o := fun e => hqn (by rw [e]; exact List.mem_append_right _ (List.mem_append_left _ (List.mem_singleton.mpr rfl)))
          rw [upd_n (fun e => hqo (adr_inj hZ hq hv e))]
          exact a4 q hq (fun h => hqn (by
            rcases List.mem_append.mp h with h | h
            · exact List.mem_append_left _ h
            · exact List.mem_append_right _ (List.mem_append_right _ h)))
        · intro a h131 ha
          rw [upd_n (ha o hv)]
          exact a5 a h131 ha
        · refine ⟨rfl, ?_⟩
          rw [upd_e rfl]
          exact lnk_upd (fun q hq e => hmk (by rw [← adr_inj hZ (a2 q (List.mem_append_right _ hq)).1 hv e]; exact List.mem_append_right _ hq)) a6
        · rw [a7, q_add]
          congr 1
          rw [tot_append, tot_append, tot_append]
          show _ = tot (gZ G) dn + (gZ G o + 0 + tot (gZ G) wl)
          omega
end RF
