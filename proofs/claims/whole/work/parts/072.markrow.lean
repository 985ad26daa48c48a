/-! The reference's roots: marked -/
section RF
variable {G : Nat → GO} {l : List Nat} {nk : Nat → Nat} {nm nid : Nat} {N : Nat}
def clR (G : Nat → GO) (l : List Nat) : AV → Int32
  | .inl _ => mI1
  | .inr (.inl _) => mI1
  | .inr (.inr o) => nI (adr (gZ G) l o)
theorem mGl_R {P : Nat → Prop} {gg : Nat → AV} (hF : fxR nk nm nid G l P) (hr : ∀ k, k < 2048 → okV nk nm l (gg k) ∧ (∀ p, gg k = vO p → P p)) :
    ∀ (n i : Nat) (F : Nat → Nat → Int32) (I : Nat → Int32) (wl : List Nat), i ≤ 2048 → 2048 - i < n → heR G l (F 0) (F 1) → (∀ k, k < 2048 → F 5 k = tR (gg k) ∧ F 6 k = vR G l (gg k)) → mst G l P (F 2) (I 50) (I 51) [] wl →
    ∃ (F' : Nat → Nat → Int32) (I' : Nat → Int32) (e : List Nat), (∀ (ζ : Type) (k : Int32 → (Nat → Nat → Int32) → (Nat → Int32) → Option ζ), lm_Model_markGlobals_1 N k n (nI i) F I = k (nI 2048) F' I') ∧ sameF F F' ∧ sameI I I' ∧ mst G l P (F' 2) (I' 50) (I' 51) [] (e ++ wl) ∧ (∀ k p, i ≤ k → k < 2048 → gg k = vO p → p ∈ e ++ wl)
  | 0, i, F, I, wl, _, h, _, _, _ => absurd h (Nat.not_lt_zero _)
  | n + 1, i, F, I, wl, hi, h, hh, hg, hm => by
    by_cases e : i = 2048
    · refine ⟨F, I, [], ?_, fun _ _ => rfl, fun _ _ _ => rfl, hm, fun k p h1 h2 => absurd h2 (by omega)⟩
      intro ζ k
      rw [lm_Model_markGlobals_1]
      simp (disch := omega) only [q_o, q_0, q_1, q_2, q_3, q_4, q_5, q_6, q_7, q_8, q_9, q_10, q_11, q_12, q_13, q_14, q_15, q_16, q_17, q_18, q_19, q_20, q_21, q_22, q_23, q_24, q_25, q_26, q_27, q_28, q_29, q_30, q_31, q_32, q_33, q_34, q_35, q_36, q_37, q_38, q_39, q_40, q_41, q_42, q_43, q_44, q_45, q_46, q_47, q_48, q_49, q_50, q_51, q_52, q_53, q_63, q_64, q_126, q_128, q_255, q_512, q_1024, q_1026, q_2000, q_2048, q_2049, q_4095, q_4096, q_8192, q_16383, q_65535, q_65536, q_69632, q_131072, q_132000, q_262144, q_300000, q_1000000, q_lt_t, q_lt_f, q_le_t, q_le_f, q_eq_t, q_eq_f, q_cl, q_add, q_mul, q_sub, q_nle_f, q_nle_t, q_nlt_f, q_nlt_t, q_neq_f, eq_self, q_n1, q_n2, q_m1, q_m1', q_m2, q_m21, q_m0, q_ml, upd_e, upd_n, updL_e, updL_n, updF_e, updF_n, let_d, tk_s, bind_s, or_false, false_or, and_true, true_and, if_true, if_false, ite_true, ite_false, reduceIte, not_true, not_false_iff, Nat.zero_add, Nat.add_zero, Nat.sub_zero]
      rw [e]
    · obtain ⟨t1, t2⟩ := hg i (by omega)
      obtain ⟨F1, I1, e1, m1, m2, m3, m4, m5⟩ := mark_R (N := N) hF.1 hF.2.1 hF.2.2.1 hh hm (hr i (by omega)).1 (hr i (by omega)).2
      obtain ⟨F2, I2, e2, r1, r2, r3, r4, r5⟩ := mGl_R hF hr n (i + 1) F1 I1 (e1 ++ wl) (by omega) (by omega) (by rw [m2 0 (by omega), m2 1 (by omega)]; exact hh) (fun k hk => by rw [m2 5 (by omega), m2 6 (by omega)]; exact hg k hk) m4
      rw [← List.append_assoc e2 e1 wl] at r4 r5
      refine ⟨F2, I2, e2 ++ e1, ?_, sameF_t m2 r2, sameI_t m3 r3, r4, fun k p h1 h2 h3 => ?_⟩
      · intro ζ k
        rw [lm_Model_markGlobals_1]
        simp (disch := omega) only [q_o, q_0, q_1, q_2, q_3, q_4, q_5, q_6, q_7, q_8, q_9, q_10, q_11, q_12, q_13, q_14, q_15, q_16, q_17, q_18, q_19, q_20, q_21, q_22, q_23, q_24, q_25, q_26, q_27, q_28, q_29, q_30, q_31, q_32, q_33, q_34, q_35, q_36, q_37, q_38, q_39, q_40, q_41, q_42, q_43, q_44, q_45, q_46, q_47, q_48, q_49, q_50, q_51, q_52, q_53, q_63, q_64, q_126, q_128, q_255, q_512, q_1024, q_1026, q_2000, q_2048, q_2049, q_4095, q_4096, q_8192, q_16383, q_65535, q_65536, q_69632, q_131072, q_132000, q_262144, q_300000, q_1000000, q_lt_t, q_lt_f, q_le_t, q_le_f, q_eq_t, q_eq_f, q_cl, q_add, q_mul, q_sub, q_nle_f, q_nle_t, q_nlt_f, q_nlt_t, q_neq_f, eq_self, q_n1, q_n2, q_m1, q_m1', q_m2, q_m21, q_m0, q_ml, upd_e, upd_n, updL_e, updL_n, updF_e, updF_n, let_d, tk_s, bind_s, or_false, false_or, and_true, true_and, if_true, if_false, ite_true, ite_false, reduceIte, not_true, not_false_iff, Nat.zero_add, Nat.add_zero, Nat.sub_zero, t1, t2, m1, r1]
      · by_cases ek : k = i
        · subst ek
          have := m5 p h3
          rw [List.append_assoc]
          exact List.mem_append_right _ this
        · exact r5 k p (by omega) h2 h3
theorem markGlobals_R {P : Nat → Prop} {gg : Nat → AV} {F : Nat → Nat → Int32} {I : Nat → Int32} (hN : 200000 ≤ N) (hF : fxR nk nm nid G l P) (hr : ∀ k, k < 2048 → okV nk nm l (gg k) ∧ (∀ p, gg k = vO p → P p)) (hh : heR G l (F 0) (F 1)) (hg : ∀ k, k < 2048 → F 5 k = tR (gg k) ∧ F 6 k = vR G l (gg k)) (hfree : ∀ a, a < 131072 → F 2 a = mI1) :
    ∃ (F' : Nat → Nat → Int32) (I' : Nat → Int32) (dn : List Nat), m_Model_markGlobals N I F = some (F', I') ∧ sameF F F' ∧ sameI I I' ∧ mst G l P (F' 2) (I' 50) (I' 51) dn [] ∧ (∀ k p, k < 2048 → gg k = vO p → p ∈ dn) ∧ cls G dn := by
  have hm0 : mst G l P (F 2) (upd (upd I 50 mI2) 51 (nI 0) 50) (upd (upd I 50 mI2) 51 (nI 0) 51) [] [] := by
    refine ⟨List.nodup_nil, fun o ho => (by cases ho), fun o ho => (by cases ho), fun o ho _ => ?_, fun a ha _ => hfree a ha, ?_, ?_⟩
    · have := adr_end (Z := gZ G) ho
      have := gZ_pos G o
      have := hF.2.2.1
      exact hfree _ (by omega)
    · show _ = _
      rw [upd_n (by omega), upd_e rfl]
    · rw [upd_e rfl]
      rfl
  obtain ⟨F1, I1, e1, m1, m2, m3, m4, m5⟩ := mGl_R (N := N) hF hr N 0 F _ [] (by omega) (by omega) hh hg hm0
  rw [List.append_nil] at m4 m5
  obtain ⟨F2, I2, dn, r1, r2, r3, r4, r5, r6⟩ := mAll1_R (N := N) hN hF N F1 I1 [] e1 (by simp; omega) (by rw [m2 0 (by omega), m2 1 (by omega)]; exact hh) m4 (fun q hq => by cases hq)
  refine ⟨F2, I2, dn, ?_, sameF_t m2 r2, ?_, r4, fun k p h1 h2 => r5 p (m5 k p (Nat.zero_le _) h1 h2), r6⟩
  · unfold m_Model_markGlobals m_Model_markAll
    simp (disch := omega) only [q_o, q_0, q_1, q_2, q_3, q_4, q_5, q_6, q_7, q_8, q_9, q_10, q_11, q_12, q_13, q_14, q_15, q_16, q_17, q_18, q_19, q_20, q_21, q_22, q_23, q_24, q_25, q_26, q_27, q_28, q_29, q_30, q_31, q_32, q_33, q_34, q_35, q_36, q_37, q_38, q_39, q_40, q_41, q_42, q_43, q_44, q_45, q_46, q_47, q_48, q_49, q_50, q_51, q_52, q_53, q_63, q_64, q_126, q_128, q_255, q_512, q_1024, q_1026, q_2000, q_2048, q_2049, q_4095, q_4096, q_8192, q_16383, q_65535, q_65536, q_69632, q_131072, q_132000, q_262144, q_300000, q_1000000, q_lt_t, q_lt_f, q_le_t, q_le_f, q_eq_t, q_eq_f, q_cl, q_add, q_mul, q_sub, q_nle_f, q_nle_t, q_nlt_f, q_nlt_t, q_neq_f, eq_self, q_n1, q_n2, q_m1, q_m1', q_m2, q_m21, q_m0, q_ml, upd_e, upd_n, updL_e, updL_n, updF_e, updF_n, let_d, tk_s, bind_s, or_false, false_or, and_true, true_and, if_true, if_false, ite_true, ite_false, reduceIte, not_true, not_false_iff, Nat.zero_add, Nat.add_zero, Nat.sub_zero, m1, r1]
  · intro k h1 h2
    rw [r3 k h1 h2, m3 k h1 h2, upd_n h2, upd_n h1]
theorem mRn1_R {P : Nat → Prop} {gs : Nat → AV} {t : Nat} (hF : fxR nk nm nid G l P) (ht : t ≤ 65536) (hr : ∀ k, k < t → okV nk nm l (gs k) ∧ (∀ p, gs k = vO p → P p)) :
    ∀ (n i : Nat) (F : Nat → Nat → Int32) (I : Nat → Int32) (dn wl : List Nat), i ≤ t → t - i < n → I 29 = nI t → ¬ I 20 = nI 0 → I 21 = nI 5 → heR G l (F 0) (F 1) → (∀ k, k < t → F 27 k = tR (gs k) ∧ F 28 k = vR G l (gs k)) → mst G l P (F 2) (I 50) (I 51) dn wl →
    ∃ (F' : Nat → Nat → Int32) (I' : Nat → Int32) (e : List Nat), (∀ (ζ : Type) (k : Int32 → (Nat → Nat → Int32) → (Nat → Int32) → Option ζ), lm_Model_markRun_1 N k n (nI i) F I = k (nI t) F' I') ∧ sameF F F' ∧ sameI I I' ∧ mst G l P (F' 2) (I' 50) (I' 51) dn (e ++ wl) ∧ (∀ k p, i ≤ k → k < t → gs k = vO p → p ∈ dn ++ (e ++ wl))
  | 0, i, F, I, dn, wl, _, h, _, _, _, _, _, _ => absurd h (Nat.not_lt_zero _)
  | n + 1, i, F, I, dn, wl, hi, h, h29, h20, h21, hh, hg, hm => by
    by_cases e : i = t
    · refine ⟨F, I, [], ?_, fun _ _ => rfl, fun _ _ _ => rfl, hm, fun k p h1 h2 => absurd h2 (by omega)⟩
      intro ζ k
      rw [lm_Model_markRun_1]
      simp (disch := omega) only [q_o, q_0, q_1, q_2, q_3, q_4, q_5, q_6, q_7, q_8, q_9, q_10, q_11, q_12, q_13, q_14, q_15, q_16, q_17, q_18, q_19, q_20, q_21, q_22, q_23, q_24, q_25, q_26, q_27, q_28, q_29, q_30, q_31, q_32, q_33, q_34, q_35, q_36, q_37, q_38, q_39, q_40, q_41, q_42, q_43, q_44, q_45, q_46, q_47, q_48, q_49, q_50, q_51, q_52, q_53, q_63, q_64, q_126, q_128, q_255, q_512, q_1024, q_1026, q_2000, q_2048, q_2049, q_4095, q_4096, q_8192, q_16383, q_65535, q_65536, q_69632, q_131072, q_132000, q_262144, q_300000, q_1000000, q_lt_t, q_lt_f, q_le_t, q_le_f, q_eq_t, q_eq_f, q_cl, q_add, q_mul, q_sub, q_nle_f, q_nle_t, q_nlt_f, q_nlt_t, q_neq_f, eq_self, q_n1, q_n2, q_m1, q_m1', q_m2, q_m21, q_m0, q_ml, upd_e, upd_n, updL_e, updL_n, updF_e, updF_n, let_d, tk_s, bind_s, or_false, false_or, and_true, true_and, if_true, if_false, ite_true, ite_false, reduceIte, not_true, not_false_iff, Nat.zero_add, Nat.add_zero, Nat.sub_zero, h29]
      rw [e]
    · obtain ⟨t1, t2⟩ := hg i (by omega)
      obtain ⟨F1, I1, e1, m1, m2, m3, m4, m5⟩ := mark_R (N := N) hF.1 hF.2.1 hF.2.2.1 hh hm (hr i (by omega)).1 (hr i (by omega)).2
      obtain ⟨F2, I2, e2, r1, r2, r3, r4, r5⟩ := mRn1_R hF ht hr n (i + 1) F1 I1 dn (e1 ++ wl) (by omega) (by omega) (by rw [m3 29 (by omega) (by omega)]; exact h29) (by rw [m3 20 (by omega) (by omega)]; exact h20) (by rw [m3 21 (by omega) (by omega)]; exact h21) (by rw [m2 0 (by omega), m2 1 (by omega)]; exact hh) (fun k hk => by rw [m2 27 (by omega), m2 28 (by omega)]; exact hg k hk) m4
      rw [← List.append_assoc e2 e1 wl] at r4 r5
      refine ⟨F2, I2, e2 ++ e1, ?_, sameF_t m2 r2, sameI_t m3 r3, r4, fun k p h1 h2 h3 => ?_⟩
      · intro ζ k
        rw [lm_Model_markRun_1]
        simp (disch := omega) only [q_o, q_0, q_1, q_2, q_3, q_4, q_5, q_6, q_7, q_8, q_9, q_10, q_11, q_12, q_13, q_14, q_15, q_16, q_17, q_18, q_19, q_20, q_21, q_22, q_23, q_24, q_25, q_26, q_27, q_28, q_29, q_30, q_31, q_32, q_33, q_34, q_35, q_36, q_37, q_38, q_39, q_40, q_41, q_42, q_43, q_44, q_45, q_46, q_47, q_48, q_49, q_50, q_51, q_52, q_53, q_63, q_64, q_126, q_128, q_255, q_512, q_1024, q_1026, q_2000, q_2048, q_2049, q_4095, q_4096, q_8192, q_16383, q_65535, q_65536, q_69632, q_131072, q_132000, q_262144, q_300000, q_1000000, q_lt_t, q_lt_f, q_le_t, q_le_f, q_eq_t, q_eq_f, q_cl, q_add, q_mul, q_sub, q_nle_f, q_nle_t, q_nlt_f, q_nlt_t, q_neq_f, eq_self, q_n1, q_n2, q_m1, q_m1', q_m2, q_m21, q_m0, q_ml, upd_e, upd_n, updL_e, updL_n, updF_e, updF_n, let_d, tk_s, bind_s, or_false, false_or, and_true, true_and, if_true, if_false, ite_true, ite_false, reduceIte, not_true, not_false_iff, Nat.zero_add, Nat.add_zero, Nat.sub_zero, h29, h20, h21, m_Model_isOn, t1, t2, m1, r1]
      · by_cases ek : k = i
        · subst ek
          have := m5 p h3
          rw [List.append_assoc]
          exact mem_3 this
        · exact r5 k p (by omega) h2 h3
theorem mark_0 {F : Nat → Nat → Int32} {I : Nat → Int32} (x : Int32) : m_Model_mark N I F (nI 0) x = some (F, I) := by
  unfold m_Model_mark
  simp (disch := omega) only [q_o, q_0, q_1, q_2, q_3, q_4, q_5, q_6, q_7, q_8, q_9, q_10, q_11, q_12, q_13, q_14, q_15, q_16, q_17, q_18, q_19, q_20, q_21, q_22, q_23, q_24, q_25, q_26, q_27, q_28, q_29, q_30, q_31, q_32, q_33, q_34, q_35, q_36, q_37, q_38, q_39, q_40, q_41, q_42, q_43, q_44, q_45, q_46, q_47, q_48, q_49, q_50, q_51, q_52, q_53, q_63, q_64, q_126, q_128, q_255, q_512, q_1024, q_1026, q_2000, q_2048, q_2049, q_4095, q_4096, q_8192, q_16383, q_65535, q_65536, q_69632, q_131072, q_132000, q_262144, q_300000, q_1000000, q_lt_t, q_lt_f, q_le_t, q_le_f, q_eq_t, q_eq_f, q_cl, q_add, q_mul, q_sub, q_nle_f, q_nle_t, q_nlt_f, q_nlt_t, q_neq_f, eq_self, q_n1, q_n2, q_m1, q_m1', q_m2, q_m21, q_m0, q_ml, upd_e, upd_n, updL_e, updL_n, updF_e, updF_n, let_d, tk_s, bind_s, or_false, false_or, and_true, true_and, if_true, if_false, ite_true, ite_false, reduceIte, not_true, not_false_iff, Nat.zero_add, Nat.add_zero, Nat.sub_zero]
theorem mRn2_R {P : Nat → Prop} {gc : Nat → AV} {t : Nat} (hF : fxR nk nm nid G l P) (ht : t ≤ 8192) (hr : ∀ k, k < t → okV nk nm l (gc k) ∧ (∀ p, gc k = vO p → P p)) :
    ∀ (n i : Nat) (F : Nat → Nat → Int32) (I : Nat → Int32) (dn wl : List Nat), i ≤ t → t - i < n → I 22 = nI t → ¬ I 20 = nI 0 → I 21 = nI 5 → heR G l (F 0) (F 1) → (∀ k, k < t → F 23 k = clR G l (gc k)) → mst G l P (F 2) (I 50) (I 51) dn wl →
    ∃ (F' : Nat → Nat → Int32) (I' : Nat → Int32) (e : List Nat), (∀ (ζ : Type) (k : Int32 → (Nat → Nat → Int32) → (Nat → Int32) → Option ζ), lm_Model_markRun_2 N k n (nI i) F I = k (nI t) F' I') ∧ sameF F F' ∧ sameI I I' ∧ mst G l P (F' 2) (I' 50) (I' 51) dn (e ++ wl) ∧ (∀ k p, i ≤ k → k < t → gc k = vO p → p ∈ dn ++ (e ++ wl))
  | 0, i, F, I, dn, wl, _, h, _, _, _, _, _, _ => absurd h (Nat.not_lt_zero _)
  | n + 1, i, F, I, dn, wl, hi, h, h22, h20, h21, hh, hg, hm => by
    by_cases e : i = t
    · refine ⟨F, I, [], ?_, fun _ _ => rfl, fun _ _ _ => rfl, hm, fun k p h1 h2 => absurd h2 (by omega)⟩
      intro ζ k
      rw [lm_Model_markRun_2]
      simp (disch := omega) only [q_o, q_0, q_1, q_2, q_3, q_4, q_5, q_6, q_7, q_8, q_9, q_10, q_11, q_12, q_13, q_14, q_15, q_16, q_17, q_18, q_19, q_20, q_21, q_22, q_23, q_24, q_25, q_26, q_27, q_28, q_29, q_30, q_31, q_32, q_33, q_34, q_35, q_36, q_37, q_38, q_39, q_40, q_41, q_42, q_43, q_44, q_45, q_46, q_47, q_48, q_49, q_50, q_51, q_52, q_53, q_63, q_64, q_126, q_128, q_255, q_512, q_1024, q_1026, q_2000, q_2048, q_2049, q_4095, q_4096, q_8192, q_16383, q_65535, q_65536, q_69632, q_131072, q_132000, q_262144, q_300000, q_1000000, q_lt_t, q_lt_f, q_le_t, q_le_f, q_eq_t, q_eq_f, q_cl, q_add, q_mul, q_sub, q_nle_f, q_nle_t, q_nlt_f, q_nlt_t, q_neq_f, eq_self, q_n1, q_n2, q_m1, q_m1', q_m2, q_m21, q_m0, q_ml, upd_e, upd_n, updL_e, updL_n, updF_e, updF_n, let_d, tk_s, bind_s, or_false, false_or, and_true, true_and, if_true, if_false, ite_true, ite_false, reduceIte, not_true, not_false_iff, Nat.zero_add, Nat.add_zero, Nat.sub_zero, h22]
      rw [e]
    · have t1 := hg i (by omega)
      have hri := hr i (by omega)
      have hkey : ∃ (F1 : Nat → Nat → Int32) (I1 : Nat → Int32) (e1 : List Nat), (∀ (ζ : Type) (k : Int32 → (Nat → Nat → Int32) → (Nat → Int32) → Option ζ), lm_Model_markRun_2 N k (n + 1) (nI i) F I = lm_Model_markRun_2 N k n (nI (i + 1)) F1 I1) ∧ sameF F F1 ∧ sameI I I1 ∧ mst G l P (F1 2) (I1 50) (I1 51) dn (e1 ++ wl) ∧ (∀ p, gc i = vO p → p ∈ dn ++ (e1 ++ wl)) := by
        by_cases hob : ∃ o, gc i = vO o
        · obtain ⟨o, ho⟩ := hob
          obtain ⟨F1, I1, e1, m1, m2, m3, m4, m5⟩ := mark_R (N := N) hF.1 hF.2.1 hF.2.2.1 hh hm hri.1 hri.2
          refine ⟨F1, I1, e1, ?_, m2, m3, m4, m5⟩
          intro ζ k
          rw [ho] at t1 m1 hri
          have t1 : F 23 i = nI (adr (gZ G) l o) := t1
          have m1 : m_Model_mark N I F (nI 2) (nI (adr (gZ G) l o)) = some (F1, I1) := m1
          have hol : o ∈ l := hri.1
          have hend := adr_end (Z := gZ G) hol
          have hz := gZ_pos G o
          have := hF.2.2.1
          rw [lm_Model_markRun_2]
          simp (disch := omega) only [q_o, q_0, q_1, q_2, q_3, q_4, q_5, q_6, q_7, q_8, q_9, q_10, q_11, q_12, q_13, q_14, q_15, q_16, q_17, q_18, q_19, q_20, q_21, q_22, q_23, q_24, q_25, q_26, q_27, q_28, q_29, q_30, q_31, q_32, q_33, q_34, q_35, q_36, q_37, q_38, q_39, q_40, q_41, q_42, q_43, q_44, q_45, q_46, q_47, q_48, q_49, q_50, q_51, q_52, q_53, q_63, q_64, q_126, q_128, q_255, q_512, q_1024, q_1026, q_2000, q_2048, q_2049, q_4095, q_4096, q_8192, q_16383, q_65535, q_65536, q_69632, q_131072, q_132000, q_262144, q_300000, q_1000000, q_lt_t, q_lt_f, q_le_t, q_le_f, q_eq_t, q_eq_f, q_cl, q_add, q_mul, q_sub, q_nle_f, q_nle_t, q_nlt_f, q_nlt_t, q_neq_f, eq_self, q_n1, q_n2, q_m1, q_m1', q_m2, q_m21, q_m0, q_ml, upd_e, upd_n, updL_e, updL_n, updF_e, updF_n, let_d, tk_s, bind_s, or_false, false_or, and_true, true_and, if_true, if_false, ite_true, ite_false, reduceIte, not_true, not_false_iff, Nat.zero_add, Nat.add_zero, Nat.sub_zero, h22, h20, h21, m_Model_isOn, lm_Model_markRun_3, t1, m1]
        · have t1 : F 23 i = mI1 := by
            rw [t1]
            revert hob
            generalize gc i = v
            intro hob
            rcases v with x | ⟨k, j⟩ | o
            · rfl
            · rfl
            · exact absurd ⟨o, rfl⟩ hob
          refine ⟨F, I, [], ?_, fun _ _ => rfl, fun _ _ _ => rfl, hm, fun p hp => absurd ⟨p, hp⟩ hob⟩
          intro ζ k
          rw [lm_Model_markRun_2]
          simp (disch := omega) only [q_o, q_0, q_1, q_2, q_3, q_4, q_5, q_6, q_7, q_8, q_9, q_10, q_11, q_12, q_13, q_14, q_15, q_16, q_17, q_18, q_19, q_20, q_21, q_22, q_23, q_24, q_25, q_26, q_27, q_28, q_29, q_30, q_31, q_32, q_33, q_34, q_35, q_36, q_37, q_38, q_39, q_40, q_41, q_42, q_43, q_44, q_45, q_46, q_47, q_48, q_49, q_50, q_51, q_52, q_53, q_63, q_64, q_126, q_128, q_255, q_512, q_1024, q_1026, q_2000, q_2048, q_2049, q_4095, q_4096, q_8192, q_16383, q_65535, q_65536, q_69632, q_131072, q_132000, q_262144, q_300000, q_1000000, q_lt_t, q_lt_f, q_le_t, q_le_f, q_eq_t, q_eq_f, q_cl, q_add, q_mul, q_sub, q_nle_f, q_nle_t, q_nlt_f, q_nlt_t, q_neq_f, eq_self, q_n1, q_n2, q_m1, q_m1', q_m2, q_m21, q_m0, q_ml, upd_e, upd_n, updL_e, updL_n, updF_e, updF_n, let_d, tk_s, bind_s, or_false, false_or, and_true, true_and, if_true, if_false, ite_true, ite_false, reduceIte, not_true, not_false_iff, Nat.zero_add, Nat.add_zero, Nat.sub_zero, h22, h20, h21, m_Model_isOn, lm_Model_markRun_3, t1, mark_0]
      obtain ⟨F1, I1, e1, m1, m2, m3, m4, m5⟩ := hkey
      obtain ⟨F2, I2, e2, r1, r2, r3, r4, r5⟩ := mRn2_R hF ht hr n (i + 1) F1 I1 dn (e1 ++ wl) (by omega) (by omega) (by rw [m3 22 (by omega) (by omega)]; exact h22) (by rw [m3 20 (by omega) (by omega)]; exact h20) (by rw [m3 21 (by omega) (by omega)]; exact h21) (by rw [m2 0 (by omega), m2 1 (by omega)]; exact hh) (fun k hk => by rw [m2 23 (by omega)]; exact hg k hk) m4
      rw [← List.append_assoc e2 e1 wl] at r4 r5
      refine ⟨F2, I2, e2 ++ e1, ?_, sameF_t m2 r2, sameI_t m3 r3, r4, fun k p h1 h2 h3 => ?_⟩
      · intro ζ k
        rw [m1, r1]
      · by_cases ek : k = i
        · subst ek
          have := m5 p h3
          rw [List.append_assoc]
          exact mem_3 this
        · exact r5 k p (by omega) h2 h3
end RF
