/-! The reference: closures and parts follow, then all that is marked moves down -/
section RF
variable {G : Nat → GO} {l dn : List Nat} {nk : Nat → Nat} {nm nid : Nat} {N : Nat}
theorem slide5_R {I : Nat → Int32} {va : Nat → AV} {t : Nat} (ht : tot (gZ G) l ≤ 131072) (hE : t ≤ 8192) (hr : ∀ k, k < t → okV nk nm l (va k) ∧ (∀ p, va k = vO p → p ∈ dn)) (h22 : I 22 = nI t) (h20 : ¬ I 20 = nI 0) (h21 : I 21 = nI 5) :
    ∀ (n i : Nat) (F : Nat → Nat → Int32), i ≤ t → t - i < n → stl G l dn l (F 2) → (∀ k, i ≤ k → k < t → F 23 k = clR G l (va k)) →
    ∃ (F' : Nat → Nat → Int32), (∀ (ζ : Type) (k : Int32 → (Nat → Nat → Int32) → Option ζ), lm_Model_slide_5 N I k n (nI i) F = k (nI t) F') ∧ sameX 23 F F' ∧ (∀ k, i ≤ k → k < t → F' 23 k = clR G (lf l dn) (va k)) ∧ (∀ k, k < i → F' 23 k = F 23 k)
  | 0, i, F, _, h, _, _ => absurd h (Nat.not_lt_zero _)
  | n + 1, i, F, hi, h, hs, hV => by
    by_cases e : i = t
    · refine ⟨F, ?_, fun _ _ => rfl, fun k h1 h2 => absurd h2 (by omega), fun _ _ => rfl⟩
      intro ζ k
      rw [lm_Model_slide_5]
      simp (disch := omega) only [q_o, q_0, q_1, q_2, q_3, q_4, q_5, q_6, q_7, q_8, q_9, q_10, q_11, q_12, q_13, q_14, q_15, q_16, q_17, q_18, q_19, q_20, q_21, q_22, q_23, q_24, q_25, q_26, q_27, q_28, q_29, q_30, q_31, q_32, q_33, q_34, q_35, q_36, q_37, q_38, q_39, q_40, q_41, q_42, q_43, q_44, q_45, q_46, q_47, q_48, q_49, q_50, q_51, q_52, q_53, q_63, q_64, q_126, q_128, q_255, q_512, q_1024, q_1026, q_2000, q_2048, q_2049, q_4095, q_4096, q_8192, q_16383, q_65535, q_65536, q_69632, q_131072, q_132000, q_262144, q_300000, q_1000000, q_lt_t, q_lt_f, q_le_t, q_le_f, q_eq_t, q_eq_f, q_cl, q_add, q_mul, q_sub, q_nle_f, q_nle_t, q_nlt_f, q_nlt_t, q_neq_f, eq_self, q_n1, q_n2, q_m1, q_m1', q_m2, q_m21, q_m0, q_ml, upd_e, upd_n, updL_e, updL_n, updF_e, updF_n, let_d, tk_s, bind_s, or_false, false_or, and_true, true_and, if_true, if_false, ite_true, ite_false, reduceIte, not_true, not_false_iff, Nat.zero_add, Nat.add_zero, Nat.sub_zero, h22]
      rw [e]
    · have t2 := hV i (Nat.le_refl _) (by omega)
      have hri := hr i (by omega)
      obtain ⟨F1, r1, r2, r3, r4⟩ := slide5_R ht hE hr h22 h20 h21 n (i + 1) (updF F 23 (upd (F 23) i (clR G (lf l dn) (va i)))) (by omega) (by omega) (by rw [updF_n (by omega)]; exact hs) (fun k h1 h2 => by rw [updF_e rfl, upd_n (by omega)]; exact hV k (by omega) h2)
      refine ⟨F1, ?_, ?_, ?_, ?_⟩
      · intro ζ k
        rw [lm_Model_slide_5]
        by_cases hob : ∃ o, va i = vO o
        · obtain ⟨o, ho⟩ := hob
          rw [ho] at t2 hri r1
          have hol : o ∈ l := hri.1
          have e5 := (hs.1 o hol).2.1 (hri.2 o rfl) hol
          have t2 : F 23 i = nI (adr (gZ G) l o) := t2
          have r1 := r1 ζ k
          have hcl : clR G (lf l dn) (vO o) = nI (adr (gZ G) (lf l dn) o) := rfl
          rw [hcl] at r1
          have hend := adr_end (Z := gZ G) hol
          have hz := gZ_pos G o
          simp (disch := omega) only [q_o, q_0, q_1, q_2, q_3, q_4, q_5, q_6, q_7, q_8, q_9, q_10, q_11, q_12, q_13, q_14, q_15, q_16, q_17, q_18, q_19, q_20, q_21, q_22, q_23, q_24, q_25, q_26, q_27, q_28, q_29, q_30, q_31, q_32, q_33, q_34, q_35, q_36, q_37, q_38, q_39, q_40, q_41, q_42, q_43, q_44, q_45, q_46, q_47, q_48, q_49, q_50, q_51, q_52, q_53, q_63, q_64, q_126, q_128, q_255, q_512, q_1024, q_1026, q_2000, q_2048, q_2049, q_4095, q_4096, q_8192, q_16383, q_65535, q_65536, q_69632, q_131072, q_132000, q_262144, q_300000, q_1000000, q_lt_t, q_lt_f, q_le_t, q_le_f, q_eq_t, q_eq_f, q_cl, q_add, q_mul, q_sub, q_nle_f, q_nle_t, q_nlt_f, q_nlt_t, q_neq_f, eq_self, q_n1, q_n2, q_m1, q_m1', q_m2, q_m21, q_m0, q_ml, upd_e, upd_n, updL_e, updL_n, updF_e, updF_n, let_d, tk_s, bind_s, or_false, false_or, and_true, true_and, if_true, if_false, ite_true, ite_false, reduceIte, not_true, not_false_iff, Nat.zero_add, Nat.add_zero, Nat.sub_zero, h22, h20, h21, m_Model_isOn, lm_Model_slide_6, t2, e5, r1]
        · have hcl : ∀ m, clR G m (va i) = mI1 := by
            intro m
            revert hob
            generalize va i = v
            intro hob
            rcases v with x | ⟨k, j⟩ | o
            · rfl
            · rfl
            · exact absurd ⟨o, rfl⟩ hob
          rw [hcl] at t2 r1
          simp (disch := omega) only [q_o, q_0, q_1, q_2, q_3, q_4, q_5, q_6, q_7, q_8, q_9, q_10, q_11, q_12, q_13, q_14, q_15, q_16, q_17, q_18, q_19, q_20, q_21, q_22, q_23, q_24, q_25, q_26, q_27, q_28, q_29, q_30, q_31, q_32, q_33, q_34, q_35, q_36, q_37, q_38, q_39, q_40, q_41, q_42, q_43, q_44, q_45, q_46, q_47, q_48, q_49, q_50, q_51, q_52, q_53, q_63, q_64, q_126, q_128, q_255, q_512, q_1024, q_1026, q_2000, q_2048, q_2049, q_4095, q_4096, q_8192, q_16383, q_65535, q_65536, q_69632, q_131072, q_132000, q_262144, q_300000, q_1000000, q_lt_t, q_lt_f, q_le_t, q_le_f, q_eq_t, q_eq_f, q_cl, q_add, q_mul, q_sub, q_nle_f, q_nle_t, q_nlt_f, q_nlt_t, q_neq_f, eq_self, q_n1, q_n2, q_m1, q_m1', q_m2, q_m21, q_m0, q_ml, upd_e, upd_n, updL_e, updL_n, updF_e, updF_n, let_d, tk_s, bind_s, or_false, false_or, and_true, true_and, if_true, if_false, ite_true, ite_false, reduceIte, not_true, not_false_iff, Nat.zero_add, Nat.add_zero, Nat.sub_zero, h22, h20, h21, m_Model_isOn, lm_Model_slide_6, t2, r1]
      · intro k hk
        rw [r2 k hk, updF_n hk]
      · intro k h1 h2
        by_cases ek : k = i
        · subst ek
          rw [r4 k (by omega), updF_e rfl, upd_e rfl]
        · exact r3 k (by omega) h2
      · intro k hk
        rw [r4 k (by omega), updF_e rfl, upd_n (by omega)]
/-- the cells before x of what is marked lead to the new places -/
def heX (G : Nat → GO) (l dn : List Nat) (x : Nat) (tg c : Nat → Int32) : Prop :=
  ∀ o, o ∈ l → tg (adr (gZ G) l o) = thR G o ∧ c (adr (gZ G) l o) = chR G o ∧ (∀ i, 1 ≤ i → i ≤ gNp G o → tg (adr (gZ G) l o + i) = tR (gP G o i) ∧ c (adr (gZ G) l o + i) = if o ∈ dn ∧ adr (gZ G) l o + i < x then vR G (lf l dn) (gP G o i) else vR G l (gP G o i)) ∧ (gK G o = 6 → ∀ j, j < (gC G o + 3) / 4 → c (adr (gZ G) l o + 1 + j) = nI (w4R (gB G o) j))
theorem heX_mono {x y : Nat} {tg c : Nat → Int32} (h : heX G l dn x tg c) (hxy : x ≤ y) (hno : ∀ o, o ∈ l → o ∈ dn → ∀ i, 1 ≤ i → i ≤ gNp G o → adr (gZ G) l o + i < y → adr (gZ G) l o + i < x) : heX G l dn y tg c := by
  intro o ho
  obtain ⟨a1, a2, a3, a4⟩ := h o ho
  refine ⟨a1, a2, fun i hi hin => ⟨(a3 i hi hin).1, ?_⟩, a4⟩
  rw [(a3 i hi hin).2]
  by_cases e : o ∈ dn ∧ adr (gZ G) l o + i < y
  · rw [if_pos e, if_pos ⟨e.1, hno o ho e.1 i hi hin e.2⟩]
  · rw [if_neg e, if_neg (fun h2 => e ⟨h2.1, by omega⟩)]
theorem slide9_R {I : Nat → Int32} {o : Nat} (hG : wf nk nm nid G l) (hn : nm < 134217728) (ht : tot (gZ G) l ≤ 131072) (hcl : cls G dn) (ho : o ∈ l) (hd : o ∈ dn) :
    ∀ (n i : Nat) (F : Nat → Nat → Int32), 1 ≤ i → i ≤ gNp G o + 1 → gNp G o + 1 - i < n → stl G l dn l (F 2) → heX G l dn (adr (gZ G) l o + i) (F 0) (F 1) →
    ∃ (F' : Nat → Nat → Int32), (∀ (ζ : Type) (k : Int32 → (Nat → Nat → Int32) → Option ζ), lm_Model_slide_9 N I (nI (adr (gZ G) l o)) k n (nI i) F = k (nI (gNp G o + 1)) F') ∧ sameX 1 F F' ∧ heX G l dn (adr (gZ G) l o + (gNp G o + 1)) (F' 0) (F' 1)
  | 0, i, F, _, _, h, _, _ => absurd h (Nat.not_lt_zero _)
  | n + 1, i, F, hi1, hi, h, hs, hx => by
    obtain ⟨w1, hO, w3, w4⟩ := hG.2 o ho
    have hend := adr_end (Z := gZ G) ho
    have hz := gZ_pos G o
    have hZ := (okO_Z hO hn).1
    obtain ⟨b0, b1, b2, _⟩ := hx o ho
    have hpa := partsAt_R (N := N) (I := I) (F := F) (a := adr (gZ G) l o) hO (by omega) b0
    have hnpz : gNp G o < 16385 := by
      by_cases h6 : gK G o = 6
      · unfold gNp; rw [if_pos h6]; omega
      · have := gZ_np h6; omega
    by_cases e : i = gNp G o + 1
    · refine ⟨F, ?_, fun _ _ => rfl, by rw [← e]; exact hx⟩
      intro ζ k
      rw [lm_Model_slide_9]
      simp (disch := omega) only [q_o, q_0, q_1, q_2, q_3, q_4, q_5, q_6, q_7, q_8, q_9, q_10, q_11, q_12, q_13, q_14, q_15, q_16, q_17, q_18, q_19, q_20, q_21, q_22, q_23, q_24, q_25, q_26, q_27, q_28, q_29, q_30, q_31, q_32, q_33, q_34, q_35, q_36, q_37, q_38, q_39, q_40, q_41, q_42, q_43, q_44, q_45, q_46, q_47, q_48, q_49, q_50, q_51, q_52, q_53, q_63, q_64, q_126, q_128, q_255, q_512, q_1024, q_1026, q_2000, q_2048, q_2049, q_4095, q_4096, q_8192, q_16383, q_65535, q_65536, q_69632, q_131072, q_132000, q_262144, q_300000, q_1000000, q_lt_t, q_lt_f, q_le_t, q_le_f, q_eq_t, q_eq_f, q_cl, q_add, q_mul, q_sub, q_nle_f, q_nle_t, q_nlt_f, q_nlt_t, q_neq_f, eq_self, q_n1, q_n2, q_m1, q_m1', q_m2, q_m21, q_m0, q_ml, upd_e, upd_n, updL_e, updL_n, updF_e, updF_n, let_d, tk_s, bind_s, or_false, false_or, and_true, true_and, if_true, if_false, ite_true, ite_false, reduceIte, not_true, not_false_iff, Nat.zero_add, Nat.add_zero, Nat.sub_zero, hpa]
      rw [e]
    · have hin : i ≤ gNp G o := by omega
      have hiz := (np_lt hin hi1).1
      have h6 := (np_lt hin hi1).2
      obtain ⟨t1, t2⟩ := b2 i hi1 hin
      rw [if_neg (by omega)] at t2
      have hC := (hs.1 o ho).2.1 hd ho
      have hCn : ¬ F 2 (adr (gZ G) l o) = mI1 := by
        have := adr_end (Z := gZ G) (lf_mem.mpr ⟨ho, hd⟩)
        have := lf_tot (dn := dn) (gZ G) l
        rw [hC, q_m1 (by omega)]
        exact id
      have hx1 : heX G l dn (adr (gZ G) l o + (i + 1)) (updF F 1 (upd (F 1) (adr (gZ G) l o + i) (vR G (lf l dn) (gP G o i))) 0) (updF F 1 (upd (F 1) (adr (gZ G) l o + i) (vR G (lf l dn) (gP G o i))) 1) := by
        rw [updF_n (by omega), updF_e rfl]
        intro q hq
        have hzq := gZ_pos G q
        obtain ⟨a1, a2, a3, a4⟩ := hx q hq
        refine ⟨a1, ?_, fun j hj hjn => ⟨(a3 j hj hjn).1, ?_⟩, ?_⟩
        · rw [upd_n (fun e => by
            have := (adr_in (Z := gZ G) (i := 0) (j := i) hq ho (by omega) hiz (by omega)).2
            omega)]
          exact a2
        · have hjz := (np_lt hjn hj).1
          by_cases eq : q = o ∧ j = i
          · obtain ⟨rfl, rfl⟩ := eq
            rw [upd_e rfl, if_pos ⟨hd, by omega⟩]
          · have hne : adr (gZ G) l q + j ≠ adr (gZ G) l o + i := fun e2 => eq (adr_in (Z := gZ G) hq ho hjz hiz e2)
            rw [upd_n hne, (a3 j hj hjn).2]
            by_cases hc : q ∈ dn ∧ adr (gZ G) l q + j < adr (gZ G) l o + i
            · rw [if_pos hc, if_pos ⟨hc.1, by omega⟩]
            · rw [if_neg hc, if_neg (fun h2 => hc ⟨h2.1, by omega⟩)]
        · intro e6 j hj
          have hz6 : gZ G q = 1 + (gC G q + 3) / 4 := by unfold gZ; rw [if_pos e6]
          rw [upd_n (fun e => by
            have := (adr_in (Z := gZ G) (i := 1 + j) (j := i) hq ho (by omega) hiz (by omega)).1
            exact h6 (this ▸ e6))]
          exact a4 e6 j hj
      obtain ⟨F1, r1, r2, r3⟩ := slide9_R (I := I) hG hn ht hcl ho hd n (i + 1) _ (by omega) (by omega) (by omega) (by rw [updF_n (by omega)]; exact hs) hx1
      refine ⟨F1, ?_, fun k hk => by rw [r2 k hk, updF_n hk], r3⟩
      intro ζ k
      rw [lm_Model_slide_9]
      rcases tr_v hs (w3 i hi1 hin) (fun p hp => hcl o hd i p hi1 hin hp) with ⟨e1, o', e2, e3, e4, e5⟩ | ⟨e1, e2⟩
      · have hend' := adr_end (Z := gZ G) e3
        have hz' := gZ_pos G o'
        simp (disch := omega) only [q_o, q_0, q_1, q_2, q_3, q_4, q_5, q_6, q_7, q_8, q_9, q_10, q_11, q_12, q_13, q_14, q_15, q_16, q_17, q_18, q_19, q_20, q_21, q_22, q_23, q_24, q_25, q_26, q_27, q_28, q_29, q_30, q_31, q_32, q_33, q_34, q_35, q_36, q_37, q_38, q_39, q_40, q_41, q_42, q_43, q_44, q_45, q_46, q_47, q_48, q_49, q_50, q_51, q_52, q_53, q_63, q_64, q_126, q_128, q_255, q_512, q_1024, q_1026, q_2000, q_2048, q_2049, q_4095, q_4096, q_8192, q_16383, q_65535, q_65536, q_69632, q_131072, q_132000, q_262144, q_300000, q_1000000, q_lt_t, q_lt_f, q_le_t, q_le_f, q_eq_t, q_eq_f, q_cl, q_add, q_mul, q_sub, q_nle_f, q_nle_t, q_nlt_f, q_nlt_t, q_neq_f, eq_self, q_n1, q_n2, q_m1, q_m1', q_m2, q_m21, q_m0, q_ml, upd_e, upd_n, updL_e, updL_n, updF_e, updF_n, let_d, tk_s, bind_s, or_false, false_or, and_true, true_and, if_true, if_false, ite_true, ite_false, reduceIte, not_true, not_false_iff, Nat.zero_add, Nat.add_zero, Nat.sub_zero, hpa, hCn, lm_Model_slide_10, t1, t2, e1, e4, e5, r1]
      · simp (disch := omega) only [q_o, q_0, q_1, q_2, q_3, q_4, q_5, q_6, q_7, q_8, q_9, q_10, q_11, q_12, q_13, q_14, q_15, q_16, q_17, q_18, q_19, q_20, q_21, q_22, q_23, q_24, q_25, q_26, q_27, q_28, q_29, q_30, q_31, q_32, q_33, q_34, q_35, q_36, q_37, q_38, q_39, q_40, q_41, q_42, q_43, q_44, q_45, q_46, q_47, q_48, q_49, q_50, q_51, q_52, q_53, q_63, q_64, q_126, q_128, q_255, q_512, q_1024, q_1026, q_2000, q_2048, q_2049, q_4095, q_4096, q_8192, q_16383, q_65535, q_65536, q_69632, q_131072, q_132000, q_262144, q_300000, q_1000000, q_lt_t, q_lt_f, q_le_t, q_le_f, q_eq_t, q_eq_f, q_cl, q_add, q_mul, q_sub, q_nle_f, q_nle_t, q_nlt_f, q_nlt_t, q_neq_f, eq_self, q_n1, q_n2, q_m1, q_m1', q_m2, q_m21, q_m0, q_ml, upd_e, upd_n, updL_e, updL_n, updF_e, updF_n, let_d, tk_s, bind_s, or_false, false_or, and_true, true_and, if_true, if_false, ite_true, ite_false, reduceIte, not_true, not_false_iff, Nat.zero_add, Nat.add_zero, Nat.sub_zero, hpa, hCn, lm_Model_slide_10, t1, t2, e1, e2, r1]
theorem slide8_R {I : Nat → Int32} (hN : 200000 ≤ N) (hG : wf nk nm nid G l) (hn : nm < 134217728) (ht : tot (gZ G) l ≤ 131072) (hcl : cls G dn) (h3 : I 3 = nI (tot (gZ G) l)) :
    ∀ (n : Nat) (a b : List Nat) (F : Nat → Nat → Int32), l = a ++ b → b.length < n → stl G l dn l (F 2) → heX G l dn (tot (gZ G) a) (F 0) (F 1) →
    ∃ (F' : Nat → Nat → Int32), (∀ (ζ : Type) (k : Int32 → (Nat → Nat → Int32) → Option ζ), lm_Model_slide_8 N I k n (nI (tot (gZ G) a)) F = k (nI (tot (gZ G) l)) F') ∧ sameX 1 F F' ∧ heX G l dn (tot (gZ G) l) (F' 0) (F' 1)
  | 0, a, b, F, _, h, _, _ => absurd h (Nat.not_lt_zero _)
  | n + 1, a, [], F, hl, h, hs, hx => by
    rw [List.append_nil] at hl
    subst hl
    refine ⟨F, ?_, fun _ _ => rfl, hx⟩
    intro ζ k
    rw [lm_Model_slide_8]
    simp (disch := omega) only [q_o, q_0, q_1, q_2, q_3, q_4, q_5, q_6, q_7, q_8, q_9, q_10, q_11, q_12, q_13, q_14, q_15, q_16, q_17, q_18, q_19, q_20, q_21, q_22, q_23, q_24, q_25, q_26, q_27, q_28, q_29, q_30, q_31, q_32, q_33, q_34, q_35, q_36, q_37, q_38, q_39, q_40, q_41, q_42, q_43, q_44, q_45, q_46, q_47, q_48, q_49, q_50, q_51, q_52, q_53, q_63, q_64, q_126, q_128, q_255, q_512, q_1024, q_1026, q_2000, q_2048, q_2049, q_4095, q_4096, q_8192, q_16383, q_65535, q_65536, q_69632, q_131072, q_132000, q_262144, q_300000, q_1000000, q_lt_t, q_lt_f, q_le_t, q_le_f, q_eq_t, q_eq_f, q_cl, q_add, q_mul, q_sub, q_nle_f, q_nle_t, q_nlt_f, q_nlt_t, q_neq_f, eq_self, q_n1, q_n2, q_m1, q_m1', q_m2, q_m21, q_m0, q_ml, upd_e, upd_n, updL_e, updL_n, updF_e, updF_n, let_d, tk_s, bind_s, or_false, false_or, and_true, true_and, if_true, if_false, ite_true, ite_false, reduceIte, not_true, not_false_iff, Nat.zero_add, Nat.add_zero, Nat.sub_zero, h3]
  | n + 1, a, o :: b, F, hl, h, hs, hx => by
    have hol : o ∈ l := by rw [hl]; exact List.mem_append_right _ (List.mem_cons_self ..)
    have hoa : o ∉ a := fun h2 => (List.nodup_append.mp (hl ▸ hG.1)).2.2 o h2 o (List.mem_cons_self ..) rfl
    have ea : adr (gZ G) l o = tot (gZ G) a := by
      rw [hl, adr_r hoa]
      simp [adr]
    have hend := adr_end (Z := gZ G) hol
    have hz := gZ_pos G o
    have hO := (hG.2 o hol).2.1
    have hZ := (okO_Z hO hn).1
    have hl2 : l = (a ++ [o]) ++ b := by rw [hl]; simp
    have et : tot (gZ G) (a ++ [o]) = tot (gZ G) a + gZ G o := by rw [tot_append]; rfl
    rw [List.length_cons] at h
    have hdis : ∀ q, q ∈ l → ∀ i, i < gZ G q → tot (gZ G) a ≤ adr (gZ G) l q + i → adr (gZ G) l q + i < tot (gZ G) a + gZ G o → q = o := by
      intro q hq i hi h1 h2
      exact (adr_in (Z := gZ G) (i := i) (j := adr (gZ G) l q + i - tot (gZ G) a) hq hol hi (by omega) (by rw [ea]; omega)).1
    have hnpz : gNp G o < 16385 := by
      by_cases h6 : gK G o = 6
      · unfold gNp; rw [if_pos h6]; omega
      · have := gZ_np h6; omega
    by_cases hd : o ∈ dn
    · have hx1 : heX G l dn (adr (gZ G) l o + 1) (F 0) (F 1) := by
        refine heX_mono hx (by omega) ?_
        intro q hq hqd i hi hin hlt
        by_cases hge : tot (gZ G) a ≤ adr (gZ G) l q + i
        · have := hdis q hq i (np_lt hin hi).1 hge (by omega)
          subst this
          omega
        · omega
      obtain ⟨F1, m1, m2, m3⟩ := slide9_R (N := N) (I := I) hG hn ht hcl hol hd N 1 F (Nat.le_refl _) (by omega) (by omega) hs hx1
      have hx2 : heX G l dn (tot (gZ G) (a ++ [o])) (F1 0) (F1 1) := by
        rw [et]
        refine heX_mono m3 ?_ ?_
        · by_cases h6 : gK G o = 6
          · have : gNp G o = 0 := by unfold gNp; rw [if_pos h6]
            omega
          · have := gZ_np h6
            omega
        · intro q hq hqd i hi hin hlt
          by_cases hge : tot (gZ G) a ≤ adr (gZ G) l q + i
          · have := hdis q hq i (np_lt hin hi).1 hge (by omega)
            subst this
            omega
          · omega
      have hs1 : stl G l dn l (F1 2) := by rw [m2 2 (by omega)]; exact hs
      obtain ⟨F2, r1, r2, r3⟩ := slide8_R (I := I) hN hG hn ht hcl h3 n (a ++ [o]) b F1 hl2 (by omega) hs1 hx2
      refine ⟨F2, ?_, fun k hk => by rw [r2 k hk, m2 k hk], r3⟩
      intro ζ k
      obtain ⟨c0, c1, _⟩ := hx2 o hol
      have hsz := sizeAt_R (N := N) (I := I) (F := F1) (a := adr (gZ G) l o) hO hn (by omega) c0 c1
      rw [ea] at m1 hsz
      rw [et] at r1
      rw [lm_Model_slide_8]
      simp (disch := omega) only [q_o, q_0, q_1, q_2, q_3, q_4, q_5, q_6, q_7, q_8, q_9, q_10, q_11, q_12, q_13, q_14, q_15, q_16, q_17, q_18, q_19, q_20, q_21, q_22, q_23, q_24, q_25, q_26, q_27, q_28, q_29, q_30, q_31, q_32, q_33, q_34, q_35, q_36, q_37, q_38, q_39, q_40, q_41, q_42, q_43, q_44, q_45, q_46, q_47, q_48, q_49, q_50, q_51, q_52, q_53, q_63, q_64, q_126, q_128, q_255, q_512, q_1024, q_1026, q_2000, q_2048, q_2049, q_4095, q_4096, q_8192, q_16383, q_65535, q_65536, q_69632, q_131072, q_132000, q_262144, q_300000, q_1000000, q_lt_t, q_lt_f, q_le_t, q_le_f, q_eq_t, q_eq_f, q_cl, q_add, q_mul, q_sub, q_nle_f, q_nle_t, q_nlt_f, q_nlt_t, q_neq_f, eq_self, q_n1, q_n2, q_m1, q_m1', q_m2, q_m21, q_m0, q_ml, upd_e, upd_n, updL_e, updL_n, updF_e, updF_n, let_d, tk_s, bind_s, or_false, false_or, and_true, true_and, if_true, if_false, ite_true, ite_false, reduceIte, not_true, not_false_iff, Nat.zero_add, Nat.add_zero, Nat.sub_zero, h3, m1, hsz, r1]
    · have hx2 : heX G l dn (tot (gZ G) (a ++ [o])) (F 0) (F 1) := by
        rw [et]
        refine heX_mono hx (by omega) ?_
        intro q hq hqd i hi hin hlt
        by_cases hge : tot (gZ G) a ≤ adr (gZ G) l q + i
        · have := hdis q hq i (np_lt hin hi).1 hge (by omega)
          subst this
          exact absurd hqd hd
        · omega
      obtain ⟨F2, r1, r2, r3⟩ := slide8_R (I := I) hN hG hn ht hcl h3 n (a ++ [o]) b F hl2 (by omega) hs hx2
      refine ⟨F2, ?_, r2, r3⟩
      intro ζ k
      obtain ⟨c0, c1, _⟩ := hx o hol
      have hsz := sizeAt_R (N := N) (I := I) (F := F) (a := adr (gZ G) l o) hO hn (by omega) c0 c1
      have hpa := partsAt_R (N := N) (I := I) (F := F) (a := adr (gZ G) l o) hO (by omega) c0
      have hC := (hs.1 o hol).1 hd
      rw [ea] at hsz hpa hC
      rw [et] at r1
      obtain ⟨N', rfl⟩ : ∃ N', N = N' + 1 := ⟨N - 1, by omega⟩
      rw [lm_Model_slide_8]
      by_cases hnp0 : gNp G o < 1
      · simp (disch := omega) only [q_o, q_0, q_1, q_2, q_3, q_4, q_5, q_6, q_7, q_8, q_9, q_10, q_11, q_12, q_13, q_14, q_15, q_16, q_17, q_18, q_19, q_20, q_21, q_22, q_23, q_24, q_25, q_26, q_27, q_28, q_29, q_30, q_31, q_32, q_33, q_34, q_35, q_36, q_37, q_38, q_39, q_40, q_41, q_42, q_43, q_44, q_45, q_46, q_47, q_48, q_49, q_50, q_51, q_52, q_53, q_63, q_64, q_126, q_128, q_255, q_512, q_1024, q_1026, q_2000, q_2048, q_2049, q_4095, q_4096, q_8192, q_16383, q_65535, q_65536, q_69632, q_131072, q_132000, q_262144, q_300000, q_1000000, q_lt_t, q_lt_f, q_le_t, q_le_f, q_eq_t, q_eq_f, q_cl, q_add, q_mul, q_sub, q_nle_f, q_nle_t, q_nlt_f, q_nlt_t, q_neq_f, eq_self, q_n1, q_n2, q_m1, q_m1', q_m2, q_m21, q_m0, q_ml, upd_e, upd_n, updL_e, updL_n, updF_e, updF_n, let_d, tk_s, bind_s, or_false, false_or, and_true, true_and, if_true, if_false, ite_true, ite_false, reduceIte, not_true, not_false_iff, Nat.zero_add, Nat.add_zero, Nat.sub_zero, h3, lm_Model_slide_9, hpa, hsz, r1]
      · simp (disch := omega) only [q_o, q_0, q_1, q_2, q_3, q_4, q_5, q_6, q_7, q_8, q_9, q_10, q_11, q_12, q_13, q_14, q_15, q_16, q_17, q_18, q_19, q_20, q_21, q_22, q_23, q_24, q_25, q_26, q_27, q_28, q_29, q_30, q_31, q_32, q_33, q_34, q_35, q_36, q_37, q_38, q_39, q_40, q_41, q_42, q_43, q_44, q_45, q_46, q_47, q_48, q_49, q_50, q_51, q_52, q_53, q_63, q_64, q_126, q_128, q_255, q_512, q_1024, q_1026, q_2000, q_2048, q_2049, q_4095, q_4096, q_8192, q_16383, q_65535, q_65536, q_69632, q_131072, q_132000, q_262144, q_300000, q_1000000, q_lt_t, q_lt_f, q_le_t, q_le_f, q_eq_t, q_eq_f, q_cl, q_add, q_mul, q_sub, q_nle_f, q_nle_t, q_nlt_f, q_nlt_t, q_neq_f, eq_self, q_n1, q_n2, q_m1, q_m1', q_m2, q_m21, q_m0, q_ml, upd_e, upd_n, updL_e, updL_n, updF_e, updF_n, let_d, tk_s, bind_s, or_false, false_or, and_true, true_and, if_true, if_false, ite_true, ite_false, reduceIte, not_true, not_false_iff, Nat.zero_add, Nat.add_zero, Nat.sub_zero, h3, lm_Model_slide_9, hpa, hC, hsz, r1]
end RF
