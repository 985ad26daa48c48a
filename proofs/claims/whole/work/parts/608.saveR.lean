/-! The reference: unmark, reached, save, restore -/
section RF
variable {G : Nat → GO} {l dn : List Nat} {nk : Nat → Nat} {nm nid : Nat} {N : Nat} {gg : Nat → AV}
theorem unm_R {I : Nat → Int32} (hG : wf nk nm nid G l) (hn : nm < 134217728) (ht : tot (gZ G) l ≤ 131072) (h3 : I 3 = nI (tot (gZ G) l)) :
    ∀ (n : Nat) (a b : List Nat) (F : Nat → Nat → Int32), l = a ++ b → b.length < n → heR G l (F 0) (F 1) → (∀ o, o ∈ a → F 2 (adr (gZ G) l o) = mI1) → (∀ x, x < 131072 → (∀ o, o ∈ l → x ≠ adr (gZ G) l o) → F 2 x = mI1) →
    ∃ (F' : Nat → Nat → Int32), (∀ (ζ : Type) (k : Int32 → (Nat → Nat → Int32) → Option ζ), lm_Model_unmark_1 N I k n (nI (tot (gZ G) a)) F = k (nI (tot (gZ G) l)) F') ∧ sameF F F' ∧ (∀ x, x < 131072 → F' 2 x = mI1)
  | 0, a, b, F, _, h, _, _, _ => absurd h (Nat.not_lt_zero _)
  | n + 1, a, [], F, hl, h, hh, ha, hx => by
    rw [List.append_nil] at hl
    subst hl
    refine ⟨F, ?_, fun _ _ => rfl, fun x h131 => ?_⟩
    · intro ζ k
      rw [lm_Model_unmark_1]
      simp (disch := omega) only [q_o, q_0, q_1, q_2, q_3, q_4, q_5, q_6, q_7, q_8, q_9, q_10, q_11, q_12, q_13, q_14, q_15, q_16, q_17, q_18, q_19, q_20, q_21, q_22, q_23, q_24, q_25, q_26, q_27, q_28, q_29, q_30, q_31, q_32, q_33, q_34, q_35, q_36, q_37, q_38, q_39, q_40, q_41, q_42, q_43, q_44, q_45, q_46, q_47, q_48, q_49, q_50, q_51, q_52, q_53, q_63, q_64, q_126, q_128, q_255, q_512, q_1024, q_1026, q_2000, q_2048, q_2049, q_4095, q_4096, q_8192, q_16383, q_65535, q_65536, q_69632, q_131072, q_132000, q_262144, q_300000, q_1000000, q_lt_t, q_lt_f, q_le_t, q_le_f, q_eq_t, q_eq_f, q_cl, q_add, q_mul, q_sub, q_nle_f, q_nle_t, q_nlt_f, q_nlt_t, q_neq_f, eq_self, q_n1, q_n2, q_m1, q_m1', q_m2, q_m21, q_m0, q_ml, upd_e, upd_n, updL_e, updL_n, updF_e, updF_n, let_d, tk_s, bind_s, or_false, false_or, and_true, true_and, if_true, if_false, ite_true, ite_false, reduceIte, not_true, not_false_iff, Nat.zero_add, Nat.add_zero, Nat.sub_zero, h3]
    · by_cases e : ∃ o, o ∈ l ∧ x = adr (gZ G) l o
      · obtain ⟨o, ho, rfl⟩ := e
        exact ha o ho
      · exact hx x h131 (fun o ho he => e ⟨o, ho, he⟩)
  | n + 1, a, o :: b, F, hl, h, hh, ha, hx => by
    have hol : o ∈ l := by rw [hl]; exact List.mem_append_right _ (List.mem_cons_self ..)
    have hoa : o ∉ a := fun h2 => (List.nodup_append.mp (hl ▸ hG.1)).2.2 o h2 o (List.mem_cons_self ..) rfl
    have ea : adr (gZ G) l o = tot (gZ G) a := by
      rw [hl, adr_r hoa]
      simp [adr]
    have hend := adr_end (Z := gZ G) hol
    have hz := gZ_pos G o
    have hZ := gZ_pos G
    have hO := (hG.2 o hol).2.1
    obtain ⟨b0, b1, _⟩ := hh o hol
    have hl2 : l = (a ++ [o]) ++ b := by rw [hl]; simp
    have et : tot (gZ G) (a ++ [o]) = tot (gZ G) a + gZ G o := by rw [tot_append]; rfl
    rw [List.length_cons] at h
    obtain ⟨F', r1, r2, r3⟩ := unm_R hG hn ht h3 n (a ++ [o]) b (updF F 2 (upd (F 2) (adr (gZ G) l o) mI1)) hl2 (by omega) (by rw [updF_n (by omega), updF_n (by omega)]; exact hh) (fun q hq => by
      rw [updF_e rfl]
      by_cases e : adr (gZ G) l q = adr (gZ G) l o
      · rw [upd_e e]
      · rw [upd_n e]
        rcases mem_snoc.mp hq with h | h
        · exact ha q h
        · exact absurd (by rw [h]) e) (fun x h131 hx2 => by
      rw [updF_e rfl, upd_n (hx2 o hol)]
      exact hx x h131 hx2)
    refine ⟨F', ?_, fun k hk => by rw [r2 k hk, updF_n hk], r3⟩
    intro ζ k
    rw [et] at r1
    have hsz := sizeAt_R (N := N) (I := I) (F := updF F 2 (upd (F 2) (adr (gZ G) l o) mI1)) (a := adr (gZ G) l o) hO hn (by omega) (by rw [updF_n (by omega)]; exact b0) (by rw [updF_n (by omega)]; exact b1)
    rw [ea] at hsz r1
    rw [lm_Model_unmark_1]
    simp (disch := omega) only [q_o, q_0, q_1, q_2, q_3, q_4, q_5, q_6, q_7, q_8, q_9, q_10, q_11, q_12, q_13, q_14, q_15, q_16, q_17, q_18, q_19, q_20, q_21, q_22, q_23, q_24, q_25, q_26, q_27, q_28, q_29, q_30, q_31, q_32, q_33, q_34, q_35, q_36, q_37, q_38, q_39, q_40, q_41, q_42, q_43, q_44, q_45, q_46, q_47, q_48, q_49, q_50, q_51, q_52, q_53, q_63, q_64, q_126, q_128, q_255, q_512, q_1024, q_1026, q_2000, q_2048, q_2049, q_4095, q_4096, q_8192, q_16383, q_65535, q_65536, q_69632, q_131072, q_132000, q_262144, q_300000, q_1000000, q_lt_t, q_lt_f, q_le_t, q_le_f, q_eq_t, q_eq_f, q_cl, q_add, q_mul, q_sub, q_nle_f, q_nle_t, q_nlt_f, q_nlt_t, q_neq_f, eq_self, q_n1, q_n2, q_m1, q_m1', q_m2, q_m21, q_m0, q_ml, upd_e, upd_n, updL_e, updL_n, updF_e, updF_n, let_d, tk_s, bind_s, or_false, false_or, and_true, true_and, if_true, if_false, ite_true, ite_false, reduceIte, not_true, not_false_iff, Nat.zero_add, Nat.add_zero, Nat.sub_zero, h3, hsz, r1]
theorem unmark_R {I : Nat → Int32} {F : Nat → Nat → Int32} (hN : 200000 ≤ N) (hG : wf nk nm nid G l) (hn : nm < 134217728) (ht : tot (gZ G) l ≤ 131072) (h3 : I 3 = nI (tot (gZ G) l)) (hh : heR G l (F 0) (F 1)) (hx : ∀ x, x < 131072 → (∀ o, o ∈ l → x ≠ adr (gZ G) l o) → F 2 x = mI1) :
    ∃ (F' : Nat → Nat → Int32), m_Model_unmark N I F = some F' ∧ sameF F F' ∧ (∀ x, x < 131072 → F' 2 x = mI1) := by
  have hlen := tot_len (Z := gZ G) (l := l) (k := 1) (fun o _ => gZ_pos G o)
  obtain ⟨F', r1, r2, r3⟩ := unm_R (N := N) hG hn ht h3 N [] l F rfl (by omega) hh (fun o ho => by cases ho) hx
  refine ⟨F', ?_, r2, r3⟩
  unfold m_Model_unmark
  have e1 : tot (gZ G) [] = 0 := rfl
  rw [e1] at r1
  exact r1 _ _
theorem reached_R {I : Nat → Int32} {F : Nat → Nat → Int32} (hN : 200000 ≤ N) (hn : nm < 134217728) (h : hpR nk nm nid G l gg I F) :
    ∃ (F' : Nat → Nat → Int32) (I' : Nat → Int32) (dn : List Nat), m_Model_reached N I F = some (nI (tot (gZ G) dn), F', I') ∧ hpR nk nm nid G l gg I' F' ∧ sameF F F' ∧ sameI I I' ∧ dn.Nodup ∧ (∀ o, o ∈ dn ↔ rch G (rtR gg) o) := by
  obtain ⟨hG, hsr, h3, ht, hh, hfree, hgk, hgF, h7, h8⟩ := h
  have hF : fxR nk nm nid G l (rch G (rtR gg)) := ⟨hG, hn, ht, fun q p i h1 h2 h3 h4 => rch_c q p i h1 h2 h3 h4⟩
  obtain ⟨F1, I1, dn1, a1, a2, a3, a4, a5, a6⟩ := markGlobals_R (N := N) (I := I) hN hF (fun k hk => ⟨hgk k (by omega), fun p hp => rch_r ⟨k, by omega, hp⟩⟩) hh hgF hfree
  have hh1 : heR G l (F1 0) (F1 1) := by rw [a2 0 (by omega), a2 1 (by omega)]; exact hh
  obtain ⟨F2, I2, e, b1, b2, b3, b4, b5⟩ := mark_R (N := N) hG hn ht hh1 a4 (hgk 2048 (by omega)) (fun p hp => rch_r ⟨2048, by omega, hp⟩)
  have hs2 := sameF_t a2 b2
  have hi2 := sameI_t a3 b3
  have hh2 : heR G l (F2 0) (F2 1) := by rw [hs2 0 (by omega), hs2 1 (by omega)]; exact hh
  obtain ⟨F3, I3, dn, d1, d2, d3, d4, d5, d6⟩ := mAll1_R (N := N) hN hF N F2 I2 dn1 (e ++ []) (by omega) hh2 b4 (fun q hq i p h1 h2 h3 => List.mem_append_left _ (a6 q hq i p h1 h2 h3))
  have hs3 := sameF_t hs2 d2
  have hi3 := sameI_t hi2 d3
  obtain ⟨m1, m2, m3, m4, m5, m6, m7⟩ := d4
  rw [List.append_nil] at m1 m2 m7
  obtain ⟨F4, u1, u2, u3⟩ := unmark_R (N := N) (I := I3) (F := F3) hN hG hn ht (by rw [hi3 3 (by omega) (by omega)]; exact h3) (by rw [hs3 0 (by omega), hs3 1 (by omega)]; exact hh) m5
  have hs4 := sameF_t hs3 u2
  have g7 : I1 7 = tR (gg 2048) := by rw [a3 7 (by omega) (by omega)]; exact h7
  have g8 : I1 8 = vR G l (gg 2048) := by rw [a3 8 (by omega) (by omega)]; exact h8
  refine ⟨F4, I3, dn, ?_, ⟨hG, hsr, ?_, ht, ?_, u3, hgk, ?_, ?_, ?_⟩, hs4, hi3, m1, fun o => ⟨fun ho => (m2 o ho).2, fun ho => cls_rch d6 (fun p hp => ?_) ho⟩⟩
  · unfold m_Model_reached m_Model_markAll
    rw [a1, bind_s]
    dsimp only
    rw [g7, g8, b1, bind_s]
    dsimp only
    rw [d1, bind_s]
    dsimp only
    rw [u1, bind_s, m7]
  · rw [hi3 3 (by omega) (by omega)]; exact h3
  · rw [hs4 0 (by omega), hs4 1 (by omega)]; exact hh
  · rw [hs4 5 (by omega), hs4 6 (by omega)]; exact hgF
  · rw [hi3 7 (by omega) (by omega)]; exact h7
  · rw [hi3 8 (by omega) (by omega)]; exact h8
  · obtain ⟨k, hk, hp⟩ := hp
    by_cases ek : k = 2048
    · subst ek
      exact d5 p (b5 p hp)
    · exact d5 p (List.mem_append_left _ (a5 k p (by omega) hp))
/-- one object is kept: its cells -/
theorem save2_R {F0 : Nat → Nat → Int32} {J : Nat → Int32} {p q z np : Nat} {cv : Nat → Int32} (hsz : ∀ F : Nat → Nat → Int32, F 0 = F0 0 → F 1 = F0 1 → m_Model_sizeAt N J F (nI p) = some (nI z)) (hq : F0 2 p = nI q) (hp : p + z ≤ 131072) (hq2 : q + z ≤ 131072) (hnp : np < z)
    (hcv : ∀ j, j < z → (j = 0 ∨ np < j → cv j = F0 1 (p + j)) ∧ (1 ≤ j → j ≤ np → (F0 0 (p + j) = nI 2 ∧ ∃ a, a < 131072 ∧ F0 1 (p + j) = nI a ∧ F0 2 a = cv j) ∨ (¬ F0 0 (p + j) = nI 2 ∧ F0 1 (p + j) = cv j))) :
    ∀ (n i : Nat) (F : Nat → Nat → Int32), i ≤ z → z - i < n → F 0 = F0 0 → F 1 = F0 1 → F 2 = F0 2 →
    ∃ (F' : Nat → Nat → Int32), (∀ (ζ : Type) (k : Int32 → (Nat → Nat → Int32) → Option ζ), lm_Model_save_2 N J (nI p) F0 (nI np) k n (nI i) F = k (nI z) F') ∧ (∀ k, k ≠ 9 → k ≠ 10 → F' k = F k) ∧ (∀ j, i ≤ j → j < z → F' 9 (q + j) = F0 0 (p + j) ∧ F' 10 (q + j) = cv j) ∧ (∀ x, (x < q + i ∨ q + z ≤ x) → F' 9 x = F 9 x ∧ F' 10 x = F 10 x)
  | 0, i, F, _, h, _, _, _ => absurd h (Nat.not_lt_zero _)
  | n + 1, i, F, hi, h, f0, f1, f2 => by
    have s0 := hsz F f0 f1
    by_cases e : i = z
    · refine ⟨F, ?_, fun _ _ _ => rfl, fun j h1 h2 => absurd h2 (by omega), fun _ _ => ⟨rfl, rfl⟩⟩
      intro ζ k
      rw [lm_Model_save_2]
      simp (disch := omega) only [q_o, q_0, q_1, q_2, q_3, q_4, q_5, q_6, q_7, q_8, q_9, q_10, q_11, q_12, q_13, q_14, q_15, q_16, q_17, q_18, q_19, q_20, q_21, q_22, q_23, q_24, q_25, q_26, q_27, q_28, q_29, q_30, q_31, q_32, q_33, q_34, q_35, q_36, q_37, q_38, q_39, q_40, q_41, q_42, q_43, q_44, q_45, q_46, q_47, q_48, q_49, q_50, q_51, q_52, q_53, q_63, q_64, q_126, q_128, q_255, q_512, q_1024, q_1026, q_2000, q_2048, q_2049, q_4095, q_4096, q_8192, q_16383, q_65535, q_65536, q_69632, q_131072, q_132000, q_262144, q_300000, q_1000000, q_lt_t, q_lt_f, q_le_t, q_le_f, q_eq_t, q_eq_f, q_cl, q_add, q_mul, q_sub, q_nle_f, q_nle_t, q_nlt_f, q_nlt_t, q_neq_f, eq_self, q_n1, q_n2, q_m1, q_m1', q_m2, q_m21, q_m0, q_ml, upd_e, upd_n, updL_e, updL_n, updF_e, updF_n, let_d, tk_s, bind_s, or_false, false_or, and_true, true_and, if_true, if_false, ite_true, ite_false, reduceIte, not_true, not_false_iff, Nat.zero_add, Nat.add_zero, Nat.sub_zero, s0]
      rw [e]
    · have hiz : i < z := by omega
      obtain ⟨F1, r1, r2, r3, r4⟩ := save2_R hsz hq hp hq2 hnp hcv n (i + 1) (updF (updF F 9 (upd (F 9) (q + i) (F0 0 (p + i)))) 10 (upd (F 10) (q + i) (cv i))) (by omega) (by omega) (by rw [updF_n (by omega), updF_n (by omega)]; exact f0) (by rw [updF_n (by omega), updF_n (by omega)]; exact f1) (by rw [updF_n (by omega), updF_n (by omega)]; exact f2)
      refine ⟨F1, ?_, ?_, ?_, ?_⟩
      · intro ζ k
        rw [lm_Model_save_2]
        by_cases h0 : i = 0 ∨ np < i
        · have c1 := (hcv i hiz).1 h0
          rw [c1] at r1
          by_cases hi0 : i = 0
          · simp (disch := omega) only [q_o, q_0, q_1, q_2, q_3, q_4, q_5, q_6, q_7, q_8, q_9, q_10, q_11, q_12, q_13, q_14, q_15, q_16, q_17, q_18, q_19, q_20, q_21, q_22, q_23, q_24, q_25, q_26, q_27, q_28, q_29, q_30, q_31, q_32, q_33, q_34, q_35, q_36, q_37, q_38, q_39, q_40, q_41, q_42, q_43, q_44, q_45, q_46, q_47, q_48, q_49, q_50, q_51, q_52, q_53, q_63, q_64, q_126, q_128, q_255, q_512, q_1024, q_1026, q_2000, q_2048, q_2049, q_4095, q_4096, q_8192, q_16383, q_65535, q_65536, q_69632, q_131072, q_132000, q_262144, q_300000, q_1000000, q_lt_t, q_lt_f, q_le_t, q_le_f, q_eq_t, q_eq_f, q_cl, q_add, q_mul, q_sub, q_nle_f, q_nle_t, q_nlt_f, q_nlt_t, q_neq_f, eq_self, q_n1, q_n2, q_m1, q_m1', q_m2, q_m21, q_m0, q_ml, upd_e, upd_n, updL_e, updL_n, updF_e, updF_n, let_d, tk_s, bind_s, or_false, false_or, and_true, true_and, if_true, if_false, ite_true, ite_false, reduceIte, not_true, not_false_iff, Nat.zero_add, Nat.add_zero, Nat.sub_zero, s0, hq, lm_Model_save_3, lm_Model_save_4, f0, f1]
            exact r1 _ _
          · simp (disch := omega) only [q_o, q_0, q_1, q_2, q_3, q_4, q_5, q_6, q_7, q_8, q_9, q_10, q_11, q_12, q_13, q_14, q_15, q_16, q_17, q_18, q_19, q_20, q_21, q_22, q_23, q_24, q_25, q_26, q_27, q_28, q_29, q_30, q_31, q_32, q_33, q_34, q_35, q_36, q_37, q_38, q_39, q_40, q_41, q_42, q_43, q_44, q_45, q_46, q_47, q_48, q_49, q_50, q_51, q_52, q_53, q_63, q_64, q_126, q_128, q_255, q_512, q_1024, q_1026, q_2000, q_2048, q_2049, q_4095, q_4096, q_8192, q_16383, q_65535, q_65536, q_69632, q_131072, q_132000, q_262144, q_300000, q_1000000, q_lt_t, q_lt_f, q_le_t, q_le_f, q_eq_t, q_eq_f, q_cl, q_add, q_mul, q_sub, q_nle_f, q_nle_t, q_nlt_f, q_nlt_t, q_neq_f, eq_self, q_n1, q_n2, q_m1, q_m1', q_m2, q_m21, q_m0, q_ml, upd_e, upd_n, updL_e, updL_n, updF_e, updF_n, let_d, tk_s, bind_s, or_false, false_or, and_true, true_and, if_true, if_false, ite_true, ite_false, reduceIte, not_true, not_false_iff, Nat.zero_add, Nat.add_zero, Nat.sub_zero, s0, hq, lm_Model_save_3, lm_Model_save_4, f0, f1]
            exact r1 _ _
        · rcases (hcv i hiz).2 (by omega) (by omega) with ⟨d1, a, d2, d3, d4⟩ | ⟨d1, d2⟩
          · simp (disch := omega) only [q_o, q_0, q_1, q_2, q_3, q_4, q_5, q_6, q_7, q_8, q_9, q_10, q_11, q_12, q_13, q_14, q_15, q_16, q_17, q_18, q_19, q_20, q_21, q_22, q_23, q_24, q_25, q_26, q_27, q_28, q_29, q_30, q_31, q_32, q_33, q_34, q_35, q_36, q_37, q_38, q_39, q_40, q_41, q_42, q_43, q_44, q_45, q_46, q_47, q_48, q_49, q_50, q_51, q_52, q_53, q_63, q_64, q_126, q_128, q_255, q_512, q_1024, q_1026, q_2000, q_2048, q_2049, q_4095, q_4096, q_8192, q_16383, q_65535, q_65536, q_69632, q_131072, q_132000, q_262144, q_300000, q_1000000, q_lt_t, q_lt_f, q_le_t, q_le_f, q_eq_t, q_eq_f, q_cl, q_add, q_mul, q_sub, q_nle_f, q_nle_t, q_nlt_f, q_nlt_t, q_neq_f, eq_self, q_n1, q_n2, q_m1, q_m1', q_m2, q_m21, q_m0, q_ml, upd_e, upd_n, updL_e, updL_n, updF_e, updF_n, let_d, tk_s, bind_s, or_false, false_or, and_true, true_and, if_true, if_false, ite_true, ite_false, reduceIte, not_true, not_false_iff, Nat.zero_add, Nat.add_zero, Nat.sub_zero, s0, hq, lm_Model_save_3, lm_Model_save_4, f0, f1, f2, d1, d3, d4]
            rw [d1] at r1
            exact r1 _ _
          · simp (disch := omega) only [q_o, q_0, q_1, q_2, q_3, q_4, q_5, q_6, q_7, q_8, q_9, q_10, q_11, q_12, q_13, q_14, q_15, q_16, q_17, q_18, q_19, q_20, q_21, q_22, q_23, q_24, q_25, q_26, q_27, q_28, q_29, q_30, q_31, q_32, q_33, q_34, q_35, q_36, q_37, q_38, q_39, q_40, q_41, q_42, q_43, q_44, q_45, q_46, q_47, q_48, q_49, q_50, q_51, q_52, q_53, q_63, q_64, q_126, q_128, q_255, q_512, q_1024, q_1026, q_2000, q_2048, q_2049, q_4095, q_4096, q_8192, q_16383, q_65535, q_65536, q_69632, q_131072, q_132000, q_262144, q_300000, q_1000000, q_lt_t, q_lt_f, q_le_t, q_le_f, q_eq_t, q_eq_f, q_cl, q_add, q_mul, q_sub, q_nle_f, q_nle_t, q_nlt_f, q_nlt_t, q_neq_f, eq_self, q_n1, q_n2, q_m1, q_m1', q_m2, q_m21, q_m0, q_ml, upd_e, upd_n, updL_e, updL_n, updF_e, updF_n, let_d, tk_s, bind_s, or_false, false_or, and_true, true_and, if_true, if_false, ite_true, ite_false, reduceIte, not_true, not_false_iff, Nat.zero_add, Nat.add_zero, Nat.sub_zero, s0, hq, lm_Model_save_3, lm_Model_save_4, f0, f1, f2, d1, d2]
            exact r1 _ _
      · intro k h9 h10
        rw [r2 k h9 h10, updF_n h10, updF_n h9]
      · intro j h1 h2
        by_cases ej : j = i
        · subst ej
          have h4 := r4 (q + j) (Or.inl (by omega))
          rw [updF_n (by omega), updF_e rfl, upd_e rfl, updF_e rfl, upd_e rfl] at h4
          exact h4
        · exact r3 j (by omega) h2
      · intro x hx
        have h4 := r4 x (by omega)
        rw [updF_n (by omega), updF_e rfl, upd_n (by omega), updF_e rfl, upd_n (by omega)] at h4
        exact h4
theorem save1_R {J : Nat → Int32} (hN : 200000 ≤ N) (hG : wf nk nm nid G l) (hn : nm < 134217728) (ht : tot (gZ G) l ≤ 131072) (hcl : cls G dn) (h3 : J 3 = nI (tot (gZ G) l)) :
    ∀ (n : Nat) (a b : List Nat) (F : Nat → Nat → Int32), l = a ++ b → b.length < n → heR G l (F 0) (F 1) → stl G l dn l (F 2) → (∀ o, o ∈ a → o ∈ dn → blk G (lf l dn) o (adr (gZ G) (lf l dn) o) (F 9) (F 10)) →
    ∃ (F' : Nat → Nat → Int32), (∀ (ζ : Type) (k : Int32 → (Nat → Nat → Int32) → Option ζ), lm_Model_save_1 N J k n (nI (tot (gZ G) a)) F = k (nI (tot (gZ G) l)) F') ∧ (∀ k, k ≠ 9 → k ≠ 10 → F' k = F k) ∧ (∀ o, o ∈ l → o ∈ dn → blk G (lf l dn) o (adr (gZ G) (lf l dn) o) (F' 9) (F' 10))
  | 0, a, b, F, _, h, _, _, _ => absurd h (Nat.not_lt_zero _)
  | n + 1, a, [], F, hl, h, hh, hs, hb => by
    rw [List.append_nil] at hl
    subst hl
    refine ⟨F, ?_, fun _ _ _ => rfl, hb⟩
    intro ζ k
    rw [lm_Model_save_1]
    simp (disch := omega) only [q_o, q_0, q_1, q_2, q_3, q_4, q_5, q_6, q_7, q_8, q_9, q_10, q_11, q_12, q_13, q_14, q_15, q_16, q_17, q_18, q_19, q_20, q_21, q_22, q_23, q_24, q_25, q_26, q_27, q_28, q_29, q_30, q_31, q_32, q_33, q_34, q_35, q_36, q_37, q_38, q_39, q_40, q_41, q_42, q_43, q_44, q_45, q_46, q_47, q_48, q_49, q_50, q_51, q_52, q_53, q_63, q_64, q_126, q_128, q_255, q_512, q_1024, q_1026, q_2000, q_2048, q_2049, q_4095, q_4096, q_8192, q_16383, q_65535, q_65536, q_69632, q_131072, q_132000, q_262144, q_300000, q_1000000, q_lt_t, q_lt_f, q_le_t, q_le_f, q_eq_t, q_eq_f, q_cl, q_add, q_mul, q_sub, q_nle_f, q_nle_t, q_nlt_f, q_nlt_t, q_neq_f, eq_self, q_n1, q_n2, q_m1, q_m1', q_m2, q_m21, q_m0, q_ml, upd_e, upd_n, updL_e, updL_n, updF_e, updF_n, let_d, tk_s, bind_s, or_false, false_or, and_true, true_and, if_true, if_false, ite_true, ite_false, reduceIte, not_true, not_false_iff, Nat.zero_add, Nat.add_zero, Nat.sub_zero, h3]
  | n + 1, a, o :: b, F, hl, h, hh, hs, hb => by
    have hol : o ∈ l := by rw [hl]; exact List.mem_append_right _ (List.mem_cons_self ..)
    have hoa : o ∉ a := fun h2 => (List.nodup_append.mp (hl ▸ hG.1)).2.2 o h2 o (List.mem_cons_self ..) rfl
    have ea : adr (gZ G) l o = tot (gZ G) a := by
      rw [hl, adr_r hoa]
      simp [adr]
    have hend := adr_end (Z := gZ G) hol
    have hz := gZ_pos G o
    have hO := (hG.2 o hol).2.1
    have hO2 := okO_Z hO hn
    obtain ⟨b0, b1, b2, b3⟩ := hh o hol
    have hl2 : l = (a ++ [o]) ++ b := by rw [hl]; simp
    have et : tot (gZ G) (a ++ [o]) = tot (gZ G) a + gZ G o := by rw [tot_append]; rfl
    rw [List.length_cons] at h
    have hnp : gNp G o < gZ G o := by
      by_cases h6 : gK G o = 6
      · unfold gNp; rw [if_pos h6]; omega
      · have := gZ_np h6; omega
    have hsz : ∀ F' : Nat → Nat → Int32, F' 0 = F 0 → F' 1 = F 1 → m_Model_sizeAt N J F' (nI (adr (gZ G) l o)) = some (nI (gZ G o)) := fun F' e0 e1 => sizeAt_R (N := N) (I := J) (F := F') (a := adr (gZ G) l o) hO hn (by omega) (by rw [e0]; exact b0) (by rw [e1]; exact b1)
    have hpa := partsAt_R (N := N) (I := J) (F := F) (a := adr (gZ G) l o) hO (by omega) b0
    obtain ⟨s1, s2, s3⟩ := hs.1 o hol
    by_cases hd : o ∈ dn
    · have hod : o ∈ lf l dn := lf_mem.mpr ⟨hol, hd⟩
      have hq := s2 hd hol
      have hendq := adr_end (Z := gZ G) hod
      have hlt := lf_tot (dn := dn) (gZ G) l
      obtain ⟨F1, r1, r2, r3, r4⟩ := save2_R (N := N) (F0 := F) (J := J) (p := adr (gZ G) l o) (q := adr (gZ G) (lf l dn) o) (z := gZ G o) (np := gNp G o) (cv := fun j => if 1 ≤ j ∧ j ≤ gNp G o then vR G (lf l dn) (gP G o j) else F 1 (adr (gZ G) l o + j)) hsz hq (by omega) (by omega) hnp (fun j hj => ⟨fun h0 => if_neg (by omega), fun h1 h2 => by
        have hv := (hG.2 o hol).2.2.1 j h1 h2
        obtain ⟨p1, p2⟩ := b2 j h1 h2
        rw [if_pos ⟨h1, h2⟩, p1, p2]
        rcases tr_v hs hv (fun p hp => hcl o hd j p h1 h2 hp) with ⟨e1, o', e2, e3, e4, e5⟩ | ⟨e1, e2⟩
        · have hend' := adr_end (Z := gZ G) e3
          have hz' := gZ_pos G o'
          exact Or.inl ⟨e1, adr (gZ G) l o', by omega, e4, e5⟩
        · exact Or.inr ⟨e1, e2⟩⟩) N 0 F (by omega) (by omega) rfl rfl rfl
      have hB : ∀ q, q ∈ a ++ [o] → q ∈ dn → blk G (lf l dn) q (adr (gZ G) (lf l dn) q) (F1 9) (F1 10) := by
        intro q hqa hqd
        by_cases eq : q = o
        · subst eq
          have hc0 := r3 0 (Nat.le_refl _) (by omega)
          rw [if_neg (by omega)] at hc0
          refine ⟨hc0.1.trans b0, hc0.2.trans b1, fun i hi hin => ?_, fun e6 j hj => ?_⟩
          · have hci := r3 i (Nat.zero_le _) (by omega)
            rw [if_pos ⟨hi, hin⟩] at hci
            exact ⟨hci.1.trans (b2 i hi hin).1, hci.2⟩
          · have hz6 : gZ G q = 1 + (gC G q + 3) / 4 := by unfold gZ; rw [if_pos e6]
            have hn6 : gNp G q = 0 := by unfold gNp; rw [if_pos e6]
            have hcj := (r3 (1 + j) (Nat.zero_le _) (by omega)).2
            rw [if_neg (by omega), ← Nat.add_assoc, ← Nat.add_assoc] at hcj
            exact hcj.trans (b3 e6 j hj)
        · have hqa' : q ∈ a := by
            rcases mem_snoc.mp hqa with h | h
            · exact h
            · exact absurd h eq
          have hql : q ∈ l := by rw [hl]; exact List.mem_append_left _ hqa'
          have hqf : q ∈ lf l dn := lf_mem.mpr ⟨hql, hqd⟩
          have hdis := adr_dis (Z := gZ G) hqf hod eq
          refine blk_mv (hb q hqa' hqd) (fun i hi => ?_)
          have h4 := r4 (adr (gZ G) (lf l dn) q + i) (by omega)
          exact h4
      obtain ⟨F2, t1, t2, t3⟩ := save1_R hN hG hn ht hcl h3 n (a ++ [o]) b F1 hl2 (by omega) (by rw [r2 0 (by omega) (by omega), r2 1 (by omega) (by omega)]; exact hh) (by rw [r2 2 (by omega) (by omega)]; exact hs) hB
      refine ⟨F2, ?_, fun k h9 h10 => by rw [t2 k h9 h10, r2 k h9 h10], t3⟩
      intro ζ k
      have hs1 := hsz F1 (r2 0 (by omega) (by omega)) (r2 1 (by omega) (by omega))
      rw [et] at t1
      rw [ea] at r1 hpa hs1
      rw [lm_Model_save_1]
      simp (disch := omega) only [q_o, q_0, q_1, q_2, q_3, q_4, q_5, q_6, q_7, q_8, q_9, q_10, q_11, q_12, q_13, q_14, q_15, q_16, q_17, q_18, q_19, q_20, q_21, q_22, q_23, q_24, q_25, q_26, q_27, q_28, q_29, q_30, q_31, q_32, q_33, q_34, q_35, q_36, q_37, q_38, q_39, q_40, q_41, q_42, q_43, q_44, q_45, q_46, q_47, q_48, q_49, q_50, q_51, q_52, q_53, q_63, q_64, q_126, q_128, q_255, q_512, q_1024, q_1026, q_2000, q_2048, q_2049, q_4095, q_4096, q_8192, q_16383, q_65535, q_65536, q_69632, q_131072, q_132000, q_262144, q_300000, q_1000000, q_lt_t, q_lt_f, q_le_t, q_le_f, q_eq_t, q_eq_f, q_cl, q_add, q_mul, q_sub, q_nle_f, q_nle_t, q_nlt_f, q_nlt_t, q_neq_f, eq_self, q_n1, q_n2, q_m1, q_m1', q_m2, q_m21, q_m0, q_ml, upd_e, upd_n, updL_e, updL_n, updF_e, updF_n, let_d, tk_s, bind_s, or_false, false_or, and_true, true_and, if_true, if_false, ite_true, ite_false, reduceIte, not_true, not_false_iff, Nat.zero_add, Nat.add_zero, Nat.sub_zero, h3, hpa, r1, hs1, t1]
    · have hC := s1 hd
      obtain ⟨F2, t1, t2, t3⟩ := save1_R hN hG hn ht hcl h3 n (a ++ [o]) b F hl2 (by omega) hh hs (fun q hqa hqd => by
        rcases mem_snoc.mp hqa with h | h
        · exact hb q h hqd
        · subst h; exact absurd hqd hd)
      refine ⟨F2, ?_, t2, t3⟩
      intro ζ k
      have hs1 := hsz F rfl rfl
      obtain ⟨N', rfl⟩ : ∃ N', N = N' + 1 := ⟨N - 1, by omega⟩
      have hsk : ∀ (k : Int32 → (Nat → Nat → Int32) → Option ζ), lm_Model_save_2 (N' + 1) J (nI (adr (gZ G) l o)) F (nI (gNp G o)) k (N' + 1) (nI 0) F = k (nI 0) F := by
        intro k
        rw [lm_Model_save_2]
        have hC' : F 2 (nI (adr (gZ G) l o)).toNatClampNeg = mI1 := by rw [q_cl (by omega)]; exact hC
        simp (disch := omega) only [q_o, q_0, q_1, q_2, q_3, q_4, q_5, q_6, q_7, q_8, q_9, q_10, q_11, q_12, q_13, q_14, q_15, q_16, q_17, q_18, q_19, q_20, q_21, q_22, q_23, q_24, q_25, q_26, q_27, q_28, q_29, q_30, q_31, q_32, q_33, q_34, q_35, q_36, q_37, q_38, q_39, q_40, q_41, q_42, q_43, q_44, q_45, q_46, q_47, q_48, q_49, q_50, q_51, q_52, q_53, q_63, q_64, q_126, q_128, q_255, q_512, q_1024, q_1026, q_2000, q_2048, q_2049, q_4095, q_4096, q_8192, q_16383, q_65535, q_65536, q_69632, q_131072, q_132000, q_262144, q_300000, q_1000000, q_lt_t, q_lt_f, q_le_t, q_le_f, q_eq_t, q_eq_f, q_cl, q_add, q_mul, q_sub, q_nle_f, q_nle_t, q_nlt_f, q_nlt_t, q_neq_f, eq_self, q_n1, q_n2, q_m1, q_m1', q_m2, q_m21, q_m0, q_ml, upd_e, upd_n, updL_e, updL_n, updF_e, updF_n, let_d, tk_s, bind_s, or_false, false_or, and_true, true_and, if_true, if_false, ite_true, ite_false, reduceIte, not_true, not_false_iff, Nat.zero_add, Nat.add_zero, Nat.sub_zero, hs1, hC, hC']
      rw [et] at t1
      rw [ea] at hsk hpa hs1
      rw [lm_Model_save_1]
      simp (disch := omega) only [q_o, q_0, q_1, q_2, q_3, q_4, q_5, q_6, q_7, q_8, q_9, q_10, q_11, q_12, q_13, q_14, q_15, q_16, q_17, q_18, q_19, q_20, q_21, q_22, q_23, q_24, q_25, q_26, q_27, q_28, q_29, q_30, q_31, q_32, q_33, q_34, q_35, q_36, q_37, q_38, q_39, q_40, q_41, q_42, q_43, q_44, q_45, q_46, q_47, q_48, q_49, q_50, q_51, q_52, q_53, q_63, q_64, q_126, q_128, q_255, q_512, q_1024, q_1026, q_2000, q_2048, q_2049, q_4095, q_4096, q_8192, q_16383, q_65535, q_65536, q_69632, q_131072, q_132000, q_262144, q_300000, q_1000000, q_lt_t, q_lt_f, q_le_t, q_le_f, q_eq_t, q_eq_f, q_cl, q_add, q_mul, q_sub, q_nle_f, q_nle_t, q_nlt_f, q_nlt_t, q_neq_f, eq_self, q_n1, q_n2, q_m1, q_m1', q_m2, q_m21, q_m0, q_ml, upd_e, upd_n, updL_e, updL_n, updF_e, updF_n, let_d, tk_s, bind_s, or_false, false_or, and_true, true_and, if_true, if_false, ite_true, ite_false, reduceIte, not_true, not_false_iff, Nat.zero_add, Nat.add_zero, Nat.sub_zero, h3, hpa, hsk, hs1, t1]
/-- the globals are kept -/
theorem save5_R (ht : tot (gZ G) l ≤ 131072) (hr : ∀ k, k < 2048 → okV nk nm l (gg k) ∧ (∀ p, gg k = vO p → p ∈ dn)) :
    ∀ (n i : Nat) (F : Nat → Nat → Int32), i ≤ 2048 → 2048 - i < n → stl G l dn l (F 2) → (∀ k, k < 2048 → F 5 k = tR (gg k) ∧ F 6 k = vR G l (gg k)) →
    ∃ (F' : Nat → Nat → Int32), (∀ (ζ : Type) (k : Int32 → (Nat → Nat → Int32) → Option ζ), lm_Model_save_5 N k n (nI i) F = k (nI 2048) F') ∧ (∀ k, k ≠ 12 → k ≠ 13 → F' k = F k) ∧ (∀ k, i ≤ k → k < 2048 → F' 12 k = tR (gg k) ∧ F' 13 k = vR G (lf l dn) (gg k)) ∧ (∀ k, k < i → F' 12 k = F 12 k ∧ F' 13 k = F 13 k)
  | 0, i, F, _, h, _, _ => absurd h (Nat.not_lt_zero _)
  | n + 1, i, F, hi, h, hs, hV => by
    by_cases e : i = 2048
    · refine ⟨F, ?_, fun _ _ _ => rfl, fun k h1 h2 => absurd h2 (by omega), fun _ _ => ⟨rfl, rfl⟩⟩
      intro ζ k
      rw [lm_Model_save_5]
      simp (disch := omega) only [q_o, q_0, q_1, q_2, q_3, q_4, q_5, q_6, q_7, q_8, q_9, q_10, q_11, q_12, q_13, q_14, q_15, q_16, q_17, q_18, q_19, q_20, q_21, q_22, q_23, q_24, q_25, q_26, q_27, q_28, q_29, q_30, q_31, q_32, q_33, q_34, q_35, q_36, q_37, q_38, q_39, q_40, q_41, q_42, q_43, q_44, q_45, q_46, q_47, q_48, q_49, q_50, q_51, q_52, q_53, q_63, q_64, q_126, q_128, q_255, q_512, q_1024, q_1026, q_2000, q_2048, q_2049, q_4095, q_4096, q_8192, q_16383, q_65535, q_65536, q_69632, q_131072, q_132000, q_262144, q_300000, q_1000000, q_lt_t, q_lt_f, q_le_t, q_le_f, q_eq_t, q_eq_f, q_cl, q_add, q_mul, q_sub, q_nle_f, q_nle_t, q_nlt_f, q_nlt_t, q_neq_f, eq_self, q_n1, q_n2, q_m1, q_m1', q_m2, q_m21, q_m0, q_ml, upd_e, upd_n, updL_e, updL_n, updF_e, updF_n, let_d, tk_s, bind_s, or_false, false_or, and_true, true_and, if_true, if_false, ite_true, ite_false, reduceIte, not_true, not_false_iff, Nat.zero_add, Nat.add_zero, Nat.sub_zero]
      rw [e]
    · obtain ⟨t1, t2⟩ := hV i (by omega)
      have hri := hr i (by omega)
      obtain ⟨F1, r1, r2, r3, r4⟩ := save5_R ht hr n (i + 1) (updF (updF F 12 (upd (F 12) i (tR (gg i)))) 13 (upd (F 13) i (vR G (lf l dn) (gg i)))) (by omega) (by omega) (by rw [updF_n (by omega), updF_n (by omega)]; exact hs) (fun k hk => by rw [updF_n (by omega), updF_n (by omega), updF_n (by omega), updF_n (by omega)]; exact hV k hk)
      refine ⟨F1, ?_, ?_, ?_, ?_⟩
      · intro ζ k
        rw [lm_Model_save_5]
        rcases tr_v hs hri.1 hri.2 with ⟨e1, o, e2, e3, e4, e5⟩ | ⟨e1, e2⟩
        · have hend := adr_end (Z := gZ G) e3
          have hz := gZ_pos G o
          rw [e1] at r1
          simp (disch := omega) only [q_o, q_0, q_1, q_2, q_3, q_4, q_5, q_6, q_7, q_8, q_9, q_10, q_11, q_12, q_13, q_14, q_15, q_16, q_17, q_18, q_19, q_20, q_21, q_22, q_23, q_24, q_25, q_26, q_27, q_28, q_29, q_30, q_31, q_32, q_33, q_34, q_35, q_36, q_37, q_38, q_39, q_40, q_41, q_42, q_43, q_44, q_45, q_46, q_47, q_48, q_49, q_50, q_51, q_52, q_53, q_63, q_64, q_126, q_128, q_255, q_512, q_1024, q_1026, q_2000, q_2048, q_2049, q_4095, q_4096, q_8192, q_16383, q_65535, q_65536, q_69632, q_131072, q_132000, q_262144, q_300000, q_1000000, q_lt_t, q_lt_f, q_le_t, q_le_f, q_eq_t, q_eq_f, q_cl, q_add, q_mul, q_sub, q_nle_f, q_nle_t, q_nlt_f, q_nlt_t, q_neq_f, eq_self, q_n1, q_n2, q_m1, q_m1', q_m2, q_m21, q_m0, q_ml, upd_e, upd_n, updL_e, updL_n, updF_e, updF_n, let_d, tk_s, bind_s, or_false, false_or, and_true, true_and, if_true, if_false, ite_true, ite_false, reduceIte, not_true, not_false_iff, Nat.zero_add, Nat.add_zero, Nat.sub_zero, lm_Model_save_6, t1, t2, e1, e4, e5, r1]
        · simp (disch := omega) only [q_o, q_0, q_1, q_2, q_3, q_4, q_5, q_6, q_7, q_8, q_9, q_10, q_11, q_12, q_13, q_14, q_15, q_16, q_17, q_18, q_19, q_20, q_21, q_22, q_23, q_24, q_25, q_26, q_27, q_28, q_29, q_30, q_31, q_32, q_33, q_34, q_35, q_36, q_37, q_38, q_39, q_40, q_41, q_42, q_43, q_44, q_45, q_46, q_47, q_48, q_49, q_50, q_51, q_52, q_53, q_63, q_64, q_126, q_128, q_255, q_512, q_1024, q_1026, q_2000, q_2048, q_2049, q_4095, q_4096, q_8192, q_16383, q_65535, q_65536, q_69632, q_131072, q_132000, q_262144, q_300000, q_1000000, q_lt_t, q_lt_f, q_le_t, q_le_f, q_eq_t, q_eq_f, q_cl, q_add, q_mul, q_sub, q_nle_f, q_nle_t, q_nlt_f, q_nlt_t, q_neq_f, eq_self, q_n1, q_n2, q_m1, q_m1', q_m2, q_m21, q_m0, q_ml, upd_e, upd_n, updL_e, updL_n, updF_e, updF_n, let_d, tk_s, bind_s, or_false, false_or, and_true, true_and, if_true, if_false, ite_true, ite_false, reduceIte, not_true, not_false_iff, Nat.zero_add, Nat.add_zero, Nat.sub_zero, lm_Model_save_6, t1, t2, e1, e2, r1]
      · intro k h12 h13
        rw [r2 k h12 h13, updF_n h13, updF_n h12]
      · intro k h1 h2
        by_cases ek : k = i
        · subst ek
          have h4 := r4 k (by omega)
          rw [updF_n (by omega), updF_e rfl, upd_e rfl, updF_e rfl, upd_e rfl] at h4
          exact h4
        · exact r3 k (by omega) h2
      · intro k hk
        have h4 := r4 k (by omega)
        rw [updF_n (by omega), updF_e rfl, upd_n (by omega), updF_e rfl, upd_n (by omega)] at h4
        exact h4
/-- save: the reference -/
theorem save_R {I : Nat → Int32} {F : Nat → Nat → Int32} (hN : 200000 ≤ N) (hn : nm < 134217728) (h : hpR nk nm nid G l gg I F) :
    ∃ (F' : Nat → Nat → Int32) (I' : Nat → Int32) (m : List Nat), m_Model_save N I F = some (nI (tot (gZ G) m), F', I') ∧ hpR nk nm nid G l gg I' F' ∧ (I' 20 = nI 0 ∧ I' 22 = nI 0 ∧ I' 29 = nI 0 ∧ I' 30 = nI 0 ∧ I' 11 = nI (tot (gZ G) m)) ∧ (∀ k, k ≠ 11 → k ≠ 20 → k ≠ 22 → k ≠ 29 → k ≠ 30 → k ≠ 50 → k ≠ 51 → I' k = I k) ∧ (∀ k, k ≠ 2 → k ≠ 9 → k ≠ 10 → k ≠ 12 → k ≠ 13 → F' k = F k) ∧
      wf nk nm nid G m ∧ srt m ∧ heR G m (F' 9) (F' 10) ∧ tot (gZ G) m ≤ 131072 ∧ (∀ k, k < 2048 → okV nk nm m (gg k) ∧ F' 12 k = tR (gg k) ∧ F' 13 k = vR G m (gg k)) ∧ (∀ o, o ∈ m ↔ rch G (rtG gg) o) := by
  obtain ⟨hG, hsr, h3, ht, hh, hfree, hgk, hgF, h7, h8⟩ := h
  have hF : fxR nk nm nid G l (rch G (rtG gg)) := ⟨hG, hn, ht, fun q p i h1 h2 h3 h4 => rch_c q p i h1 h2 h3 h4⟩
  obtain ⟨J, hJ⟩ : ∃ J, J = upd (upd (upd (upd I 20 0) 22 0) 29 0) 30 0 := ⟨_, rfl⟩
  have hJn : ∀ k, k ≠ 20 → k ≠ 22 → k ≠ 29 → k ≠ 30 → J k = I k := fun k h20 h22 h29 h30 => by rw [hJ, upd_n h30, upd_n h29, upd_n h22, upd_n h20]
  have j20 : J 20 = nI 0 := by rw [hJ, upd_n (by omega), upd_n (by omega), upd_n (by omega), upd_e rfl]; rfl
  have j22 : J 22 = nI 0 := by rw [hJ, upd_n (by omega), upd_n (by omega), upd_e rfl]; rfl
  have j29 : J 29 = nI 0 := by rw [hJ, upd_n (by omega), upd_e rfl]; rfl
  have j30 : J 30 = nI 0 := by rw [hJ, upd_e rfl]; rfl
  have hfg : m_Model_forget N I F = some J := by unfold m_Model_forget; rw [hJ]; rfl
  obtain ⟨F1, I1, dn, a1, a2, a3, a4, a5, a6⟩ := markGlobals_R (N := N) (I := J) hN hF (fun k hk => ⟨hgk k (by omega), fun p hp => rch_r ⟨k, hk, hp⟩⟩) hh hgF hfree
  have hh1 : heR G l (F1 0) (F1 1) := by rw [a2 0 (by omega), a2 1 (by omega)]; exact hh
  have h31 : I1 3 = nI (tot (gZ G) l) := by rw [a3 3 (by omega) (by omega), hJn 3 (by omega) (by omega) (by omega) (by omega)]; exact h3
  obtain ⟨F2, b1, b2, b3⟩ := settle_R (N := N) hN hG hn ht h31 hh1 a4
  have hs2 := sameF_t a2 b2
  have hh2 : heR G l (F2 0) (F2 1) := by rw [hs2 0 (by omega), hs2 1 (by omega)]; exact hh
  have hlen := tot_len (Z := gZ G) (l := l) (k := 1) (fun o _ => gZ_pos G o)
  obtain ⟨F3, c1, c2, c3⟩ := save1_R (N := N) (J := I1) hN hG hn ht a6 h31 N [] l F2 rfl (by omega) hh2 b3 (fun o ho => by cases ho)
  have st3 : stl G l dn l (F3 2) := by rw [c2 2 (by omega) (by omega)]; exact b3
  obtain ⟨F4, d1, d2, d3, d4⟩ := save5_R (N := N) ht (fun k hk => ⟨hgk k (by omega), fun p hp => a5 k p hk hp⟩) N 0 F3 (by omega) (by omega) st3 (fun k hk => by rw [c2 5 (by omega) (by omega), c2 6 (by omega) (by omega), hs2 5 (by omega), hs2 6 (by omega)]; exact hgF k hk)
  have e4 : ∀ k, k ≠ 2 → k ≠ 9 → k ≠ 10 → k ≠ 12 → k ≠ 13 → F4 k = F k := fun k h2 h9 h10 h12 h13 => by rw [d2 k h12 h13, c2 k h9 h10, hs2 k h2]
  have hh4 : heR G l (F4 0) (F4 1) := by rw [e4 0 (by omega) (by omega) (by omega) (by omega) (by omega), e4 1 (by omega) (by omega) (by omega) (by omega) (by omega)]; exact hh
  obtain ⟨F5, u1, u2, u3⟩ := unmark_R (N := N) (I := upd I1 11 (nI (tot (gZ G) (lf l dn)))) (F := F4) hN hG hn ht (by rw [upd_n (by omega)]; exact h31) hh4 (fun x hx hx2 => by rw [d2 2 (by omega) (by omega), c2 2 (by omega) (by omega)]; exact b3.2 x hx hx2)
  have e5 : ∀ k, k ≠ 2 → k ≠ 9 → k ≠ 10 → k ≠ 12 → k ≠ 13 → F5 k = F k := fun k h2 h9 h10 h12 h13 => by rw [u2 k h2, e4 k h2 h9 h10 h12 h13]
  have eI : ∀ k, k ≠ 11 → k ≠ 20 → k ≠ 22 → k ≠ 29 → k ≠ 30 → k ≠ 50 → k ≠ 51 → upd I1 11 (nI (tot (gZ G) (lf l dn))) k = I k := fun k h11 h20 h22 h29 h30 h50 h51 => by rw [upd_n h11, a3 k h50 h51, hJn k h20 h22 h29 h30]
  obtain ⟨m1, m2, m3, m4, m5, m6, m7⟩ := a4
  rw [List.append_nil] at m1 m2
  refine ⟨F5, upd I1 11 (nI (tot (gZ G) (lf l dn))), lf l dn, ?_, ⟨hG, hsr, ?_, ht, ?_, u3, hgk, ?_, ?_, ?_⟩, ⟨?_, ?_, ?_, ?_, upd_e rfl⟩, eI, e5, wf_lf hG a6, List.Pairwise.filter _ hsr, ?_, Nat.le_trans (lf_tot _ _) ht, fun k hk => ⟨okV_dn (hgk k (by omega)) (fun p hp => a5 k p hk hp), ?_, ?_⟩, fun o => ⟨fun ho => (m2 o (lf_mem.mp ho).2).2, fun ho => ?_⟩⟩
  · have e0 : tot (gZ G) [] = 0 := rfl
    rw [e0] at c1
    unfold m_Model_save
    rw [hfg, bind_s, a1, bind_s]
    dsimp only
    rw [b1, bind_s]
    dsimp only
    refine (c1 _ _).trans ?_
    refine (d1 _ _).trans ?_
    rw [let_d, u1, bind_s]
  · rw [eI 3 (by omega) (by omega) (by omega) (by omega) (by omega) (by omega) (by omega)]; exact h3
  · rw [e5 0 (by omega) (by omega) (by omega) (by omega) (by omega), e5 1 (by omega) (by omega) (by omega) (by omega) (by omega)]; exact hh
  · rw [e5 5 (by omega) (by omega) (by omega) (by omega) (by omega), e5 6 (by omega) (by omega) (by omega) (by omega) (by omega)]; exact hgF
  · rw [eI 7 (by omega) (by omega) (by omega) (by omega) (by omega) (by omega) (by omega)]; exact h7
  · rw [eI 8 (by omega) (by omega) (by omega) (by omega) (by omega) (by omega) (by omega)]; exact h8
  · rw [upd_n (by omega), a3 20 (by omega) (by omega)]; exact j20
  · rw [upd_n (by omega), a3 22 (by omega) (by omega)]; exact j22
  · rw [upd_n (by omega), a3 29 (by omega) (by omega)]; exact j29
  · rw [upd_n (by omega), a3 30 (by omega) (by omega)]; exact j30
  · intro o ho
    rw [u2 9 (by omega), u2 10 (by omega), d2 9 (by omega) (by omega), d2 10 (by omega) (by omega)]
    exact c3 o (lf_mem.mp ho).1 (lf_mem.mp ho).2
  · rw [u2 12 (by omega)]; exact (d3 k (Nat.zero_le _) hk).1
  · rw [u2 13 (by omega)]; exact (d3 k (Nat.zero_le _) hk).2
  · have h1 := cls_rch a6 (fun p hp => by
      obtain ⟨k, hk, hp⟩ := hp
      exact a5 k p hk hp) ho
    exact lf_mem.mpr ⟨(m2 o h1).1, h1⟩
/-- restore: the reference -/
theorem rest1_R {J : Nat → Int32} {e : Nat} (h11 : J 11 = nI e) (he : e ≤ 131072) :
    ∀ (n i : Nat) (F : Nat → Nat → Int32), i ≤ e → e - i < n →
    ∃ (F' : Nat → Nat → Int32), (∀ (ζ : Type) (k : Int32 → (Nat → Nat → Int32) → Option ζ), lm_Model_restore_1 N J k n (nI i) F = k (nI e) F') ∧ (∀ k, k ≠ 0 → k ≠ 1 → F' k = F k) ∧ (∀ k, i ≤ k → k < e → F' 0 k = F 9 k ∧ F' 1 k = F 10 k) ∧ (∀ k, k < i → F' 0 k = F 0 k ∧ F' 1 k = F 1 k)
  | 0, i, F, _, h => absurd h (Nat.not_lt_zero _)
  | n + 1, i, F, hi, h => by
    by_cases e1 : i = e
    · refine ⟨F, ?_, fun _ _ _ => rfl, fun k h1 h2 => absurd h2 (by omega), fun _ _ => ⟨rfl, rfl⟩⟩
      intro ζ k
      rw [lm_Model_restore_1]
      simp (disch := omega) only [q_o, q_0, q_1, q_2, q_3, q_4, q_5, q_6, q_7, q_8, q_9, q_10, q_11, q_12, q_13, q_14, q_15, q_16, q_17, q_18, q_19, q_20, q_21, q_22, q_23, q_24, q_25, q_26, q_27, q_28, q_29, q_30, q_31, q_32, q_33, q_34, q_35, q_36, q_37, q_38, q_39, q_40, q_41, q_42, q_43, q_44, q_45, q_46, q_47, q_48, q_49, q_50, q_51, q_52, q_53, q_63, q_64, q_126, q_128, q_255, q_512, q_1024, q_1026, q_2000, q_2048, q_2049, q_4095, q_4096, q_8192, q_16383, q_65535, q_65536, q_69632, q_131072, q_132000, q_262144, q_300000, q_1000000, q_lt_t, q_lt_f, q_le_t, q_le_f, q_eq_t, q_eq_f, q_cl, q_add, q_mul, q_sub, q_nle_f, q_nle_t, q_nlt_f, q_nlt_t, q_neq_f, eq_self, q_n1, q_n2, q_m1, q_m1', q_m2, q_m21, q_m0, q_ml, upd_e, upd_n, updL_e, updL_n, updF_e, updF_n, let_d, tk_s, bind_s, or_false, false_or, and_true, true_and, if_true, if_false, ite_true, ite_false, reduceIte, not_true, not_false_iff, Nat.zero_add, Nat.add_zero, Nat.sub_zero, h11]
      rw [e1]
    · obtain ⟨F1, r1, r2, r3, r4⟩ := rest1_R h11 he n (i + 1) (updF (updF F 0 (upd (F 0) i (F 9 i))) 1 (upd (F 1) i (F 10 i))) (by omega) (by omega)
      refine ⟨F1, ?_, ?_, ?_, ?_⟩
      · intro ζ k
        rw [lm_Model_restore_1]
        simp (disch := omega) only [q_o, q_0, q_1, q_2, q_3, q_4, q_5, q_6, q_7, q_8, q_9, q_10, q_11, q_12, q_13, q_14, q_15, q_16, q_17, q_18, q_19, q_20, q_21, q_22, q_23, q_24, q_25, q_26, q_27, q_28, q_29, q_30, q_31, q_32, q_33, q_34, q_35, q_36, q_37, q_38, q_39, q_40, q_41, q_42, q_43, q_44, q_45, q_46, q_47, q_48, q_49, q_50, q_51, q_52, q_53, q_63, q_64, q_126, q_128, q_255, q_512, q_1024, q_1026, q_2000, q_2048, q_2049, q_4095, q_4096, q_8192, q_16383, q_65535, q_65536, q_69632, q_131072, q_132000, q_262144, q_300000, q_1000000, q_lt_t, q_lt_f, q_le_t, q_le_f, q_eq_t, q_eq_f, q_cl, q_add, q_mul, q_sub, q_nle_f, q_nle_t, q_nlt_f, q_nlt_t, q_neq_f, eq_self, q_n1, q_n2, q_m1, q_m1', q_m2, q_m21, q_m0, q_ml, upd_e, upd_n, updL_e, updL_n, updF_e, updF_n, let_d, tk_s, bind_s, or_false, false_or, and_true, true_and, if_true, if_false, ite_true, ite_false, reduceIte, not_true, not_false_iff, Nat.zero_add, Nat.add_zero, Nat.sub_zero, h11, r1]
      · intro k h0 h1
        rw [r2 k h0 h1, updF_n h1, updF_n h0]
      · intro k h1 h2
        by_cases ek : k = i
        · subst ek
          have h4 := r4 k (by omega)
          rw [updF_n (by omega), updF_e rfl, upd_e rfl, updF_e rfl, upd_e rfl] at h4
          exact h4
        · have h5 := r3 k (by omega) h2
          rw [updF_n (by omega), updF_n (by omega), updF_n (by omega), updF_n (by omega)] at h5
          exact h5
      · intro k hk
        have h4 := r4 k (by omega)
        rw [updF_n (by omega), updF_e rfl, upd_n (by omega), updF_e rfl, upd_n (by omega)] at h4
        exact h4
theorem rest2_R :
    ∀ (n i : Nat) (F : Nat → Nat → Int32), i ≤ 2048 → 2048 - i < n →
    ∃ (F' : Nat → Nat → Int32), (∀ (ζ : Type) (k : Int32 → (Nat → Nat → Int32) → Option ζ), lm_Model_restore_2 N k n (nI i) F = k (nI 2048) F') ∧ (∀ k, k ≠ 5 → k ≠ 6 → F' k = F k) ∧ (∀ k, i ≤ k → k < 2048 → F' 5 k = F 12 k ∧ F' 6 k = F 13 k) ∧ (∀ k, k < i → F' 5 k = F 5 k ∧ F' 6 k = F 6 k)
  | 0, i, F, _, h => absurd h (Nat.not_lt_zero _)
  | n + 1, i, F, hi, h => by
    by_cases e1 : i = 2048
    · refine ⟨F, ?_, fun _ _ _ => rfl, fun k h1 h2 => absurd h2 (by omega), fun _ _ => ⟨rfl, rfl⟩⟩
      intro ζ k
      rw [lm_Model_restore_2]
      simp (disch := omega) only [q_o, q_0, q_1, q_2, q_3, q_4, q_5, q_6, q_7, q_8, q_9, q_10, q_11, q_12, q_13, q_14, q_15, q_16, q_17, q_18, q_19, q_20, q_21, q_22, q_23, q_24, q_25, q_26, q_27, q_28, q_29, q_30, q_31, q_32, q_33, q_34, q_35, q_36, q_37, q_38, q_39, q_40, q_41, q_42, q_43, q_44, q_45, q_46, q_47, q_48, q_49, q_50, q_51, q_52, q_53, q_63, q_64, q_126, q_128, q_255, q_512, q_1024, q_1026, q_2000, q_2048, q_2049, q_4095, q_4096, q_8192, q_16383, q_65535, q_65536, q_69632, q_131072, q_132000, q_262144, q_300000, q_1000000, q_lt_t, q_lt_f, q_le_t, q_le_f, q_eq_t, q_eq_f, q_cl, q_add, q_mul, q_sub, q_nle_f, q_nle_t, q_nlt_f, q_nlt_t, q_neq_f, eq_self, q_n1, q_n2, q_m1, q_m1', q_m2, q_m21, q_m0, q_ml, upd_e, upd_n, updL_e, updL_n, updF_e, updF_n, let_d, tk_s, bind_s, or_false, false_or, and_true, true_and, if_true, if_false, ite_true, ite_false, reduceIte, not_true, not_false_iff, Nat.zero_add, Nat.add_zero, Nat.sub_zero]
      rw [e1]
    · obtain ⟨F1, r1, r2, r3, r4⟩ := rest2_R n (i + 1) (updF (updF F 5 (upd (F 5) i (F 12 i))) 6 (upd (F 6) i (F 13 i))) (by omega) (by omega)
      refine ⟨F1, ?_, ?_, ?_, ?_⟩
      · intro ζ k
        rw [lm_Model_restore_2]
        simp (disch := omega) only [q_o, q_0, q_1, q_2, q_3, q_4, q_5, q_6, q_7, q_8, q_9, q_10, q_11, q_12, q_13, q_14, q_15, q_16, q_17, q_18, q_19, q_20, q_21, q_22, q_23, q_24, q_25, q_26, q_27, q_28, q_29, q_30, q_31, q_32, q_33, q_34, q_35, q_36, q_37, q_38, q_39, q_40, q_41, q_42, q_43, q_44, q_45, q_46, q_47, q_48, q_49, q_50, q_51, q_52, q_53, q_63, q_64, q_126, q_128, q_255, q_512, q_1024, q_1026, q_2000, q_2048, q_2049, q_4095, q_4096, q_8192, q_16383, q_65535, q_65536, q_69632, q_131072, q_132000, q_262144, q_300000, q_1000000, q_lt_t, q_lt_f, q_le_t, q_le_f, q_eq_t, q_eq_f, q_cl, q_add, q_mul, q_sub, q_nle_f, q_nle_t, q_nlt_f, q_nlt_t, q_neq_f, eq_self, q_n1, q_n2, q_m1, q_m1', q_m2, q_m21, q_m0, q_ml, upd_e, upd_n, updL_e, updL_n, updF_e, updF_n, let_d, tk_s, bind_s, or_false, false_or, and_true, true_and, if_true, if_false, ite_true, ite_false, reduceIte, not_true, not_false_iff, Nat.zero_add, Nat.add_zero, Nat.sub_zero, r1]
      · intro k h0 h1
        rw [r2 k h0 h1, updF_n h1, updF_n h0]
      · intro k h1 h2
        by_cases ek : k = i
        · subst ek
          have h4 := r4 k (by omega)
          rw [updF_n (by omega), updF_e rfl, upd_e rfl, updF_e rfl, upd_e rfl] at h4
          exact h4
        · have h5 := r3 k (by omega) h2
          rw [updF_n (by omega), updF_n (by omega), updF_n (by omega), updF_n (by omega)] at h5
          exact h5
      · intro k hk
        have h4 := r4 k (by omega)
        rw [updF_n (by omega), updF_e rfl, upd_n (by omega), updF_e rfl, upd_n (by omega)] at h4
        exact h4
theorem restore_R {I : Nat → Int32} {F : Nat → Nat → Int32} {m : List Nat} (hN : 200000 ≤ N) (hG : wf nk nm nid G m) (hsr : srt m) (h11 : I 11 = nI (tot (gZ G) m)) (ht : tot (gZ G) m ≤ 131072) (hh : heR G m (F 9) (F 10)) (hfree : ∀ a, a < 131072 → F 2 a = mI1) (hg : ∀ k, k < 2048 → okV nk nm m (gg k) ∧ F 12 k = tR (gg k) ∧ F 13 k = vR G m (gg k)) :
    ∃ (F' : Nat → Nat → Int32) (I' : Nat → Int32), m_Model_restore N I F = some (nI (tot (gZ G) m), F', I') ∧ hpR nk nm nid G m (upA gg 2048 (vS (nI 0))) I' F' ∧ (I' 20 = nI 0 ∧ I' 22 = nI 0 ∧ I' 29 = nI 0 ∧ I' 30 = nI 0) ∧ (∀ k, k ≠ 3 → k ≠ 7 → k ≠ 8 → k ≠ 20 → k ≠ 22 → k ≠ 29 → k ≠ 30 → I' k = I k) ∧ (∀ k, k ≠ 0 → k ≠ 1 → k ≠ 5 → k ≠ 6 → F' k = F k) := by
  obtain ⟨J, hJ⟩ : ∃ J, J = upd (upd (upd (upd (upd (upd I 20 0) 22 0) 29 0) 30 0) 7 0) 8 0 := ⟨_, rfl⟩
  have hJn : ∀ k, k ≠ 7 → k ≠ 8 → k ≠ 20 → k ≠ 22 → k ≠ 29 → k ≠ 30 → J k = I k := fun k h7 h8 h20 h22 h29 h30 => by rw [hJ, upd_n h8, upd_n h7, upd_n h30, upd_n h29, upd_n h22, upd_n h20]
  have j20 : J 20 = nI 0 := by rw [hJ, upd_n (by omega), upd_n (by omega), upd_n (by omega), upd_n (by omega), upd_n (by omega), upd_e rfl]; rfl
  have j22 : J 22 = nI 0 := by rw [hJ, upd_n (by omega), upd_n (by omega), upd_n (by omega), upd_n (by omega), upd_e rfl]; rfl
  have j29 : J 29 = nI 0 := by rw [hJ, upd_n (by omega), upd_n (by omega), upd_n (by omega), upd_e rfl]; rfl
  have j30 : J 30 = nI 0 := by rw [hJ, upd_n (by omega), upd_n (by omega), upd_e rfl]; rfl
  have j7 : J 7 = nI 0 := by rw [hJ, upd_n (by omega), upd_e rfl]; rfl
  have j8 : J 8 = nI 0 := by rw [hJ, upd_e rfl]; rfl
  have j11 : J 11 = nI (tot (gZ G) m) := by rw [hJn 11 (by omega) (by omega) (by omega) (by omega) (by omega) (by omega)]; exact h11
  obtain ⟨F1, a1, a2, a3, a4⟩ := rest1_R (N := N) j11 ht N 0 F (by omega) (by omega)
  obtain ⟨F2, b1, b2, b3, b4⟩ := rest2_R (N := N) N 0 F1 (by omega) (by omega)
  refine ⟨F2, upd J 3 (nI (tot (gZ G) m)), ?_, ⟨hG, hsr, upd_e rfl, ht, ?_, ?_, fun k hk => ?_, fun k hk => ?_, ?_, ?_⟩, ⟨?_, ?_, ?_, ?_⟩, fun k h3 h7 h8 h20 h22 h29 h30 => by rw [upd_n h3, hJn k h7 h8 h20 h22 h29 h30], fun k h0 h1 h5 h6 => by rw [b2 k h5 h6, a2 k h0 h1]⟩
  · unfold m_Model_restore m_Model_forget
    rw [let_d, let_d, let_d, let_d, bind_s, let_d, let_d, ← hJ]
    refine (a1 _ _).trans ?_
    refine (b1 _ _).trans ?_
    rw [let_d, upd_e rfl, j11]
  · intro o ho
    have hend := adr_end (Z := gZ G) ho
    have hz := gZ_pos G o
    rw [b2 0 (by omega) (by omega), b2 1 (by omega) (by omega)]
    have hb : blk G m o (adr (gZ G) m o) (F 9) (F 10) := hh o ho
    exact blk_mv hb (fun i hi => a3 _ (Nat.zero_le _) (by omega))
  · rw [b2 2 (by omega) (by omega), a2 2 (by omega) (by omega)]; exact hfree
  · by_cases e : k = 2048
    · rw [upA_e e]; trivial
    · rw [upA_n e]; exact (hg k (by omega)).1
  · rw [upA_n (by omega), (b3 k (Nat.zero_le _) hk).1, (b3 k (Nat.zero_le _) hk).2, a2 12 (by omega) (by omega), a2 13 (by omega) (by omega)]
    exact (hg k hk).2
  · rw [upA_e rfl, upd_n (by omega)]; exact j7
  · rw [upA_e rfl, upd_n (by omega)]; exact j8
  · rw [upd_n (by omega)]; exact j20
  · rw [upd_n (by omega)]; exact j22
  · rw [upd_n (by omega)]; exact j29
  · rw [upd_n (by omega)]; exact j30
end RF
