/-! The reference: hasRoom decides what fits -/
section RF
variable {G : Nat → GO} {l : List Nat} {nk : Nat → Nat} {nm nid : Nat} {N : Nat} {gg gs gc : Nat → AV} {t fr : Nat}
theorem mst_P {P Q : Nat → Prop} {C : Nat → Int32} {hd r : Int32} {dn wl : List Nat} (h : mst G l P C hd r dn wl) (hPQ : ∀ o, P o → Q o) : mst G l Q C hd r dn wl := by
  obtain ⟨a1, a2, a3⟩ := h
  exact ⟨a1, fun o ho => ⟨(a2 o ho).1, hPQ o (a2 o ho).2⟩, a3⟩
theorem markRun_R {I : Nat → Int32} {F : Nat → Nat → Int32} {dn : List Nat} (hN : 200000 ≤ N) (hn : nm < 134217728) (hG : wf nk nm nid G l) (ht : tot (gZ G) l ≤ 131072) (hh : heR G l (F 0) (F 1)) (hgk : ∀ k, k < 2049 → okV nk nm l (gg k)) (h7 : I 7 = tR (gg 2048)) (h8 : I 8 = vR G l (gg 2048))
    (hv : vlR nk nm G l t gs fr gc F) (htt : t ≤ 65536) (hfr : fr ≤ 8192) (h29 : I 29 = nI t) (h22 : I 22 = nI fr) (h20 : ¬ I 20 = nI 0) (h21 : I 21 = nI 5) (hm : mst G l (rch G (rtA gg t gs fr gc)) (F 2) (I 50) (I 51) dn []) (hcl : cls G dn) :
    ∃ (F' : Nat → Nat → Int32) (I' : Nat → Int32) (dn' : List Nat), m_Model_markRun N I F = some (F', I') ∧ sameF F F' ∧ sameI I I' ∧ mst G l (rch G (rtA gg t gs fr gc)) (F' 2) (I' 50) (I' 51) dn' [] ∧ cls G dn' ∧ (∀ q, q ∈ dn → q ∈ dn') ∧ (∀ k p, k < t → gs k = vO p → p ∈ dn') ∧ (∀ k p, k < fr → gc k = vO p → p ∈ dn') ∧ (∀ p, gg 2048 = vO p → p ∈ dn') := by
  obtain ⟨hv1, hv2⟩ := hv
  have hF : fxR nk nm nid G l (rch G (rtA gg t gs fr gc)) := ⟨hG, hn, ht, fun q p i h1 h2 h3 h4 => rch_c q p i h1 h2 h3 h4⟩
  obtain ⟨F1, I1, e1, a1, a2, a3, a4, a5⟩ := mRn1_R (N := N) hF htt (fun k hk => ⟨(hv1 k hk).1, fun p hp => rch_r (Or.inr (Or.inl ⟨k, hk, hp⟩))⟩) N 0 F I dn [] (by omega) (by omega) h29 h20 h21 hh (fun k hk => (hv1 k hk).2) hm
  obtain ⟨F2, I2, e2, b1, b2, b3, b4, b5⟩ := mRn2_R (N := N) hF hfr (fun k hk => ⟨(hv2 k hk).1, fun p hp => rch_r (Or.inr (Or.inr ⟨k, hk, hp⟩))⟩) N 0 F1 I1 dn (e1 ++ []) (by omega) (by omega) (by rw [a3 22 (by omega) (by omega)]; exact h22) (by rw [a3 20 (by omega) (by omega)]; exact h20) (by rw [a3 21 (by omega) (by omega)]; exact h21) (by rw [a2 0 (by omega), a2 1 (by omega)]; exact hh) (fun k hk => by rw [a2 23 (by omega)]; exact (hv2 k hk).2) a4
  have hs2 := sameF_t a2 b2
  have hi2 := sameI_t a3 b3
  have hh2 : heR G l (F2 0) (F2 1) := by rw [hs2 0 (by omega), hs2 1 (by omega)]; exact hh
  obtain ⟨F3, I3, e3, c1, c2, c3, c4, c5⟩ := mark_R (N := N) hG hn ht hh2 b4 (hgk 2048 (by omega)) (fun p hp => rch_r (Or.inl ⟨2048, by omega, hp⟩))
  have hs3 := sameF_t hs2 c2
  have hi3 := sameI_t hi2 c3
  have hh3 : heR G l (F3 0) (F3 1) := by rw [hs3 0 (by omega), hs3 1 (by omega)]; exact hh
  obtain ⟨F4, I4, dn4, d1, d2, d3, d4, d5, d6⟩ := mAll1_R (N := N) hN hF N F3 I3 dn (e3 ++ (e2 ++ (e1 ++ []))) (by omega) hh3 c4 (fun q hq i p h1 h2 h3 => List.mem_append_left _ (hcl q hq i p h1 h2 h3))
  refine ⟨F4, I4, dn4, ?_, sameF_t hs3 d2, sameI_t hi3 d3, d4, d6, fun q hq => d5 q (List.mem_append_left _ hq), fun k p hk hp => ?_, fun k p hk hp => ?_, fun p hp => ?_⟩
  · unfold m_Model_markRun m_Model_markAll
    simp (disch := omega) only [q_o, q_0, q_1, q_2, q_3, q_4, q_5, q_6, q_7, q_8, q_9, q_10, q_11, q_12, q_13, q_14, q_15, q_16, q_17, q_18, q_19, q_20, q_21, q_22, q_23, q_24, q_25, q_26, q_27, q_28, q_29, q_30, q_31, q_32, q_33, q_34, q_35, q_36, q_37, q_38, q_39, q_40, q_41, q_42, q_43, q_44, q_45, q_46, q_47, q_48, q_49, q_50, q_51, q_52, q_53, q_63, q_64, q_126, q_128, q_255, q_512, q_1024, q_1026, q_2000, q_2048, q_2049, q_4095, q_4096, q_8192, q_16383, q_65535, q_65536, q_69632, q_131072, q_132000, q_262144, q_300000, q_1000000, q_lt_t, q_lt_f, q_le_t, q_le_f, q_eq_t, q_eq_f, q_cl, q_add, q_mul, q_sub, q_nle_f, q_nle_t, q_nlt_f, q_nlt_t, q_neq_f, eq_self, q_n1, q_n2, q_m1, q_m1', q_m2, q_m21, q_m0, q_ml, upd_e, upd_n, updL_e, updL_n, updF_e, updF_n, let_d, tk_s, bind_s, or_false, false_or, and_true, true_and, if_true, if_false, ite_true, ite_false, reduceIte, not_true, not_false_iff, Nat.zero_add, Nat.add_zero, Nat.sub_zero, a1, b1, hi2 7 (by omega) (by omega), hi2 8 (by omega) (by omega), h7, h8, c1, d1]
  · exact d5 p (mem_3 (mem_3 (a5 k p (Nat.zero_le _) hk hp)))
  · exact d5 p (mem_3 (b5 k p (Nat.zero_le _) hk hp))
  · exact d5 p (c5 p hp)
theorem gc_R {I : Nat → Int32} {F : Nat → Nat → Int32} (hN : 200000 ≤ N) (hn : nm < 134217728) (h : hpR nk nm nid G l gg I F) (hv : vlR nk nm G l t gs fr gc F) (htt : t ≤ 65536) (hfr : fr ≤ 8192) (h29 : I 29 = nI t) (h22 : I 22 = nI fr) (h20 : ¬ I 20 = nI 0) (h21 : I 21 = nI 5) :
    ∃ (F1 F2 F' : Nat → Nat → Int32) (I1 I2 I' : Nat → Int32) (l' : List Nat), m_Model_markGlobals N I F = some (F1, I1) ∧ m_Model_markRun N I1 F1 = some (F2, I2) ∧ m_Model_slide N I2 F2 = some (F', I') ∧ hpR nk nm nid G l' gg I' F' ∧ vlR nk nm G l' t gs fr gc F' ∧ (∀ k, k ≠ 3 → k ≠ 8 → k ≠ 50 → k ≠ 51 → I' k = I k) ∧ (∀ k, k ≠ 0 → k ≠ 1 → k ≠ 2 → k ≠ 6 → k ≠ 23 → k ≠ 28 → F' k = F k) ∧ (∀ o, o ∈ l' ↔ rch G (rtA gg t gs fr gc) o) := by
  obtain ⟨hG, hsr, h3, ht, hh, hfree, hgk, hgF, h7, h8⟩ := h
  have hF0 : fxR nk nm nid G l (rch G (rtG gg)) := ⟨hG, hn, ht, fun q p i h1 h2 h3 h4 => rch_c q p i h1 h2 h3 h4⟩
  obtain ⟨F1, I1, dn1, a1, a2, a3, a4, a5, a6⟩ := markGlobals_R (N := N) (I := I) hN hF0 (fun k hk => ⟨hgk k (by omega), fun p hp => rch_r ⟨k, hk, hp⟩⟩) hh hgF hfree
  have hv' := hv
  obtain ⟨hv1, hv2⟩ := hv
  have hv1' : vlR nk nm G l t gs fr gc F1 := ⟨fun k hk => by rw [a2 27 (by omega), a2 28 (by omega)]; exact hv1 k hk, fun k hk => by rw [a2 23 (by omega)]; exact hv2 k hk⟩
  have hh1 : heR G l (F1 0) (F1 1) := by rw [a2 0 (by omega), a2 1 (by omega)]; exact hh
  obtain ⟨F2, I2, dn2, b1, b2, b3, b4, b5, b6, b7, b8, b9⟩ := markRun_R (N := N) (I := I1) (F := F1) hN hn hG ht hh1 hgk (by rw [a3 7 (by omega) (by omega)]; exact h7) (by rw [a3 8 (by omega) (by omega)]; exact h8) hv1' htt hfr (by rw [a3 29 (by omega) (by omega)]; exact h29) (by rw [a3 22 (by omega) (by omega)]; exact h22) (by rw [a3 20 (by omega) (by omega)]; exact h20) (by rw [a3 21 (by omega) (by omega)]; exact h21) (mst_P a4 (fun o ho => rch_mono (fun p hp => by
    obtain ⟨k, hk, hp⟩ := hp
    exact Or.inl ⟨k, by omega, hp⟩) ho)) a6
  have hs := sameF_t a2 b2
  have hi := sameI_t a3 b3
  have hR : ∀ p, rtA gg t gs fr gc p → p ∈ dn2 := by
    intro p hp
    rcases hp with ⟨k, hk, hp⟩ | ⟨k, hk, hp⟩ | ⟨k, hk, hp⟩
    · by_cases e : k = 2048
      · subst e; exact b9 p hp
      · exact b6 p (a5 k p (by omega) hp)
    · exact b7 k p hk hp
    · exact b8 k p hk hp
  have hv2' : vlR nk nm G l t gs fr gc F2 := ⟨fun k hk => by rw [hs 27 (by omega), hs 28 (by omega)]; exact hv1 k hk, fun k hk => by rw [hs 23 (by omega)]; exact hv2 k hk⟩
  obtain ⟨F3, I3, c1, c2, c3, c4, c5⟩ := slide_R (N := N) (I := I2) (F := F2) hN hn hG hsr (by rw [hi 3 (by omega) (by omega)]; exact h3) ht (by rw [hs 0 (by omega), hs 1 (by omega)]; exact hh) hgk (fun k hk => by rw [hs 5 (by omega), hs 6 (by omega)]; exact hgF k hk) (by rw [hi 7 (by omega) (by omega)]; exact h7) (by rw [hi 8 (by omega) (by omega)]; exact h8) hv2' htt hfr (by rw [hi 29 (by omega) (by omega)]; exact h29) (by rw [hi 22 (by omega) (by omega)]; exact h22) (by rw [hi 20 (by omega) (by omega)]; exact h20) (by rw [hi 21 (by omega) (by omega)]; exact h21) b4 b5 hR
  refine ⟨F1, F2, F3, I1, I2, I3, lf l dn2, a1, b1, c1, c2, c3, fun k k3 k8 k50 k51 => by rw [c4 k k3 k8, hi k k50 k51], fun k k0 k1 k2 k6 k23 k28 => by rw [c5 k k0 k1 k2 k6 k23 k28, hs k k2], fun o => ⟨fun ho => ?_, fun ho => ?_⟩⟩
  · exact (b4.2.1 o (by rw [List.append_nil]; exact (lf_mem.mp ho).2)).2
  · have h1 := cls_rch b5 hR ho
    exact lf_mem.mpr ⟨(b4.2.1 o (by rw [List.append_nil]; exact h1)).1, h1⟩
theorem hasRoom_R {I : Nat → Int32} {F : Nat → Nat → Int32} {n L : Nat} (hN : 200000 ≤ N) (hn : nm < 134217728) (h : hpR nk nm nid G l gg I F) (hv : vlR nk nm G l t gs fr gc F) (htt : t ≤ 65536) (hfr : fr ≤ 8192) (h29 : I 29 = nI t) (h22 : I 22 = nI fr) (h20 : ¬ I 20 = nI 0) (h21 : I 21 = nI 5) (h43 : I 43 = nI L) (hL : L ≤ 131072) (hnn : n ≤ 400000) :
    ∃ (F' : Nat → Nat → Int32) (I' : Nat → Int32) (l' : List Nat) (b : Int32), m_Model_hasRoom N I F (nI n) = some (b, F', I') ∧ hpR nk nm nid G l' gg I' F' ∧ vlR nk nm G l' t gs fr gc F' ∧ (∀ k, k ≠ 3 → k ≠ 8 → k ≠ 50 → k ≠ 51 → I' k = I k) ∧ (∀ k, k ≠ 0 → k ≠ 1 → k ≠ 2 → k ≠ 6 → k ≠ 23 → k ≠ 28 → F' k = F k) ∧ (b = nI 1 ∧ fits' G (rtA gg t gs fr gc) n L ∧ tot (gZ G) l' + n ≤ L ∨ b = nI 0 ∧ ¬ fits' G (rtA gg t gs fr gc) n L) := by
  have hv' := hv
  obtain ⟨hv1, hv2⟩ := hv'
  have h' := h
  obtain ⟨hG, hsr, h3, ht, hh, hfree, hgk, hgF, h7, h8⟩ := h'
  by_cases hfit : tot (gZ G) l + n ≤ L
  · refine ⟨F, I, l, nI 1, ?_, h, hv, fun _ _ _ _ _ => rfl, fun _ _ _ _ _ _ _ => rfl, Or.inl ⟨rfl, ?_, hfit⟩⟩
    · unfold m_Model_hasRoom
      simp (disch := omega) only [q_o, q_0, q_1, q_2, q_3, q_4, q_5, q_6, q_7, q_8, q_9, q_10, q_11, q_12, q_13, q_14, q_15, q_16, q_17, q_18, q_19, q_20, q_21, q_22, q_23, q_24, q_25, q_26, q_27, q_28, q_29, q_30, q_31, q_32, q_33, q_34, q_35, q_36, q_37, q_38, q_39, q_40, q_41, q_42, q_43, q_44, q_45, q_46, q_47, q_48, q_49, q_50, q_51, q_52, q_53, q_63, q_64, q_126, q_128, q_255, q_512, q_1024, q_1026, q_2000, q_2048, q_2049, q_4095, q_4096, q_8192, q_16383, q_65535, q_65536, q_69632, q_131072, q_132000, q_262144, q_300000, q_1000000, q_lt_t, q_lt_f, q_le_t, q_le_f, q_eq_t, q_eq_f, q_cl, q_add, q_mul, q_sub, q_nle_f, q_nle_t, q_nlt_f, q_nlt_t, q_neq_f, eq_self, q_n1, q_n2, q_m1, q_m1', q_m2, q_m21, q_m0, q_ml, upd_e, upd_n, updL_e, updL_n, updF_e, updF_n, let_d, tk_s, bind_s, or_false, false_or, and_true, true_and, if_true, if_false, ite_true, ite_false, reduceIte, not_true, not_false_iff, Nat.zero_add, Nat.add_zero, Nat.sub_zero, h43, h3]
    · intro m hm1 hm2
      have : tot (gZ G) m ≤ tot (gZ G) l := tot_sub hm1 (fun o ho => cls_rch (wf_cls hG) (fun p hp => by
        rcases hp with ⟨k, hk, hp⟩ | ⟨k, hk, hp⟩ | ⟨k, hk, hp⟩
        · have := hgk k hk; rw [hp] at this; exact this
        · have := (hv1 k hk).1; rw [hp] at this; exact this
        · have := (hv2 k hk).1; rw [hp] at this; exact this) (hm2 o ho))
      omega
  · obtain ⟨F1, F2, F3, I1, I2, I3, l', a1, a2, a3, a4, a5, a6, a7, a8⟩ := gc_R (N := N) hN hn h hv htt hfr h29 h22 h20 h21
    have hz3 := a4.2.2.1
    have hz4 := a4.2.2.2.1
    have hz43 : I3 43 = nI L := by rw [a6 43 (by omega) (by omega) (by omega) (by omega)]; exact h43
    by_cases hfit2 : tot (gZ G) l' + n ≤ L
    · refine ⟨F3, I3, l', nI 1, ?_, a4, a5, a6, a7, Or.inl ⟨rfl, ?_, hfit2⟩⟩
      · unfold m_Model_hasRoom
        simp (disch := omega) only [q_o, q_0, q_1, q_2, q_3, q_4, q_5, q_6, q_7, q_8, q_9, q_10, q_11, q_12, q_13, q_14, q_15, q_16, q_17, q_18, q_19, q_20, q_21, q_22, q_23, q_24, q_25, q_26, q_27, q_28, q_29, q_30, q_31, q_32, q_33, q_34, q_35, q_36, q_37, q_38, q_39, q_40, q_41, q_42, q_43, q_44, q_45, q_46, q_47, q_48, q_49, q_50, q_51, q_52, q_53, q_63, q_64, q_126, q_128, q_255, q_512, q_1024, q_1026, q_2000, q_2048, q_2049, q_4095, q_4096, q_8192, q_16383, q_65535, q_65536, q_69632, q_131072, q_132000, q_262144, q_300000, q_1000000, q_lt_t, q_lt_f, q_le_t, q_le_f, q_eq_t, q_eq_f, q_cl, q_add, q_mul, q_sub, q_nle_f, q_nle_t, q_nlt_f, q_nlt_t, q_neq_f, eq_self, q_n1, q_n2, q_m1, q_m1', q_m2, q_m21, q_m0, q_ml, upd_e, upd_n, updL_e, updL_n, updF_e, updF_n, let_d, tk_s, bind_s, or_false, false_or, and_true, true_and, if_true, if_false, ite_true, ite_false, reduceIte, not_true, not_false_iff, Nat.zero_add, Nat.add_zero, Nat.sub_zero, h43, h3, a1, a2, a3, hz3, hz43]
      · intro m hm1 hm2
        have : tot (gZ G) m ≤ tot (gZ G) l' := tot_sub hm1 (fun o ho => (a8 o).mpr (hm2 o ho))
        omega
    · refine ⟨F3, I3, l', nI 0, ?_, a4, a5, a6, a7, Or.inr ⟨rfl, ?_⟩⟩
      · unfold m_Model_hasRoom
        simp (disch := omega) only [q_o, q_0, q_1, q_2, q_3, q_4, q_5, q_6, q_7, q_8, q_9, q_10, q_11, q_12, q_13, q_14, q_15, q_16, q_17, q_18, q_19, q_20, q_21, q_22, q_23, q_24, q_25, q_26, q_27, q_28, q_29, q_30, q_31, q_32, q_33, q_34, q_35, q_36, q_37, q_38, q_39, q_40, q_41, q_42, q_43, q_44, q_45, q_46, q_47, q_48, q_49, q_50, q_51, q_52, q_53, q_63, q_64, q_126, q_128, q_255, q_512, q_1024, q_1026, q_2000, q_2048, q_2049, q_4095, q_4096, q_8192, q_16383, q_65535, q_65536, q_69632, q_131072, q_132000, q_262144, q_300000, q_1000000, q_lt_t, q_lt_f, q_le_t, q_le_f, q_eq_t, q_eq_f, q_cl, q_add, q_mul, q_sub, q_nle_f, q_nle_t, q_nlt_f, q_nlt_t, q_neq_f, eq_self, q_n1, q_n2, q_m1, q_m1', q_m2, q_m21, q_m0, q_ml, upd_e, upd_n, updL_e, updL_n, updF_e, updF_n, let_d, tk_s, bind_s, or_false, false_or, and_true, true_and, if_true, if_false, ite_true, ite_false, reduceIte, not_true, not_false_iff, Nat.zero_add, Nat.add_zero, Nat.sub_zero, h43, h3, a1, a2, a3, hz3, hz43]
      · intro hf
        have := hf l' a4.1.1 (fun o ho => (a8 o).mp ho)
        omega
end RF
