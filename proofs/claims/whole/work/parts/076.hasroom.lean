/-! The reference: is there room? -/
section RF
variable {G : Nat → GO} {l dn : List Nat} {nk : Nat → Nat} {nm nid : Nat} {N : Nat} {gg gs gc : Nat → AV} {t fr : Nat}
def srt (l : List Nat) : Prop := l.Pairwise (fun a b => a < b)
/-- the reference's cells and globals stand for the objects l of G and for gg -/
def hpR (nk : Nat → Nat) (nm nid : Nat) (G : Nat → GO) (l : List Nat) (gg : Nat → AV) (I : Nat → Int32) (F : Nat → Nat → Int32) : Prop :=
  wf nk nm nid G l ∧ srt l ∧ I 3 = nI (tot (gZ G) l) ∧ tot (gZ G) l ≤ 131072 ∧ heR G l (F 0) (F 1) ∧ (∀ a, a < 131072 → F 2 a = mI1) ∧
  (∀ k, k < 2049 → okV nk nm l (gg k)) ∧ (∀ k, k < 2048 → F 5 k = tR (gg k) ∧ F 6 k = vR G l (gg k)) ∧ I 7 = tR (gg 2048) ∧ I 8 = vR G l (gg 2048)
def vlR (nk : Nat → Nat) (nm : Nat) (G : Nat → GO) (l : List Nat) (t : Nat) (gs : Nat → AV) (fr : Nat) (gc : Nat → AV) (F : Nat → Nat → Int32) : Prop :=
  (∀ k, k < t → okV nk nm l (gs k) ∧ F 27 k = tR (gs k) ∧ F 28 k = vR G l (gs k)) ∧ (∀ k, k < fr → okV nk nm l (gc k) ∧ F 23 k = clR G l (gc k))
/-- n cells more have room within L -/
def fits' (G : Nat → GO) (R : Nat → Prop) (n L : Nat) : Prop := ∀ m : List Nat, m.Nodup → (∀ o, o ∈ m → rch G R o) → tot (gZ G) m + n ≤ L
theorem okV_dn {v : AV} (h : okV nk nm l v) (hd : ∀ p, v = vO p → p ∈ dn) : okV nk nm (lf l dn) v := by
  rcases v with n | ⟨k, j⟩ | q
  · exact h
  · exact h
  · exact lf_mem.mpr ⟨h, hd q rfl⟩
theorem wf_lf (h : wf nk nm nid G l) (hc : cls G dn) : wf nk nm nid G (lf l dn) := by
  refine ⟨lf_nodup h.1, fun o ho => ?_⟩
  obtain ⟨h1, h2⟩ := lf_mem.mp ho
  obtain ⟨w1, w2, w3, w4⟩ := h.2 o h1
  exact ⟨w1, w2, fun i hi hin => okV_dn (w3 i hi hin) (fun p hp => hc o h2 i p hi hin hp), w4⟩
theorem slide_R {P : Nat → Prop} {hd r : Int32} {I : Nat → Int32} {F : Nat → Nat → Int32} (hN : 200000 ≤ N) (hn : nm < 134217728) (hG : wf nk nm nid G l) (hsr : srt l) (h3 : I 3 = nI (tot (gZ G) l)) (ht : tot (gZ G) l ≤ 131072) (hh : heR G l (F 0) (F 1)) (hgk : ∀ k, k < 2049 → okV nk nm l (gg k)) (hgF : ∀ k, k < 2048 → F 5 k = tR (gg k) ∧ F 6 k = vR G l (gg k)) (h7 : I 7 = tR (gg 2048)) (h8 : I 8 = vR G l (gg 2048))
    (hv : vlR nk nm G l t gs fr gc F) (htt : t ≤ 65536) (hfr : fr ≤ 8192) (h29 : I 29 = nI t) (h22 : I 22 = nI fr) (h20 : ¬ I 20 = nI 0) (h21 : I 21 = nI 5) (hm : mst G l P (F 2) hd r dn []) (hc : cls G dn) (hR : ∀ p, rtA gg t gs fr gc p → p ∈ dn) :
    ∃ (F' : Nat → Nat → Int32) (I' : Nat → Int32), m_Model_slide N I F = some (F', I') ∧ hpR nk nm nid G (lf l dn) gg I' F' ∧ vlR nk nm G (lf l dn) t gs fr gc F' ∧ (∀ k, k ≠ 3 → k ≠ 8 → I' k = I k) ∧ (∀ k, k ≠ 0 → k ≠ 1 → k ≠ 2 → k ≠ 6 → k ≠ 23 → k ≠ 28 → F' k = F k) := by
  obtain ⟨hv1, hv2⟩ := hv
  have hdG : ∀ k p, k < 2049 → gg k = vO p → p ∈ dn := fun k p hk hp => hR p (Or.inl ⟨k, hk, hp⟩)
  obtain ⟨F1, s1, s2, s3⟩ := settle_R (N := N) hN hG hn ht h3 hh hm
  obtain ⟨F2, u1, u2, u3, u4⟩ := slide1_R (N := N) (I := I) (va := gg) (t := 0) ht (by omega) (fun k hk => ⟨hgk k (by omega), fun p hp => hdG k p (by omega) hp⟩) True.intro N 0 F1 (by omega) (by omega) s3 (fun k hk => by rw [s2 5 (by omega)]; exact (hgF k hk).1) (fun k _ hk => by rw [s2 6 (by omega)]; exact (hgF k hk).2)
  have st2 : stl G l dn l (F2 2) := by rw [u2 2 (by omega)]; exact s3
  obtain ⟨F3, v1, v2, v3, v4⟩ := slide3_R (N := N) (I := I) (va := gs) (t := t) ht htt (fun k hk => ⟨(hv1 k hk).1, fun p hp => hR p (Or.inr (Or.inl ⟨k, hk, hp⟩))⟩) ⟨h29, h20, h21⟩ N 0 F2 (by omega) (by omega) st2 (fun k hk => by rw [u2 27 (by omega), s2 27 (by omega)]; exact (hv1 k hk).2.1) (fun k _ hk => by rw [u2 28 (by omega), s2 28 (by omega)]; exact (hv1 k hk).2.2)
  have st3 : stl G l dn l (F3 2) := by rw [v2 2 (by omega)]; exact st2
  obtain ⟨F4, x1, x2, x3, x4⟩ := slide5_R (N := N) (I := I) (va := gc) (t := fr) ht hfr (fun k hk => ⟨(hv2 k hk).1, fun p hp => hR p (Or.inr (Or.inr ⟨k, hk, hp⟩))⟩) h22 h20 h21 N 0 F3 (by omega) (by omega) st3 (fun k _ hk => by rw [v2 23 (by omega), u2 23 (by omega), s2 23 (by omega)]; exact (hv2 k hk).2)
  have st4 : stl G l dn l (F4 2) := by rw [x2 2 (by omega)]; exact st3
  have e40 : F4 0 = F 0 := by rw [x2 0 (by omega), v2 0 (by omega), u2 0 (by omega), s2 0 (by omega)]
  have e41 : F4 1 = F 1 := by rw [x2 1 (by omega), v2 1 (by omega), u2 1 (by omega), s2 1 (by omega)]
  have hx0 : heX G l dn (tot (gZ G) []) (F4 0) (F4 1) := by
    rw [e40, e41]
    intro o ho
    obtain ⟨a1, a2, a3, a4⟩ := hh o ho
    refine ⟨a1, a2, fun i hi hin => ⟨(a3 i hi hin).1, ?_⟩, a4⟩
    rw [if_neg (fun h => Nat.not_lt_zero _ h.2)]
    exact (a3 i hi hin).2
  have hlen := tot_len (Z := gZ G) (l := l) (k := 1) (fun o _ => gZ_pos G o)
  obtain ⟨F5, y1, y2, y3⟩ := slide8_R (N := N) (I := upd I 8 (vR G (lf l dn) (gg 2048))) hN hG hn ht hc (by rw [upd_n (by omega)]; exact h3) N [] l F4 rfl (by omega) st4 hx0
  have st5 : stl G l dn l (F5 2) := by rw [y2 2 (by omega)]; exact st4
  have hm5 : mvS G l dn [] l (F5 0) (F5 1) (F5 2) := by
    refine ⟨fun o ho => (by cases ho), fun o ho => ?_, fun o ho => ⟨(st5.1 o ho).1, fun h => (st5.1 o ho).2.1 h ho⟩, st5.2⟩
    obtain ⟨a1, a2, a3, a4⟩ := y3 o ho
    refine ⟨a1, a2, fun hd => ⟨a1, a2, fun i hi hin => ⟨(a3 i hi hin).1, ?_⟩, a4⟩⟩
    have := adr_end (Z := gZ G) ho
    have := (np_lt hin hi).1
    rw [(a3 i hi hin).2, if_pos ⟨hd, by omega⟩]
  obtain ⟨F6, z1, z2, z3⟩ := slide11_R (N := N) (I := upd I 8 (vR G (lf l dn) (gg 2048))) hN hG hn ht (by rw [upd_n (by omega)]; exact h3) N [] l F5 rfl (by omega) hm5
  refine ⟨F6, upd (upd I 8 (vR G (lf l dn) (gg 2048))) 3 (nI (tot (gZ G) (lf l dn))), ?_, ?_, ?_, ?_, ?_⟩
  · have e0 : tot (gZ G) [] = 0 := rfl
    rw [e0] at y1 z1
    unfold m_Model_slide
    rcases tr_v st4 (hgk 2048 (by omega)) (fun p hp => hdG 2048 p (by omega) hp) with ⟨e1, o', e2, e3, e4, e5⟩ | ⟨e1, e2⟩
    · have hend' := adr_end (Z := gZ G) e3
      have hz' := gZ_pos G o'
      simp (disch := omega) only [q_o, q_0, q_1, q_2, q_3, q_4, q_5, q_6, q_7, q_8, q_9, q_10, q_11, q_12, q_13, q_14, q_15, q_16, q_17, q_18, q_19, q_20, q_21, q_22, q_23, q_24, q_25, q_26, q_27, q_28, q_29, q_30, q_31, q_32, q_33, q_34, q_35, q_36, q_37, q_38, q_39, q_40, q_41, q_42, q_43, q_44, q_45, q_46, q_47, q_48, q_49, q_50, q_51, q_52, q_53, q_63, q_64, q_126, q_128, q_255, q_512, q_1024, q_1026, q_2000, q_2048, q_2049, q_4095, q_4096, q_8192, q_16383, q_65535, q_65536, q_69632, q_131072, q_132000, q_262144, q_300000, q_1000000, q_lt_t, q_lt_f, q_le_t, q_le_f, q_eq_t, q_eq_f, q_cl, q_add, q_mul, q_sub, q_nle_f, q_nle_t, q_nlt_f, q_nlt_t, q_neq_f, eq_self, q_n1, q_n2, q_m1, q_m1', q_m2, q_m21, q_m0, q_ml, upd_e, upd_n, updL_e, updL_n, updF_e, updF_n, let_d, tk_s, bind_s, or_false, false_or, and_true, true_and, if_true, if_false, ite_true, ite_false, reduceIte, not_true, not_false_iff, Nat.zero_add, Nat.add_zero, Nat.sub_zero, s1, u1, v1, x1, lm_Model_slide_7, h7, h8, e1, e4, e5, y1, z1]
    · simp (disch := omega) only [q_o, q_0, q_1, q_2, q_3, q_4, q_5, q_6, q_7, q_8, q_9, q_10, q_11, q_12, q_13, q_14, q_15, q_16, q_17, q_18, q_19, q_20, q_21, q_22, q_23, q_24, q_25, q_26, q_27, q_28, q_29, q_30, q_31, q_32, q_33, q_34, q_35, q_36, q_37, q_38, q_39, q_40, q_41, q_42, q_43, q_44, q_45, q_46, q_47, q_48, q_49, q_50, q_51, q_52, q_53, q_63, q_64, q_126, q_128, q_255, q_512, q_1024, q_1026, q_2000, q_2048, q_2049, q_4095, q_4096, q_8192, q_16383, q_65535, q_65536, q_69632, q_131072, q_132000, q_262144, q_300000, q_1000000, q_lt_t, q_lt_f, q_le_t, q_le_f, q_eq_t, q_eq_f, q_cl, q_add, q_mul, q_sub, q_nle_f, q_nle_t, q_nlt_f, q_nlt_t, q_neq_f, eq_self, q_n1, q_n2, q_m1, q_m1', q_m2, q_m21, q_m0, q_ml, upd_e, upd_n, updL_e, updL_n, updF_e, updF_n, let_d, tk_s, bind_s, or_false, false_or, and_true, true_and, if_true, if_false, ite_true, ite_false, reduceIte, not_true, not_false_iff, Nat.zero_add, Nat.add_zero, Nat.sub_zero, s1, u1, v1, x1, lm_Model_slide_7, h7, h8, e1, e2, y1, z1]
  · obtain ⟨a1, a2, a3, a4⟩ := z3
    refine ⟨wf_lf hG hc, List.Pairwise.filter _ hsr, by rw [upd_e rfl], Nat.le_trans (lf_tot _ _) ht, fun o ho => a1 o (lf_mem.mp ho).1 (lf_mem.mp ho).2, fun x hx => a4 x hx (fun o ho => by cases ho), fun k hk => okV_dn (hgk k hk) (fun p hp => hdG k p hk hp), fun k hk => ⟨?_, ?_⟩, ?_, ?_⟩
    · rw [z2 5 (by omega), y2 5 (by omega), x2 5 (by omega), v2 5 (by omega), u2 5 (by omega), s2 5 (by omega)]
      exact (hgF k hk).1
    · rw [z2 6 (by omega), y2 6 (by omega), x2 6 (by omega), v2 6 (by omega)]
      exact u3 k (Nat.zero_le _) hk
    · rw [upd_n (by omega), upd_n (by omega)]
      exact h7
    · rw [upd_n (by omega), upd_e rfl]
  · refine ⟨fun k hk => ⟨okV_dn (hv1 k hk).1 (fun p hp => hR p (Or.inr (Or.inl ⟨k, hk, hp⟩))), ?_, ?_⟩, fun k hk => ⟨okV_dn (hv2 k hk).1 (fun p hp => hR p (Or.inr (Or.inr ⟨k, hk, hp⟩))), ?_⟩⟩
    · rw [z2 27 (by omega), y2 27 (by omega), x2 27 (by omega), v2 27 (by omega), u2 27 (by omega), s2 27 (by omega)]
      exact (hv1 k hk).2.1
    · rw [z2 28 (by omega), y2 28 (by omega), x2 28 (by omega)]
      exact v3 k (Nat.zero_le _) hk
    · rw [z2 23 (by omega), y2 23 (by omega)]
      exact x3 k (Nat.zero_le _) hk
  · intro k h3 h8
    rw [upd_n h3, upd_n h8]
  · intro k h0 h1 h2 h6 h23 h28
    rw [z2 k (by omega), y2 k h1, x2 k h23, v2 k h28, u2 k h6, s2 k h2]
end RF
