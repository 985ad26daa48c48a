/-! The reference: what is marked moves down -/
section RF
variable {G : Nat → GO} {l dn : List Nat} {nk : Nat → Nat} {nm nid : Nat} {N : Nat}
def blk (G : Nat → GO) (m : List Nat) (o a : Nat) (tg c : Nat → Int32) : Prop :=
  tg a = thR G o ∧ c a = chR G o ∧ (∀ i, 1 ≤ i → i ≤ gNp G o → tg (a + i) = tR (gP G o i) ∧ c (a + i) = vR G m (gP G o i)) ∧ (gK G o = 6 → ∀ j, j < (gC G o + 3) / 4 → c (a + 1 + j) = nI (w4R (gB G o) j))
theorem blk_mv {m : List Nat} {o a a' : Nat} {tg c tg' c' : Nat → Int32} (h : blk G m o a tg c) (h0 : ∀ i, i < gZ G o → tg' (a' + i) = tg (a + i) ∧ c' (a' + i) = c (a + i)) : blk G m o a' tg' c' := by
  obtain ⟨a1, a2, a3, a4⟩ := h
  have hz := gZ_pos G o
  have e0 := h0 0 (by omega)
  refine ⟨e0.1.trans a1, e0.2.trans a2, fun i hi hin => ?_, fun e6 j hj => ?_⟩
  · have e := h0 i (np_lt hin hi).1
    exact ⟨e.1.trans (a3 i hi hin).1, e.2.trans (a3 i hi hin).2⟩
  · have hz6 : gZ G o = 1 + (gC G o + 3) / 4 := by unfold gZ; rw [if_pos e6]
    have e := (h0 (1 + j) (by omega)).2
    rw [← Nat.add_assoc, ← Nat.add_assoc] at e
    rw [e]
    exact a4 e6 j hj
theorem slide12_R {F0 : Nat → Nat → Int32} {p q z : Nat} (hq : F0 2 p = nI q) (hqp : q ≤ p) (hp : p + z ≤ 131072) :
    ∀ (n i : Nat) (F : Nat → Nat → Int32), i ≤ z → z - i < n →
    ∃ (F' : Nat → Nat → Int32), (∀ (ζ : Type) (k : Int32 → (Nat → Nat → Int32) → Option ζ), lm_Model_slide_12 N (nI p) F0 (nI z) k n (nI i) F = k (nI z) F') ∧ (∀ k, k ≠ 0 → k ≠ 1 → F' k = F k) ∧ (∀ j, F' 0 j = if q + i ≤ j ∧ j < q + z then F 0 (p + (j - q)) else F 0 j) ∧ (∀ j, F' 1 j = if q + i ≤ j ∧ j < q + z then F 1 (p + (j - q)) else F 1 j)
  | 0, i, F, _, h => absurd h (Nat.not_lt_zero _)
  | n + 1, i, F, hi, h => by
    by_cases e : i = z
    · refine ⟨F, ?_, fun _ _ _ => rfl, fun j => by rw [if_neg (by omega)], fun j => by rw [if_neg (by omega)]⟩
      intro ζ k
      rw [lm_Model_slide_12]
      simp (disch := omega) only [q_o, q_0, q_1, q_2, q_3, q_4, q_5, q_6, q_7, q_8, q_9, q_10, q_11, q_12, q_13, q_14, q_15, q_16, q_17, q_18, q_19, q_20, q_21, q_22, q_23, q_24, q_25, q_26, q_27, q_28, q_29, q_30, q_31, q_32, q_33, q_34, q_35, q_36, q_37, q_38, q_39, q_40, q_41, q_42, q_43, q_44, q_45, q_46, q_47, q_48, q_49, q_50, q_51, q_52, q_53, q_63, q_64, q_126, q_128, q_255, q_512, q_1024, q_1026, q_2000, q_2048, q_2049, q_4095, q_4096, q_8192, q_16383, q_65535, q_65536, q_69632, q_131072, q_132000, q_262144, q_300000, q_1000000, q_lt_t, q_lt_f, q_le_t, q_le_f, q_eq_t, q_eq_f, q_cl, q_add, q_mul, q_sub, q_nle_f, q_nle_t, q_nlt_f, q_nlt_t, q_neq_f, eq_self, q_n1, q_n2, q_m1, q_m1', q_m2, q_m21, q_m0, q_ml, upd_e, upd_n, updL_e, updL_n, updF_e, updF_n, let_d, tk_s, bind_s, or_false, false_or, and_true, true_and, if_true, if_false, ite_true, ite_false, reduceIte, not_true, not_false_iff, Nat.zero_add, Nat.add_zero, Nat.sub_zero]
      rw [e]
    · obtain ⟨F1, r1, r2, r3, r4⟩ := slide12_R hq hqp hp n (i + 1) (updF (updF F 0 (upd (F 0) (q + i) (F 0 (p + i)))) 1 (upd (F 1) (q + i) (F 1 (p + i)))) (by omega) (by omega)
      refine ⟨F1, ?_, ?_, ?_, ?_⟩
      · intro ζ k
        rw [lm_Model_slide_12]
        simp (disch := omega) only [q_o, q_0, q_1, q_2, q_3, q_4, q_5, q_6, q_7, q_8, q_9, q_10, q_11, q_12, q_13, q_14, q_15, q_16, q_17, q_18, q_19, q_20, q_21, q_22, q_23, q_24, q_25, q_26, q_27, q_28, q_29, q_30, q_31, q_32, q_33, q_34, q_35, q_36, q_37, q_38, q_39, q_40, q_41, q_42, q_43, q_44, q_45, q_46, q_47, q_48, q_49, q_50, q_51, q_52, q_53, q_63, q_64, q_126, q_128, q_255, q_512, q_1024, q_1026, q_2000, q_2048, q_2049, q_4095, q_4096, q_8192, q_16383, q_65535, q_65536, q_69632, q_131072, q_132000, q_262144, q_300000, q_1000000, q_lt_t, q_lt_f, q_le_t, q_le_f, q_eq_t, q_eq_f, q_cl, q_add, q_mul, q_sub, q_nle_f, q_nle_t, q_nlt_f, q_nlt_t, q_neq_f, eq_self, q_n1, q_n2, q_m1, q_m1', q_m2, q_m21, q_m0, q_ml, upd_e, upd_n, updL_e, updL_n, updF_e, updF_n, let_d, tk_s, bind_s, or_false, false_or, and_true, true_and, if_true, if_false, ite_true, ite_false, reduceIte, not_true, not_false_iff, Nat.zero_add, Nat.add_zero, Nat.sub_zero, hq, r1]
      · intro k h0 h1
        rw [r2 k h0 h1, updF_n h1, updF_n h0]
      · intro j
        rw [r3 j, updF_n (by omega), updF_e rfl]
        by_cases e1 : q + (i + 1) ≤ j ∧ j < q + z
        · rw [if_pos e1, if_pos (by omega), upd_n (by omega)]
        · rw [if_neg e1]
          by_cases e2 : j = q + i
          · rw [upd_e e2, if_pos (by omega), e2, show q + i - q = i by omega]
          · rw [upd_n e2, if_neg (by omega)]
      · intro j
        rw [r4 j, updF_e rfl]
        by_cases e1 : q + (i + 1) ≤ j ∧ j < q + z
        · rw [if_pos e1, if_pos (by omega), upd_n (by omega)]
        · rw [if_neg e1]
          by_cases e2 : j = q + i
          · rw [upd_e e2, if_pos (by omega), e2, show q + i - q = i by omega]
          · rw [upd_n e2, if_neg (by omega)]
def mvS (G : Nat → GO) (l dn a b : List Nat) (tg c C : Nat → Int32) : Prop :=
  (∀ o, o ∈ a → o ∈ dn → blk G (lf l dn) o (adr (gZ G) (lf l dn) o) tg c) ∧
  (∀ o, o ∈ b → tg (adr (gZ G) l o) = thR G o ∧ c (adr (gZ G) l o) = chR G o ∧ (o ∈ dn → blk G (lf l dn) o (adr (gZ G) l o) tg c)) ∧
  (∀ o, o ∈ b → (o ∉ dn → C (adr (gZ G) l o) = mI1) ∧ (o ∈ dn → C (adr (gZ G) l o) = nI (adr (gZ G) (lf l dn) o))) ∧
  (∀ x, x < 131072 → (∀ o, o ∈ b → x ≠ adr (gZ G) l o) → C x = mI1)
theorem slide11_R {I : Nat → Int32} (hN : 200000 ≤ N) (hG : wf nk nm nid G l) (hn : nm < 134217728) (ht : tot (gZ G) l ≤ 131072) (h3 : I 3 = nI (tot (gZ G) l)) :
    ∀ (n : Nat) (a b : List Nat) (F : Nat → Nat → Int32), l = a ++ b → b.length < n → mvS G l dn a b (F 0) (F 1) (F 2) →
    ∃ (F' : Nat → Nat → Int32), (∀ (ζ : Type) (k : Int32 → (Nat → Nat → Int32) → Option ζ), lm_Model_slide_11 N I k n (nI (tot (gZ G) a)) F = k (nI (tot (gZ G) l)) F') ∧ (∀ k, 2 < k → F' k = F k) ∧ mvS G l dn l [] (F' 0) (F' 1) (F' 2)
  | 0, a, b, F, _, h, _ => absurd h (Nat.not_lt_zero _)
  | n + 1, a, [], F, hl, h, hm => by
    rw [List.append_nil] at hl
    subst hl
    refine ⟨F, ?_, fun _ _ => rfl, hm⟩
    intro ζ k
    rw [lm_Model_slide_11]
    simp (disch := omega) only [q_o, q_0, q_1, q_2, q_3, q_4, q_5, q_6, q_7, q_8, q_9, q_10, q_11, q_12, q_13, q_14, q_15, q_16, q_17, q_18, q_19, q_20, q_21, q_22, q_23, q_24, q_25, q_26, q_27, q_28, q_29, q_30, q_31, q_32, q_33, q_34, q_35, q_36, q_37, q_38, q_39, q_40, q_41, q_42, q_43, q_44, q_45, q_46, q_47, q_48, q_49, q_50, q_51, q_52, q_53, q_63, q_64, q_126, q_128, q_255, q_512, q_1024, q_1026, q_2000, q_2048, q_2049, q_4095, q_4096, q_8192, q_16383, q_65535, q_65536, q_69632, q_131072, q_132000, q_262144, q_300000, q_1000000, q_lt_t, q_lt_f, q_le_t, q_le_f, q_eq_t, q_eq_f, q_cl, q_add, q_mul, q_sub, q_nle_f, q_nle_t, q_nlt_f, q_nlt_t, q_neq_f, eq_self, q_n1, q_n2, q_m1, q_m1', q_m2, q_m21, q_m0, q_ml, upd_e, upd_n, updL_e, updL_n, updF_e, updF_n, let_d, tk_s, bind_s, or_false, false_or, and_true, true_and, if_true, if_false, ite_true, ite_false, reduceIte, not_true, not_false_iff, Nat.zero_add, Nat.add_zero, Nat.sub_zero, h3]
  | n + 1, a, o :: b, F, hl, h, hm => by
    have hol : o ∈ l := by rw [hl]; exact List.mem_append_right _ (List.mem_cons_self ..)
    have hnd := List.nodup_append.mp (hl ▸ hG.1)
    have hoa : o ∉ a := fun h2 => hnd.2.2 o h2 o (List.mem_cons_self ..) rfl
    have hob : o ∉ b := (List.nodup_cons.mp hnd.2.1).1
    have ea : adr (gZ G) l o = tot (gZ G) a := by
      rw [hl, adr_r hoa]
      simp [adr]
    have hend := adr_end (Z := gZ G) hol
    have hz := gZ_pos G o
    have hZ := gZ_pos G
    have hO := (hG.2 o hol).2.1
    have hZ2 := (okO_Z hO hn).1
    have hl2 : l = (a ++ [o]) ++ b := by rw [hl]; simp
    have et : tot (gZ G) (a ++ [o]) = tot (gZ G) a + gZ G o := by rw [tot_append]; rfl
    rw [List.length_cons] at h
    obtain ⟨m1, m2, m3, m4⟩ := hm
    obtain ⟨b0, b1, b2⟩ := m2 o (List.mem_cons_self ..)
    obtain ⟨c1, c2⟩ := m3 o (List.mem_cons_self ..)
    have hsz := sizeAt_R (N := N) (I := I) (F := F) (a := adr (gZ G) l o) hO hn (by omega) b0 b1
    have hbl : ∀ q, q ∈ b → q ∈ l := fun q hq => by rw [hl]; exact List.mem_append_right _ (List.mem_cons_of_mem _ hq)
    have hbge : ∀ q, q ∈ b → tot (gZ G) a + gZ G o ≤ adr (gZ G) l q := by
      intro q hq
      have hqa : q ∉ a ++ [o] := by
        intro h2
        rcases mem_snoc.mp h2 with h2 | h2
        · exact hnd.2.2 q h2 q (List.mem_cons_of_mem _ hq) rfl
        · exact hob (h2 ▸ hq)
      rw [hl2, adr_r hqa, et]
      omega
    have hC2 : ∀ (C : Nat → Int32), C = upd (F 2) (adr (gZ G) l o) mI1 → (∀ q, q ∈ b → (q ∉ dn → C (adr (gZ G) l q) = mI1) ∧ (q ∈ dn → C (adr (gZ G) l q) = nI (adr (gZ G) (lf l dn) q))) ∧ (∀ x, x < 131072 → (∀ q, q ∈ b → x ≠ adr (gZ G) l q) → C x = mI1) := by
      intro C hC
      subst hC
      refine ⟨fun q hq => ?_, fun x hx hx2 => ?_⟩
      · rw [upd_n (fun e => by have := hbge q hq; omega)]
        exact m3 q (List.mem_cons_of_mem _ hq)
      · by_cases ex : x = adr (gZ G) l o
        · rw [upd_e ex]
        · rw [upd_n ex]
          refine m4 x hx (fun q hq => ?_)
          rcases List.mem_cons.mp hq with rfl | hq
          · exact ex
          · exact hx2 q hq
    by_cases hd : o ∈ dn
    · have hC := c2 hd
      have eq : adr (gZ G) (lf l dn) o = tot (gZ G) (lf a dn) := by
        have := lf_adr (Z := gZ G) (hl ▸ hG.1) hd
        rw [hl, this]
      have hle := lf_tot (dn := dn) (gZ G) a
      rw [eq] at hC
      obtain ⟨F1, r1, r2, r3, r4⟩ := slide12_R (N := N) (F0 := F) (p := adr (gZ G) l o) (q := tot (gZ G) (lf a dn)) (z := gZ G o) hC (by omega) (by omega) N 0 (updF F 2 (upd (F 2) (adr (gZ G) l o) mI1)) (by omega) (by omega)
      have hm1 : mvS G l dn (a ++ [o]) b (F1 0) (F1 1) (F1 2) := by
        have e2 : F1 2 = upd (F 2) (adr (gZ G) l o) mI1 := by rw [r2 2 (by omega) (by omega), updF_e rfl]
        obtain ⟨x1, x2⟩ := hC2 _ e2
        refine ⟨fun q hq hqd => ?_, fun q hq => ?_, x1, x2⟩
        · rcases mem_snoc.mp hq with hq | rfl
          · have hql : q ∈ lf a dn := lf_mem.mpr ⟨hq, hqd⟩
            have e3 : adr (gZ G) (lf l dn) q = adr (gZ G) (lf a dn) q := by rw [hl, lf_app, adr_l hql]
            have hqe := adr_end (Z := gZ G) hql
            refine blk_mv (m1 q hq hqd) (fun i hi => ?_)
            rw [r3, r4, if_neg (by omega), if_neg (by omega), updF_n (by omega), updF_n (by omega)]
            exact ⟨rfl, rfl⟩
          · refine blk_mv (b2 hqd) (fun i hi => ?_)
            rw [r3, r4, if_pos (by omega), if_pos (by omega), updF_n (by omega), updF_n (by omega), eq, show tot (gZ G) (lf a dn) + i - tot (gZ G) (lf a dn) = i by omega]
            exact ⟨rfl, rfl⟩
        · have hge := hbge q hq
          obtain ⟨y0, y1, y2⟩ := m2 q (List.mem_cons_of_mem _ hq)
          refine ⟨?_, ?_, fun hqd => blk_mv (y2 hqd) (fun i hi => ?_)⟩
          · rw [r3, if_neg (by omega), updF_n (by omega)]; exact y0
          · rw [r4, if_neg (by omega), updF_n (by omega)]; exact y1
          · rw [r3, r4, if_neg (by omega), if_neg (by omega), updF_n (by omega), updF_n (by omega)]
            exact ⟨rfl, rfl⟩
      obtain ⟨F2, s1, s2, s3⟩ := slide11_R (I := I) hN hG hn ht h3 n (a ++ [o]) b F1 hl2 (by omega) hm1
      refine ⟨F2, ?_, fun k hk => by rw [s2 k hk, r2 k (by omega) (by omega), updF_n (by omega)], s3⟩
      intro ζ k
      rw [ea] at hsz r1
      rw [et] at s1
      rw [lm_Model_slide_11]
      simp (disch := omega) only [q_o, q_0, q_1, q_2, q_3, q_4, q_5, q_6, q_7, q_8, q_9, q_10, q_11, q_12, q_13, q_14, q_15, q_16, q_17, q_18, q_19, q_20, q_21, q_22, q_23, q_24, q_25, q_26, q_27, q_28, q_29, q_30, q_31, q_32, q_33, q_34, q_35, q_36, q_37, q_38, q_39, q_40, q_41, q_42, q_43, q_44, q_45, q_46, q_47, q_48, q_49, q_50, q_51, q_52, q_53, q_63, q_64, q_126, q_128, q_255, q_512, q_1024, q_1026, q_2000, q_2048, q_2049, q_4095, q_4096, q_8192, q_16383, q_65535, q_65536, q_69632, q_131072, q_132000, q_262144, q_300000, q_1000000, q_lt_t, q_lt_f, q_le_t, q_le_f, q_eq_t, q_eq_f, q_cl, q_add, q_mul, q_sub, q_nle_f, q_nle_t, q_nlt_f, q_nlt_t, q_neq_f, eq_self, q_n1, q_n2, q_m1, q_m1', q_m2, q_m21, q_m0, q_ml, upd_e, upd_n, updL_e, updL_n, updF_e, updF_n, let_d, tk_s, bind_s, or_false, false_or, and_true, true_and, if_true, if_false, ite_true, ite_false, reduceIte, not_true, not_false_iff, Nat.zero_add, Nat.add_zero, Nat.sub_zero, h3, hsz, r1, s1]
    · have hC := c1 hd
      have hm1 : mvS G l dn (a ++ [o]) b (updF F 2 (upd (F 2) (adr (gZ G) l o) mI1) 0) (updF F 2 (upd (F 2) (adr (gZ G) l o) mI1) 1) (updF F 2 (upd (F 2) (adr (gZ G) l o) mI1) 2) := by
        rw [updF_n (by omega), updF_n (by omega), updF_e rfl]
        obtain ⟨x1, x2⟩ := hC2 _ rfl
        refine ⟨fun q hq hqd => ?_, fun q hq => m2 q (List.mem_cons_of_mem _ hq), x1, x2⟩
        rcases mem_snoc.mp hq with hq | rfl
        · exact m1 q hq hqd
        · exact absurd hqd hd
      obtain ⟨F2, s1, s2, s3⟩ := slide11_R (I := I) hN hG hn ht h3 n (a ++ [o]) b _ hl2 (by omega) hm1
      refine ⟨F2, ?_, fun k hk => by rw [s2 k hk, updF_n (by omega)], s3⟩
      intro ζ k
      rw [ea] at hsz hC s1
      rw [et] at s1
      obtain ⟨N', rfl⟩ : ∃ N', N = N' + 1 := ⟨N - 1, by omega⟩
      rw [lm_Model_slide_11]
      simp (disch := omega) only [q_o, q_0, q_1, q_2, q_3, q_4, q_5, q_6, q_7, q_8, q_9, q_10, q_11, q_12, q_13, q_14, q_15, q_16, q_17, q_18, q_19, q_20, q_21, q_22, q_23, q_24, q_25, q_26, q_27, q_28, q_29, q_30, q_31, q_32, q_33, q_34, q_35, q_36, q_37, q_38, q_39, q_40, q_41, q_42, q_43, q_44, q_45, q_46, q_47, q_48, q_49, q_50, q_51, q_52, q_53, q_63, q_64, q_126, q_128, q_255, q_512, q_1024, q_1026, q_2000, q_2048, q_2049, q_4095, q_4096, q_8192, q_16383, q_65535, q_65536, q_69632, q_131072, q_132000, q_262144, q_300000, q_1000000, q_lt_t, q_lt_f, q_le_t, q_le_f, q_eq_t, q_eq_f, q_cl, q_add, q_mul, q_sub, q_nle_f, q_nle_t, q_nlt_f, q_nlt_t, q_neq_f, eq_self, q_n1, q_n2, q_m1, q_m1', q_m2, q_m21, q_m0, q_ml, upd_e, upd_n, updL_e, updL_n, updF_e, updF_n, let_d, tk_s, bind_s, or_false, false_or, and_true, true_and, if_true, if_false, ite_true, ite_false, reduceIte, not_true, not_false_iff, Nat.zero_add, Nat.add_zero, Nat.sub_zero, h3, hsz, lm_Model_slide_12, hC, s1]
end RF
