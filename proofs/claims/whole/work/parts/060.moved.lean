/-! The engine goes through its cells: one value moved -/
section MV
variable {G : Nat → GO} {l1 l2 : List Nat} {nk : Nat → Nat} {nm nid : Nat} {N : Nat}
theorem mv_copy {ζ : Type} {b a z nC nSp : Nat} {c : Nat → Int64} {w : Int64} {k : Int32 → (Nat → Int64) → Option ζ} (hw : nuW w = nI a) (ha : a + z ≤ nC) (hb : b + z ≤ nSp) (hC : nC ≤ 131072) (hS : nSp ≤ 131072) :
    ∀ (n i : Nat) (sp : Nat → Int64), i ≤ z → z - i < n → lm_Heap_moved_2 N (nI b) nC c nSp w (nI z) k n (nI i) sp = k (nI z) (fun j => if b + i ≤ j ∧ j < b + z then c (a + (j - b)) else sp j)
  | 0, i, sp, _, h => absurd h (Nat.not_lt_zero _)
  | n + 1, i, sp, hi, h => by
    rw [lm_Heap_moved_2]
    by_cases e : i = z
    · subst e
      simp (disch := omega) only [q_o, q_0, q_1, q_2, q_3, q_4, q_5, q_6, q_7, q_8, q_9, q_10, q_11, q_12, q_13, q_14, q_15, q_16, q_17, q_18, q_19, q_20, q_21, q_22, q_23, q_24, q_25, q_26, q_27, q_28, q_29, q_30, q_31, q_32, q_33, q_34, q_35, q_36, q_37, q_38, q_39, q_40, q_41, q_42, q_43, q_44, q_45, q_46, q_47, q_48, q_49, q_50, q_51, q_52, q_53, q_63, q_64, q_126, q_128, q_255, q_512, q_1024, q_1026, q_2000, q_2048, q_2049, q_4095, q_4096, q_8192, q_16383, q_65535, q_65536, q_69632, q_131072, q_132000, q_262144, q_300000, q_1000000, q_lt_t, q_lt_f, q_le_t, q_le_f, q_eq_t, q_eq_f, q_cl, q_add, q_mul, q_sub, q_nle_f, q_nle_t, q_nlt_f, q_nlt_t, q_neq_f, eq_self, q_n1, q_n2, q_m1, q_m1', q_m2, q_m21, q_m0, q_ml, upd_e, upd_n, updL_e, updL_n, updF_e, updF_n, let_d, tk_s, bind_s, or_false, false_or, and_true, true_and, if_true, if_false, ite_true, ite_false, reduceIte, not_true, not_false_iff, Nat.zero_add, Nat.add_zero, Nat.sub_zero]
      congr 1
      funext j
      rw [if_neg (by omega)]
    · simp (disch := omega) only [q_o, q_0, q_1, q_2, q_3, q_4, q_5, q_6, q_7, q_8, q_9, q_10, q_11, q_12, q_13, q_14, q_15, q_16, q_17, q_18, q_19, q_20, q_21, q_22, q_23, q_24, q_25, q_26, q_27, q_28, q_29, q_30, q_31, q_32, q_33, q_34, q_35, q_36, q_37, q_38, q_39, q_40, q_41, q_42, q_43, q_44, q_45, q_46, q_47, q_48, q_49, q_50, q_51, q_52, q_53, q_63, q_64, q_126, q_128, q_255, q_512, q_1024, q_1026, q_2000, q_2048, q_2049, q_4095, q_4096, q_8192, q_16383, q_65535, q_65536, q_69632, q_131072, q_132000, q_262144, q_300000, q_1000000, q_lt_t, q_lt_f, q_le_t, q_le_f, q_eq_t, q_eq_f, q_cl, q_add, q_mul, q_sub, q_nle_f, q_nle_t, q_nlt_f, q_nlt_t, q_neq_f, eq_self, q_n1, q_n2, q_m1, q_m1', q_m2, q_m21, q_m0, q_ml, upd_e, upd_n, updL_e, updL_n, updF_e, updF_n, let_d, tk_s, bind_s, or_false, false_or, and_true, true_and, if_true, if_false, ite_true, ite_false, reduceIte, not_true, not_false_iff, Nat.zero_add, Nat.add_zero, Nat.sub_zero, f_nu, hw]
      rw [mv_copy hw ha hb hC hS n (i + 1) _ (by omega) (by omega)]
      congr 1
      funext j
      by_cases e1 : b + (i + 1) ≤ j ∧ j < b + z
      · rw [if_pos e1, if_pos (by omega)]
      · rw [if_neg e1]
        by_cases e2 : j = b + i
        · rw [updL_e e2, if_pos (by omega), e2, show b + i - b = i by omega]
        · rw [updL_n e2, if_neg (by omega)]
/-- where the going through stands: s has been moved, all cells before x of the new row lead to new places -/
def chn (G : Nat → GO) (l1 l2 : List Nat) (c0 : Nat → Int64) (P : Nat → Prop) (c sp : Nat → Int64) (s : List Nat) (x : Nat) : Prop :=
  s.Nodup ∧ (∀ o, o ∈ s → o ∈ l2 ∧ P o) ∧
  (∀ o, o ∈ s → c (adr (gZ G) (l1 ++ l2) o) = lN ((tot (gZ G) l1 + adr (gZ G) s o) * 8)) ∧
  (∀ o, o ∈ l2 → o ∉ s → c (adr (gZ G) (l1 ++ l2) o) = hE G o) ∧
  (∀ o, o ∈ l2 → ∀ i, 1 ≤ i → i < gZ G o → c (adr (gZ G) (l1 ++ l2) o + i) = c0 (adr (gZ G) (l1 ++ l2) o + i)) ∧
  (∀ a, a < tot (gZ G) l1 → c a = c0 a) ∧
  (∀ o, o ∈ s → sp (tot (gZ G) l1 + adr (gZ G) s o) = hE G o ∧
    (∀ i, 1 ≤ i → i ≤ gNp G o → sp (tot (gZ G) l1 + adr (gZ G) s o + i) = if tot (gZ G) l1 + adr (gZ G) s o + i < x then wE G (l1 ++ s) (gP G o i) else wE G (l1 ++ l2) (gP G o i)) ∧
    (gK G o = 6 → ∀ j, j < (gC G o + 3) / 4 → sp (tot (gZ G) l1 + adr (gZ G) s o + 1 + j) = lN (w4 (gB G o) j))) ∧
  (∀ o, o ∈ s → ∀ i p, 1 ≤ i → i ≤ gNp G o → tot (gZ G) l1 + adr (gZ G) s o + i < x → gP G o i = vO p → p ∈ l1 ++ s)
theorem wE_l {l m : List Nat} {v : AV} (h : ∀ p, v = vO p → p ∈ l) : wE G (l ++ m) v = wE G l v := by
  rcases v with n | ⟨k, i⟩ | o
  · rfl
  · rfl
  · show obW _ _ = obW _ _
    rw [adr_l (h o rfl)]
theorem okO_K {nk : Nat → Nat} {nm : Nat} {G : Nat → GO} {o : Nat} (h : okO nk nm G o) : 2 ≤ gK G o ∧ gK G o < 8 := by
  rcases h with h | h | h | h | h | h <;> omega
/-- the size as the engine reads it from a head -/
theorem okO_Z {nk : Nat → Nat} {nm : Nat} {G : Nat → GO} {o : Nat} (h : okO nk nm G o) (hn : nm < 134217728) : gZ G o ≤ 16385 ∧ gC G o < 134217728 ∧ (gK G o ≠ 6 → gK G o ≠ 7 → gC G o ≤ 4095) ∧ (gK G o = 6 → gC G o ≤ 65535) := by
  have hk := okO_K h
  unfold gZ
  rcases h with h | h | h | h | h | ⟨h, k, h1, h2, h3, h4, h5⟩
  all_goals (refine ⟨?_, ?_, ?_, ?_⟩ <;> (try split) <;> (try split) <;> omega)
theorem nu_hE {nk : Nat → Nat} {nm : Nat} {G : Nat → GO} {o : Nat} (h : okO nk nm G o) (hn : nm < 134217728) : nuW (hE G o) = if gK G o = 6 then nI (gC G o) else gN G o := by
  have hz := okO_Z h hn
  have hk := okO_K h
  unfold hE
  split
  · rename_i e
    have h6 := hz.2.2.2 e
    unfold nuW
    exact (num_lN (by omega)).trans (by congr 1; omega)
  · exact num_hd hk.2 _ hz.2.1
theorem cn_hE {nk : Nat → Nat} {nm : Nat} {G : Nat → GO} {o : Nat} (h : okO nk nm G o) (hn : nm < 134217728) (h6 : gK G o ≠ 6) : cnW (hE G o) = nI (gC G o) := by
  have hz := okO_Z h hn
  have hk := okO_K h
  unfold hE
  rw [if_neg h6]
  exact cn_hd _ hk.2 hz.2.1
theorem q_div4 {n : Nat} (h : n < 2147483644) : nI (n + 3) / nI 4 = nI ((n + 3) / 4) := by
  apply Int32.toInt_inj.mp
  rw [Int32.toInt_div, nI_toInt (by omega), nI_toInt (by omega), nI_toInt (by omega)]
  have : (((n + 3 : Nat) : Int)).tdiv ((4 : Nat) : Int) = (((n + 3) / 4 : Nat) : Int) := rfl
  rw [this]
  apply Int.bmod_eq_of_le <;> omega
theorem mv_size {ζ : Type} {nk : Nat → Nat} {nm : Nat} {G : Nat → GO} {o : Nat} {w : Int64} {k : Int32 → Option ζ} (h : okO nk nm G o) (hn : nm < 134217728) (hw : kdW w = nI (gK G o)) : lm_Heap_moved_1 N w (hE G o) k = k (nI (gZ G o)) := by
  have hz := okO_Z h hn
  have hk := okO_K h
  have hnu := nu_hE h hn
  unfold lm_Heap_moved_1
  by_cases e6 : gK G o = 6
  · rw [if_pos e6] at hnu
    have h6 := hz.2.2.2 e6
    have eZ : gZ G o = 1 + (gC G o + 3) / 4 := by unfold gZ; rw [if_pos e6]
    simp (disch := omega) only [q_o, q_0, q_1, q_2, q_3, q_4, q_5, q_6, q_7, q_8, q_9, q_10, q_11, q_12, q_13, q_14, q_15, q_16, q_17, q_18, q_19, q_20, q_21, q_22, q_23, q_24, q_25, q_26, q_27, q_28, q_29, q_30, q_31, q_32, q_33, q_34, q_35, q_36, q_37, q_38, q_39, q_40, q_41, q_42, q_43, q_44, q_45, q_46, q_47, q_48, q_49, q_50, q_51, q_52, q_53, q_63, q_64, q_126, q_128, q_255, q_512, q_1024, q_1026, q_2000, q_2048, q_2049, q_4095, q_4096, q_8192, q_16383, q_65535, q_65536, q_69632, q_131072, q_132000, q_262144, q_300000, q_1000000, q_lt_t, q_lt_f, q_le_t, q_le_f, q_eq_t, q_eq_f, q_cl, q_add, q_mul, q_sub, q_nle_f, q_nle_t, q_nlt_f, q_nlt_t, q_neq_f, eq_self, q_n1, q_n2, q_m1, q_m1', q_m2, q_m21, q_m0, q_ml, upd_e, upd_n, updL_e, updL_n, updF_e, updF_n, let_d, tk_s, bind_s, or_false, false_or, and_true, true_and, if_true, if_false, ite_true, ite_false, reduceIte, not_true, not_false_iff, Nat.zero_add, Nat.add_zero, Nat.sub_zero, f_kd, f_nu, hw, hnu, e6, q_div4]
    rw [eZ]
  · by_cases e7 : gK G o = 7
    · have eZ : gZ G o = 2 := by unfold gZ; rw [if_neg e6, if_pos e7]
      simp (disch := omega) only [q_o, q_0, q_1, q_2, q_3, q_4, q_5, q_6, q_7, q_8, q_9, q_10, q_11, q_12, q_13, q_14, q_15, q_16, q_17, q_18, q_19, q_20, q_21, q_22, q_23, q_24, q_25, q_26, q_27, q_28, q_29, q_30, q_31, q_32, q_33, q_34, q_35, q_36, q_37, q_38, q_39, q_40, q_41, q_42, q_43, q_44, q_45, q_46, q_47, q_48, q_49, q_50, q_51, q_52, q_53, q_63, q_64, q_126, q_128, q_255, q_512, q_1024, q_1026, q_2000, q_2048, q_2049, q_4095, q_4096, q_8192, q_16383, q_65535, q_65536, q_69632, q_131072, q_132000, q_262144, q_300000, q_1000000, q_lt_t, q_lt_f, q_le_t, q_le_f, q_eq_t, q_eq_f, q_cl, q_add, q_mul, q_sub, q_nle_f, q_nle_t, q_nlt_f, q_nlt_t, q_neq_f, eq_self, q_n1, q_n2, q_m1, q_m1', q_m2, q_m21, q_m0, q_ml, upd_e, upd_n, updL_e, updL_n, updF_e, updF_n, let_d, tk_s, bind_s, or_false, false_or, and_true, true_and, if_true, if_false, ite_true, ite_false, reduceIte, not_true, not_false_iff, Nat.zero_add, Nat.add_zero, Nat.sub_zero, f_kd, hw, e7]
      rw [eZ]
    · have eZ : gZ G o = 1 + gC G o := by unfold gZ; rw [if_neg e6, if_neg e7]
      have hc := cn_hE h hn e6
      simp (disch := omega) only [q_o, q_0, q_1, q_2, q_3, q_4, q_5, q_6, q_7, q_8, q_9, q_10, q_11, q_12, q_13, q_14, q_15, q_16, q_17, q_18, q_19, q_20, q_21, q_22, q_23, q_24, q_25, q_26, q_27, q_28, q_29, q_30, q_31, q_32, q_33, q_34, q_35, q_36, q_37, q_38, q_39, q_40, q_41, q_42, q_43, q_44, q_45, q_46, q_47, q_48, q_49, q_50, q_51, q_52, q_53, q_63, q_64, q_126, q_128, q_255, q_512, q_1024, q_1026, q_2000, q_2048, q_2049, q_4095, q_4096, q_8192, q_16383, q_65535, q_65536, q_69632, q_131072, q_132000, q_262144, q_300000, q_1000000, q_lt_t, q_lt_f, q_le_t, q_le_f, q_eq_t, q_eq_f, q_cl, q_add, q_mul, q_sub, q_nle_f, q_nle_t, q_nlt_f, q_nlt_t, q_neq_f, eq_self, q_n1, q_n2, q_m1, q_m1', q_m2, q_m21, q_m0, q_ml, upd_e, upd_n, updL_e, updL_n, updF_e, updF_n, let_d, tk_s, bind_s, or_false, false_or, and_true, true_and, if_true, if_false, ite_true, ite_false, reduceIte, not_true, not_false_iff, Nat.zero_add, Nat.add_zero, Nat.sub_zero, f_kd, f_cn, hw, hc]
      rw [eZ]
end MV
