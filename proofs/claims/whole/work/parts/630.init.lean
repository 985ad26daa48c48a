/-! The beginning -/
section IN
variable {N : Nat}
theorem iniL_R : ∀ (n i : Nat) (f : Nat → Int32), i ≤ 131072 → 131072 - i < n → ∃ f', (∀ (α : Type) (k : Int32 → (Nat → Int32) → Option (α × Nat × Nat)), lm_Model_init_1 N k n (nI i) f = k (nI 131072) f') ∧ (∀ a, i ≤ a → a < 131072 → f' a = mI1) ∧ (∀ a, a < i → f' a = f a)
  | 0, i, f, _, h => absurd h (Nat.not_lt_zero _)
  | n + 1, i, f, hi, h => by
    by_cases e : i = 131072
    · refine ⟨f, ?_, fun a h1 h2 => absurd h2 (by omega), fun _ _ => rfl⟩
      intro α k
      rw [lm_Model_init_1]
      simp (disch := omega) only [q_o, q_0, q_1, q_2, q_3, q_4, q_5, q_6, q_7, q_8, q_9, q_10, q_11, q_12, q_13, q_14, q_15, q_16, q_17, q_18, q_19, q_20, q_21, q_22, q_23, q_24, q_25, q_26, q_27, q_28, q_29, q_30, q_31, q_32, q_33, q_34, q_35, q_36, q_37, q_38, q_39, q_40, q_41, q_42, q_43, q_44, q_45, q_46, q_47, q_48, q_49, q_50, q_51, q_52, q_53, q_63, q_64, q_126, q_128, q_255, q_512, q_1024, q_1026, q_2000, q_2048, q_2049, q_4095, q_4096, q_8192, q_16383, q_65535, q_65536, q_69632, q_131072, q_132000, q_262144, q_300000, q_1000000, q_lt_t, q_lt_f, q_le_t, q_le_f, q_eq_t, q_eq_f, q_cl, q_add, q_mul, q_sub, q_nle_f, q_nle_t, q_nlt_f, q_nlt_t, q_neq_f, eq_self, q_n1, q_n2, q_m1, q_m1', q_m2, q_m21, q_m0, q_ml, upd_e, upd_n, updL_e, updL_n, updF_e, updF_n, let_d, tk_s, bind_s, or_false, false_or, and_true, true_and, if_true, if_false, ite_true, ite_false, reduceIte, not_true, not_false_iff, Nat.zero_add, Nat.add_zero, Nat.sub_zero]
      rw [e]
    · obtain ⟨f1, r1, r2, r3⟩ := iniL_R n (i + 1) (upd f i mI1) (by omega) (by omega)
      refine ⟨f1, ?_, fun a h1 h2 => ?_, fun a ha => ?_⟩
      · intro α k
        rw [lm_Model_init_1]
        simp (disch := omega) only [q_o, q_0, q_1, q_2, q_3, q_4, q_5, q_6, q_7, q_8, q_9, q_10, q_11, q_12, q_13, q_14, q_15, q_16, q_17, q_18, q_19, q_20, q_21, q_22, q_23, q_24, q_25, q_26, q_27, q_28, q_29, q_30, q_31, q_32, q_33, q_34, q_35, q_36, q_37, q_38, q_39, q_40, q_41, q_42, q_43, q_44, q_45, q_46, q_47, q_48, q_49, q_50, q_51, q_52, q_53, q_63, q_64, q_126, q_128, q_255, q_512, q_1024, q_1026, q_2000, q_2048, q_2049, q_4095, q_4096, q_8192, q_16383, q_65535, q_65536, q_69632, q_131072, q_132000, q_262144, q_300000, q_1000000, q_lt_t, q_lt_f, q_le_t, q_le_f, q_eq_t, q_eq_f, q_cl, q_add, q_mul, q_sub, q_nle_f, q_nle_t, q_nlt_f, q_nlt_t, q_neq_f, eq_self, q_n1, q_n2, q_m1, q_m1', q_m2, q_m21, q_m0, q_ml, upd_e, upd_n, updL_e, updL_n, updF_e, updF_n, let_d, tk_s, bind_s, or_false, false_or, and_true, true_and, if_true, if_false, ite_true, ite_false, reduceIte, not_true, not_false_iff, Nat.zero_add, Nat.add_zero, Nat.sub_zero, r1]
      · by_cases ea : a = i
        · rw [ea, r3 i (by omega), upd_e rfl]
        · exact r2 a (by omega) h2
      · rw [r3 a (by omega), upd_n (by omega)]
end IN
