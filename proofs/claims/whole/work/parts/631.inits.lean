/-! The constructors, evaluated -/
section IN
variable {N : Nat}
set_option maxRecDepth 20000 in
set_option maxHeartbeats 4000000 in
theorem ini_E : m_Engine_init N = some ((128, (fun _ => 0), 0, 64, (fun _ => 0), 16, (fun _ => 0), 0, 0, 0, 64, (fun _ => 0), 0, 128, (fun _ => 0), 0, 16, (fun _ => 0), 16, (fun _ => 0), 16, (fun _ => 0), 16, (fun _ => 0), 0, 16, (fun _ => 0), 16, (fun _ => 0), 16, (fun _ => 0), 16, (fun _ => 0), 0, 2049, (fun _ => 0), 0, 512, (fun _ => 0), 0, 0, (fun _ => 0), 0, 0, 0, 65536, 1000000, 0, 0, 1000000, 0, 0, 2048, (fun _ => 0), 0, 0, (fun _ => 0), 0, 0, 0, (fun _ => 0), 16, (fun _ => 0), 0, -1, 0, 0, 0, 0, 0, 2000, 0), 29, 5221) := by
  unfold m_Engine_init m_Stacks_init m_Program_init m_Output_init m_Heap_init m_Machine_init m_Objects_init m_Equality_init m_Numbers_init m_Strings_init
  simp (disch := omega) only [q_o, q_0, q_1, q_2, q_3, q_4, q_5, q_6, q_7, q_8, q_9, q_10, q_11, q_12, q_13, q_14, q_15, q_16, q_17, q_18, q_19, q_20, q_21, q_22, q_23, q_24, q_25, q_26, q_27, q_28, q_29, q_30, q_31, q_32, q_33, q_34, q_35, q_36, q_37, q_38, q_39, q_40, q_41, q_42, q_43, q_44, q_45, q_46, q_47, q_48, q_49, q_50, q_51, q_52, q_53, q_63, q_64, q_126, q_128, q_255, q_512, q_1024, q_1026, q_2000, q_2048, q_2049, q_4095, q_4096, q_8192, q_16383, q_65535, q_65536, q_69632, q_131072, q_132000, q_262144, q_300000, q_1000000, q_lt_t, q_lt_f, q_le_t, q_le_f, q_eq_t, q_eq_f, q_cl, q_add, q_mul, q_sub, q_nle_f, q_nle_t, q_nlt_f, q_nlt_t, q_neq_f, eq_self, q_n1, q_n2, q_m1, q_m1', q_m2, q_m21, q_m0, q_ml, upd_e, upd_n, updL_e, updL_n, updF_e, updF_n, let_d, tk_s, bind_s, or_false, false_or, and_true, true_and, if_true, if_false, ite_true, ite_false, reduceIte, not_true, not_false_iff, Nat.zero_add, Nat.add_zero, Nat.sub_zero, Nat.reduceAdd]
set_option maxRecDepth 20000 in
set_option maxHeartbeats 4000000 in
theorem ini_R (hN : 400000 ≤ N) : ∃ f' : Nat → Int32, (∀ a, a < 131072 → f' a = mI1) ∧ m_Model_init N = some ((131072, (fun _ => 0), 131072, (fun _ => 0), 131072, f', 0, 0, 2048, (fun _ => 0), 2048, (fun _ => 0), 0, 0, 131072, (fun _ => 0), 131072, (fun _ => 0), 0, 2048, (fun _ => 0), 2048, (fun _ => 0), 262144, (fun _ => 0), 0, 69632, (fun _ => 0), 1026, (fun _ => 0), 0, 0, 0, 0, 0, 8192, (fun _ => 0), 8192, (fun _ => 0), 8192, (fun _ => 0), 8192, (fun _ => 0), 65536, (fun _ => 0), 65536, (fun _ => 0), 0, 0, 1024, (fun _ => 0), 1024, (fun _ => 0), 1024, (fun _ => 0), 1024, (fun _ => 0), 0, 0, 0, 0, 0, 0, 65536, (fun _ => 0), 0, 65536, 1000000, 2000, 132000, (fun _ => 0), 0, 65536, (fun _ => 0), 0, 0, 0, 0, 0), 25, 1427362) := by
  obtain ⟨f', r1, r2, r3⟩ := iniL_R (N := N) N 0 (fun _ => nI 0) (by omega) (by omega)
  refine ⟨f', fun a ha => r2 a (Nat.zero_le _) ha, ?_⟩
  have h1024_1 : ¬ ((1024 : Int32) < 0 ∨ 134217728 < (1024 : Int32).toNatClampNeg) := by decide
  have h1026_1 : ¬ ((1026 : Int32) < 0 ∨ 134217728 < (1026 : Int32).toNatClampNeg) := by decide
  have h2048_1 : ¬ ((2048 : Int32) < 0 ∨ 134217728 < (2048 : Int32).toNatClampNeg) := by decide
  have h8192_1 : ¬ ((8192 : Int32) < 0 ∨ 134217728 < (8192 : Int32).toNatClampNeg) := by decide
  have h65536_1 : ¬ ((65536 : Int32) < 0 ∨ 134217728 < (65536 : Int32).toNatClampNeg) := by decide
  have h65536_5 : ¬ ((65536 : Int32) < 0 ∨ 536870912 < (65536 : Int32).toNatClampNeg) := by decide
  have h69632_5 : ¬ ((69632 : Int32) < 0 ∨ 536870912 < (69632 : Int32).toNatClampNeg) := by decide
  have h131072_1 : ¬ ((131072 : Int32) < 0 ∨ 134217728 < (131072 : Int32).toNatClampNeg) := by decide
  have h132000_1 : ¬ ((132000 : Int32) < 0 ∨ 134217728 < (132000 : Int32).toNatClampNeg) := by decide
  have h262144_1 : ¬ ((262144 : Int32) < 0 ∨ 134217728 < (262144 : Int32).toNatClampNeg) := by decide
  have c1024 : (1024 : Int32).toNatClampNeg = 1024 := by decide
  have c1026 : (1026 : Int32).toNatClampNeg = 1026 := by decide
  have c2048 : (2048 : Int32).toNatClampNeg = 2048 := by decide
  have c8192 : (8192 : Int32).toNatClampNeg = 8192 := by decide
  have c65536 : (65536 : Int32).toNatClampNeg = 65536 := by decide
  have c69632 : (69632 : Int32).toNatClampNeg = 69632 := by decide
  have c131072 : (131072 : Int32).toNatClampNeg = 131072 := by decide
  have c132000 : (132000 : Int32).toNatClampNeg = 132000 := by decide
  have c262144 : (262144 : Int32).toNatClampNeg = 262144 := by decide
  unfold m_Model_init
  rw [if_neg h131072_1, if_neg h131072_1, if_neg h131072_1, if_neg h2048_1, if_neg h2048_1, if_neg h131072_1, if_neg h131072_1, if_neg h2048_1, if_neg h2048_1, if_neg h262144_1, if_neg h69632_5, if_neg h1026_1, if_neg h8192_1, if_neg h8192_1, if_neg h8192_1, if_neg h8192_1, if_neg h65536_1, if_neg h65536_1, if_neg h1024_1, if_neg h1024_1, if_neg h1024_1, if_neg h1024_1, if_neg h65536_5, if_neg h132000_1, if_neg h65536_1]
  rw [show lm_Model_init_1 N _ N (0 : Int32) (fun _ => 0) = _ from r1 _ _]
  simp only [tk_s, c1024, c1026, c2048, c8192, c65536, c69632, c131072, c132000, c262144, Nat.reduceAdd]
end IN
