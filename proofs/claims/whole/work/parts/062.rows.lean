/-! The rows that lead to cells: gone through -/
section MV
variable {G : Nat → GO} {l1 l2 : List Nat} {nk : Nat → Nat} {nm nid : Nat} {N : Nat}
/-- what is fixed while the engine goes through its cells -/
def fxd (nk : Nat → Nat) (nm nid : Nat) (G : Nat → GO) (l1 l2 : List Nat) (c0 : Nat → Int64) (P : Nat → Prop) (nC nSp : Nat) : Prop :=
  wf nk nm nid G (l1 ++ l2) ∧ nm < 134217728 ∧ tot (gZ G) (l1 ++ l2) ≤ nC ∧ nC ≤ 131072 ∧ nC ≤ nSp ∧ nSp ≤ 131072 ∧ heE G (l1 ++ l2) c0 ∧ (∀ q p i, P q → q ∈ l1 ++ l2 → 1 ≤ i → i ≤ gNp G q → gP G q i = vO p → P p)
theorem wE_2 {s e : List Nat} {v : AV} (h : ∀ p, v = vO p → p ∈ l1 ++ s) : wE G (l1 ++ (s ++ e)) v = wE G (l1 ++ s) v := by
  rw [← List.append_assoc]
  exact wE_l h
theorem mem_2 {s e : List Nat} {p : Nat} (h : p ∈ l1 ++ s) : p ∈ l1 ++ (s ++ e) := by
  rw [← List.append_assoc]
  exact List.mem_append_left _ h
theorem row10 {c0 : Nat → Int64} {P : Nat → Prop} {x nC nSp nR e : Nat} {va : Nat → AV} (hN : 200000 ≤ N) (hF : fxd nk nm nid G l1 l2 c0 P nC nSp) (he : e ≤ nR) (hR : nR ≤ 65536) :
    ∀ (n i : Nat) (c sp f : Nat → Int64) (s : List Nat), i ≤ e → e - i < n → chn G l1 l2 c0 P c sp s x → x ≤ tot (gZ G) l1 + tot (gZ G) s →
    (∀ j, i ≤ j → j < e → f j = wE G (l1 ++ l2) (va j) ∧ okV nk nm (l1 ++ l2) (va j) ∧ (∀ p, va j = vO p → p ∈ l2 → P p)) →
    ∃ (c' sp' f' : Nat → Int64) (t : List Nat), (∀ (H_globalsUsed : Int32) (H_used : Int32) (H_old : Int32) (H_oldLeadsToNew : Int32) (H_limit : Int32) (H_every : Int32) (H_fresh : Int32) (H_made : Int32) (H_madeLimit : Int32) (H_reachedFromGlobals : Int32) (H_reachedInAll : Int32) (H_keptGlobalsUsed : Int32) (H_kept : Int32), ∀ (α : Type) (k : Int32 → (Nat → Int64) → (Nat → Int64) → (Nat → Int64) → Int32 → Option (α × Nat × Nat)), lm_Heap_gather_10 N H_globalsUsed H_used H_old H_oldLeadsToNew H_limit H_every H_fresh H_made H_madeLimit H_keptGlobalsUsed H_kept nR nC (nI (tot (gZ G) l1)) nSp H_reachedFromGlobals H_reachedInAll (nI e) k n (nI i) c sp f (nI (tot (gZ G) l1 + tot (gZ G) s)) = k (nI e) c' sp' f' (nI (tot (gZ G) l1 + tot (gZ G) (s ++ t)))) ∧
      chn G l1 l2 c0 P c' sp' (s ++ t) x ∧ (∀ j, i ≤ j → j < e → f' j = wE G (l1 ++ (s ++ t)) (va j) ∧ (∀ p, va j = vO p → p ∈ l1 ++ (s ++ t))) ∧ (∀ j, ¬ (i ≤ j ∧ j < e) → f' j = f j)
  | 0, i, c, sp, f, s, _, h, _, _, _ => absurd h (Nat.not_lt_zero _)
  | n + 1, i, c, sp, f, s, hi, h, hc, hx, hf => by
    by_cases ei : i = e
    · subst ei
      refine ⟨c, sp, f, [], ?_, by rw [List.append_nil]; exact hc, fun j h1 h2 => absurd h2 (by omega), fun j _ => rfl⟩
      intros
      rw [lm_Heap_gather_10, List.append_nil]
      simp (disch := omega) only [q_o, q_0, q_1, q_2, q_3, q_4, q_5, q_6, q_7, q_8, q_9, q_10, q_11, q_12, q_13, q_14, q_15, q_16, q_17, q_18, q_19, q_20, q_21, q_22, q_23, q_24, q_25, q_26, q_27, q_28, q_29, q_30, q_31, q_32, q_33, q_34, q_35, q_36, q_37, q_38, q_39, q_40, q_41, q_42, q_43, q_44, q_45, q_46, q_47, q_48, q_49, q_50, q_51, q_52, q_53, q_63, q_64, q_126, q_128, q_255, q_512, q_1024, q_1026, q_2000, q_2048, q_2049, q_4095, q_4096, q_8192, q_16383, q_65535, q_65536, q_69632, q_131072, q_132000, q_262144, q_300000, q_1000000, q_lt_t, q_lt_f, q_le_t, q_le_f, q_eq_t, q_eq_f, q_cl, q_add, q_mul, q_sub, q_nle_f, q_nle_t, q_nlt_f, q_nlt_t, q_neq_f, eq_self, q_n1, q_n2, q_m1, q_m1', q_m2, q_m21, q_m0, q_ml, upd_e, upd_n, updL_e, updL_n, updF_e, updF_n, let_d, tk_s, bind_s, or_false, false_or, and_true, true_and, if_true, if_false, ite_true, ite_false, reduceIte, not_true, not_false_iff, Nat.zero_add, Nat.add_zero, Nat.sub_zero]
    · obtain ⟨f1, f2, f3⟩ := hf i (Nat.le_refl _) (by omega)
      obtain ⟨c1, sp1, e1, m1, m2, m3⟩ := mv_step (N := N) hN hF.1 hF.2.1 hF.2.2.1 hF.2.2.2.1 hF.2.2.2.2.1 hF.2.2.2.2.2.1 hF.2.2.2.2.2.2.1 hc hx f2 f3
      have hx1 : x ≤ tot (gZ G) l1 + tot (gZ G) (s ++ e1) := by rw [tot_append]; omega
      obtain ⟨c2, sp2, g2, e2, r1, r2, r3, r4⟩ := row10 hN hF he hR n (i + 1) c1 sp1 (vp_updL f i (wE G (l1 ++ (s ++ e1)) (va i))) (s ++ e1) (by omega) (by omega) m2 hx1 (fun j h1 h2 => by
        rw [updL_n (by omega)]
        exact hf j (by omega) h2)
      refine ⟨c2, sp2, g2, e1 ++ e2, ?_, by rw [← List.append_assoc]; exact r2, fun j h1 h2 => ?_, fun j hj => ?_⟩
      · intros
        rw [lm_Heap_gather_10]
        simp (disch := omega) only [q_o, q_0, q_1, q_2, q_3, q_4, q_5, q_6, q_7, q_8, q_9, q_10, q_11, q_12, q_13, q_14, q_15, q_16, q_17, q_18, q_19, q_20, q_21, q_22, q_23, q_24, q_25, q_26, q_27, q_28, q_29, q_30, q_31, q_32, q_33, q_34, q_35, q_36, q_37, q_38, q_39, q_40, q_41, q_42, q_43, q_44, q_45, q_46, q_47, q_48, q_49, q_50, q_51, q_52, q_53, q_63, q_64, q_126, q_128, q_255, q_512, q_1024, q_1026, q_2000, q_2048, q_2049, q_4095, q_4096, q_8192, q_16383, q_65535, q_65536, q_69632, q_131072, q_132000, q_262144, q_300000, q_1000000, q_lt_t, q_lt_f, q_le_t, q_le_f, q_eq_t, q_eq_f, q_cl, q_add, q_mul, q_sub, q_nle_f, q_nle_t, q_nlt_f, q_nlt_t, q_neq_f, eq_self, q_n1, q_n2, q_m1, q_m1', q_m2, q_m21, q_m0, q_ml, upd_e, upd_n, updL_e, updL_n, updF_e, updF_n, let_d, tk_s, bind_s, or_false, false_or, and_true, true_and, if_true, if_false, ite_true, ite_false, reduceIte, not_true, not_false_iff, Nat.zero_add, Nat.add_zero, Nat.sub_zero, f1, m1, r1, List.append_assoc]
      · rw [← List.append_assoc s e1 e2]
        by_cases ej : j = i
        · subst ej
          rw [r4 j (by omega), updL_e rfl, wE_2 m3]
          exact ⟨rfl, fun p hp => mem_2 (m3 p hp)⟩
        · exact r3 j (by omega) h2
      · rw [r4 j (by omega), updL_n (by omega)]
theorem row7 {c0 : Nat → Int64} {P : Nat → Prop} {x nC nSp nR e : Nat} {va : Nat → AV} (hN : 200000 ≤ N) (hF : fxd nk nm nid G l1 l2 c0 P nC nSp) (he : e ≤ nR) (hR : nR ≤ 65536) :
    ∀ (n i : Nat) (c sp f : Nat → Int64) (s : List Nat), i ≤ e → e - i < n → chn G l1 l2 c0 P c sp s x → x ≤ tot (gZ G) l1 + tot (gZ G) s →
    (∀ j, i ≤ j → j < e → f j = wE G (l1 ++ l2) (va j) ∧ okV nk nm (l1 ++ l2) (va j) ∧ (∀ p, va j = vO p → p ∈ l2 → P p)) →
    ∃ (c' sp' f' : Nat → Int64) (t : List Nat), (∀ (H_globalsUsed : Int32) (H_used : Int32) (H_old : Int32) (H_oldLeadsToNew : Int32) (H_limit : Int32) (H_every : Int32) (H_fresh : Int32) (H_made : Int32) (H_madeLimit : Int32) (H_reachedFromGlobals : Int32) (H_reachedInAll : Int32) (H_keptGlobalsUsed : Int32) (H_kept : Int32), ∀ (α : Type) (k : Int32 → (Nat → Int64) → (Nat → Int64) → (Nat → Int64) → Int32 → Option (α × Nat × Nat)), lm_Heap_gather_7 N H_globalsUsed H_used H_old H_oldLeadsToNew H_limit H_every H_fresh H_made H_madeLimit H_keptGlobalsUsed H_kept nR nC (nI (tot (gZ G) l1)) nSp H_reachedFromGlobals H_reachedInAll (nI e) k n (nI i) c sp f (nI (tot (gZ G) l1 + tot (gZ G) s)) = k (nI e) c' sp' f' (nI (tot (gZ G) l1 + tot (gZ G) (s ++ t)))) ∧
      chn G l1 l2 c0 P c' sp' (s ++ t) x ∧ (∀ j, i ≤ j → j < e → f' j = wE G (l1 ++ (s ++ t)) (va j) ∧ (∀ p, va j = vO p → p ∈ l1 ++ (s ++ t))) ∧ (∀ j, ¬ (i ≤ j ∧ j < e) → f' j = f j)
  | 0, i, c, sp, f, s, _, h, _, _, _ => absurd h (Nat.not_lt_zero _)
  | n + 1, i, c, sp, f, s, hi, h, hc, hx, hf => by
    by_cases ei : i = e
    · subst ei
      refine ⟨c, sp, f, [], ?_, by rw [List.append_nil]; exact hc, fun j h1 h2 => absurd h2 (by omega), fun j _ => rfl⟩
      intros
      rw [lm_Heap_gather_7, List.append_nil]
      simp (disch := omega) only [q_o, q_0, q_1, q_2, q_3, q_4, q_5, q_6, q_7, q_8, q_9, q_10, q_11, q_12, q_13, q_14, q_15, q_16, q_17, q_18, q_19, q_20, q_21, q_22, q_23, q_24, q_25, q_26, q_27, q_28, q_29, q_30, q_31, q_32, q_33, q_34, q_35, q_36, q_37, q_38, q_39, q_40, q_41, q_42, q_43, q_44, q_45, q_46, q_47, q_48, q_49, q_50, q_51, q_52, q_53, q_63, q_64, q_126, q_128, q_255, q_512, q_1024, q_1026, q_2000, q_2048, q_2049, q_4095, q_4096, q_8192, q_16383, q_65535, q_65536, q_69632, q_131072, q_132000, q_262144, q_300000, q_1000000, q_lt_t, q_lt_f, q_le_t, q_le_f, q_eq_t, q_eq_f, q_cl, q_add, q_mul, q_sub, q_nle_f, q_nle_t, q_nlt_f, q_nlt_t, q_neq_f, eq_self, q_n1, q_n2, q_m1, q_m1', q_m2, q_m21, q_m0, q_ml, upd_e, upd_n, updL_e, updL_n, updF_e, updF_n, let_d, tk_s, bind_s, or_false, false_or, and_true, true_and, if_true, if_false, ite_true, ite_false, reduceIte, not_true, not_false_iff, Nat.zero_add, Nat.add_zero, Nat.sub_zero]
    · obtain ⟨f1, f2, f3⟩ := hf i (Nat.le_refl _) (by omega)
      obtain ⟨c1, sp1, e1, m1, m2, m3⟩ := mv_step (N := N) hN hF.1 hF.2.1 hF.2.2.1 hF.2.2.2.1 hF.2.2.2.2.1 hF.2.2.2.2.2.1 hF.2.2.2.2.2.2.1 hc hx f2 f3
      have hx1 : x ≤ tot (gZ G) l1 + tot (gZ G) (s ++ e1) := by rw [tot_append]; omega
      obtain ⟨c2, sp2, g2, e2, r1, r2, r3, r4⟩ := row7 hN hF he hR n (i + 1) c1 sp1 (vp_updL f i (wE G (l1 ++ (s ++ e1)) (va i))) (s ++ e1) (by omega) (by omega) m2 hx1 (fun j h1 h2 => by
        rw [updL_n (by omega)]
        exact hf j (by omega) h2)
      refine ⟨c2, sp2, g2, e1 ++ e2, ?_, by rw [← List.append_assoc]; exact r2, fun j h1 h2 => ?_, fun j hj => ?_⟩
      · intros
        rw [lm_Heap_gather_7]
        simp (disch := omega) only [q_o, q_0, q_1, q_2, q_3, q_4, q_5, q_6, q_7, q_8, q_9, q_10, q_11, q_12, q_13, q_14, q_15, q_16, q_17, q_18, q_19, q_20, q_21, q_22, q_23, q_24, q_25, q_26, q_27, q_28, q_29, q_30, q_31, q_32, q_33, q_34, q_35, q_36, q_37, q_38, q_39, q_40, q_41, q_42, q_43, q_44, q_45, q_46, q_47, q_48, q_49, q_50, q_51, q_52, q_53, q_63, q_64, q_126, q_128, q_255, q_512, q_1024, q_1026, q_2000, q_2048, q_2049, q_4095, q_4096, q_8192, q_16383, q_65535, q_65536, q_69632, q_131072, q_132000, q_262144, q_300000, q_1000000, q_lt_t, q_lt_f, q_le_t, q_le_f, q_eq_t, q_eq_f, q_cl, q_add, q_mul, q_sub, q_nle_f, q_nle_t, q_nlt_f, q_nlt_t, q_neq_f, eq_self, q_n1, q_n2, q_m1, q_m1', q_m2, q_m21, q_m0, q_ml, upd_e, upd_n, updL_e, updL_n, updF_e, updF_n, let_d, tk_s, bind_s, or_false, false_or, and_true, true_and, if_true, if_false, ite_true, ite_false, reduceIte, not_true, not_false_iff, Nat.zero_add, Nat.add_zero, Nat.sub_zero, f1, m1, r1, List.append_assoc]
      · rw [← List.append_assoc s e1 e2]
        by_cases ej : j = i
        · subst ej
          rw [r4 j (by omega), updL_e rfl, wE_2 m3]
          exact ⟨rfl, fun p hp => mem_2 (m3 p hp)⟩
        · exact r3 j (by omega) h2
      · rw [r4 j (by omega), updL_n (by omega)]
theorem row13 {c0 : Nat → Int64} {P : Nat → Prop} {x nC nSp nR e : Nat} {va : Nat → AV} (hN : 200000 ≤ N) (hF : fxd nk nm nid G l1 l2 c0 P nC nSp) (he : e ≤ nR) (hR : nR ≤ 65536) :
    ∀ (n i : Nat) (c sp f : Nat → Int64) (s : List Nat), i ≤ e → e - i < n → chn G l1 l2 c0 P c sp s x → x ≤ tot (gZ G) l1 + tot (gZ G) s →
    (∀ j, i ≤ j → j < e → f j = wE G (l1 ++ l2) (va j) ∧ okV nk nm (l1 ++ l2) (va j) ∧ (∀ p, va j = vO p → p ∈ l2 → P p)) →
    ∃ (c' sp' f' : Nat → Int64) (t : List Nat), (∀ (H_globalsUsed : Int32) (H_used : Int32) (H_old : Int32) (H_oldLeadsToNew : Int32) (H_limit : Int32) (H_every : Int32) (H_fresh : Int32) (H_made : Int32) (H_madeLimit : Int32) (H_reachedFromGlobals : Int32) (H_reachedInAll : Int32) (H_keptGlobalsUsed : Int32) (H_kept : Int32), ∀ (α : Type) (k : Int32 → (Nat → Int64) → (Nat → Int64) → (Nat → Int64) → Int32 → Option (α × Nat × Nat)), lm_Heap_gather_13 N H_globalsUsed H_used H_old H_oldLeadsToNew H_limit H_every H_fresh H_made H_madeLimit H_keptGlobalsUsed H_kept nR nC (nI (tot (gZ G) l1)) nSp H_reachedFromGlobals H_reachedInAll (nI e) k n (nI i) c f sp (nI (tot (gZ G) l1 + tot (gZ G) s)) = k (nI e) c' f' sp' (nI (tot (gZ G) l1 + tot (gZ G) (s ++ t)))) ∧
      chn G l1 l2 c0 P c' sp' (s ++ t) x ∧ (∀ j, i ≤ j → j < e → f' j = wE G (l1 ++ (s ++ t)) (va j) ∧ (∀ p, va j = vO p → p ∈ l1 ++ (s ++ t))) ∧ (∀ j, ¬ (i ≤ j ∧ j < e) → f' j = f j)
  | 0, i, c, sp, f, s, _, h, _, _, _ => absurd h (Nat.not_lt_zero _)
  | n + 1, i, c, sp, f, s, hi, h, hc, hx, hf => by
    by_cases ei : i = e
    · subst ei
      refine ⟨c, sp, f, [], ?_, by rw [List.append_nil]; exact hc, fun j h1 h2 => absurd h2 (by omega), fun j _ => rfl⟩
      intros
      rw [lm_Heap_gather_13, List.append_nil]
      simp (disch := omega) only [q_o, q_0, q_1, q_2, q_3, q_4, q_5, q_6, q_7, q_8, q_9, q_10, q_11, q_12, q_13, q_14, q_15, q_16, q_17, q_18, q_19, q_20, q_21, q_22, q_23, q_24, q_25, q_26, q_27, q_28, q_29, q_30, q_31, q_32, q_33, q_34, q_35, q_36, q_37, q_38, q_39, q_40, q_41, q_42, q_43, q_44, q_45, q_46, q_47, q_48, q_49, q_50, q_51, q_52, q_53, q_63, q_64, q_126, q_128, q_255, q_512, q_1024, q_1026, q_2000, q_2048, q_2049, q_4095, q_4096, q_8192, q_16383, q_65535, q_65536, q_69632, q_131072, q_132000, q_262144, q_300000, q_1000000, q_lt_t, q_lt_f, q_le_t, q_le_f, q_eq_t, q_eq_f, q_cl, q_add, q_mul, q_sub, q_nle_f, q_nle_t, q_nlt_f, q_nlt_t, q_neq_f, eq_self, q_n1, q_n2, q_m1, q_m1', q_m2, q_m21, q_m0, q_ml, upd_e, upd_n, updL_e, updL_n, updF_e, updF_n, let_d, tk_s, bind_s, or_false, false_or, and_true, true_and, if_true, if_false, ite_true, ite_false, reduceIte, not_true, not_false_iff, Nat.zero_add, Nat.add_zero, Nat.sub_zero]
    · obtain ⟨f1, f2, f3⟩ := hf i (Nat.le_refl _) (by omega)
      obtain ⟨c1, sp1, e1, m1, m2, m3⟩ := mv_step (N := N) hN hF.1 hF.2.1 hF.2.2.1 hF.2.2.2.1 hF.2.2.2.2.1 hF.2.2.2.2.2.1 hF.2.2.2.2.2.2.1 hc hx f2 f3
      have hx1 : x ≤ tot (gZ G) l1 + tot (gZ G) (s ++ e1) := by rw [tot_append]; omega
      obtain ⟨c2, sp2, g2, e2, r1, r2, r3, r4⟩ := row13 hN hF he hR n (i + 1) c1 sp1 (vp_updL f i (wE G (l1 ++ (s ++ e1)) (va i))) (s ++ e1) (by omega) (by omega) m2 hx1 (fun j h1 h2 => by
        rw [updL_n (by omega)]
        exact hf j (by omega) h2)
      refine ⟨c2, sp2, g2, e1 ++ e2, ?_, by rw [← List.append_assoc]; exact r2, fun j h1 h2 => ?_, fun j hj => ?_⟩
      · intros
        rw [lm_Heap_gather_13]
        simp (disch := omega) only [q_o, q_0, q_1, q_2, q_3, q_4, q_5, q_6, q_7, q_8, q_9, q_10, q_11, q_12, q_13, q_14, q_15, q_16, q_17, q_18, q_19, q_20, q_21, q_22, q_23, q_24, q_25, q_26, q_27, q_28, q_29, q_30, q_31, q_32, q_33, q_34, q_35, q_36, q_37, q_38, q_39, q_40, q_41, q_42, q_43, q_44, q_45, q_46, q_47, q_48, q_49, q_50, q_51, q_52, q_53, q_63, q_64, q_126, q_128, q_255, q_512, q_1024, q_1026, q_2000, q_2048, q_2049, q_4095, q_4096, q_8192, q_16383, q_65535, q_65536, q_69632, q_131072, q_132000, q_262144, q_300000, q_1000000, q_lt_t, q_lt_f, q_le_t, q_le_f, q_eq_t, q_eq_f, q_cl, q_add, q_mul, q_sub, q_nle_f, q_nle_t, q_nlt_f, q_nlt_t, q_neq_f, eq_self, q_n1, q_n2, q_m1, q_m1', q_m2, q_m21, q_m0, q_ml, upd_e, upd_n, updL_e, updL_n, updF_e, updF_n, let_d, tk_s, bind_s, or_false, false_or, and_true, true_and, if_true, if_false, ite_true, ite_false, reduceIte, not_true, not_false_iff, Nat.zero_add, Nat.add_zero, Nat.sub_zero, f1, m1, r1, List.append_assoc]
      · rw [← List.append_assoc s e1 e2]
        by_cases ej : j = i
        · subst ej
          rw [r4 j (by omega), updL_e rfl, wE_2 m3]
          exact ⟨rfl, fun p hp => mem_2 (m3 p hp)⟩
        · exact r3 j (by omega) h2
      · rw [r4 j (by omega), updL_n (by omega)]
/-- a new object's parts: the cells from i to b + z of the new row -/
theorem scan16 {c0 : Nat → Int64} {P : Nat → Prop} {nC nSp : Nat} (hN : 200000 ≤ N) (hF : fxd nk nm nid G l1 l2 c0 P nC nSp) {o : Nat} {d t0 : List Nat} (h6 : gK G o ≠ 6) :
    ∀ (n i : Nat) (c sp : Nat → Int64) (s : List Nat), i ≤ gZ G o → 1 ≤ i → gZ G o - i < n → s = d ++ (o :: t0) → chn G l1 l2 c0 P c sp s (tot (gZ G) l1 + tot (gZ G) d + i) →
    ∃ (c' sp' : Nat → Int64) (t : List Nat), (∀ (H_globalsUsed : Int32) (H_used : Int32) (H_old : Int32) (H_oldLeadsToNew : Int32) (H_limit : Int32) (H_every : Int32) (H_fresh : Int32) (H_made : Int32) (H_madeLimit : Int32) (H_reachedFromGlobals : Int32) (H_reachedInAll : Int32) (H_keptGlobalsUsed : Int32) (H_kept : Int32), ∀ (α : Type) (k : Int32 → (Nat → Int64) → (Nat → Int64) → Int32 → Option (α × Nat × Nat)), lm_Heap_gather_16 N H_globalsUsed H_used H_old H_oldLeadsToNew H_limit H_every H_fresh H_made H_madeLimit H_keptGlobalsUsed H_kept nC (nI (tot (gZ G) l1)) nSp H_reachedFromGlobals H_reachedInAll (nI (tot (gZ G) l1 + tot (gZ G) d)) (nI (gZ G o)) k n (nI (tot (gZ G) l1 + tot (gZ G) d + i)) c sp (nI (tot (gZ G) l1 + tot (gZ G) s)) = k (nI (tot (gZ G) l1 + tot (gZ G) d + gZ G o)) c' sp' (nI (tot (gZ G) l1 + tot (gZ G) (s ++ t)))) ∧
      chn G l1 l2 c0 P c' sp' (s ++ t) (tot (gZ G) l1 + tot (gZ G) d + gZ G o)
  | 0, i, c, sp, s, _, _, h, _, _ => absurd h (Nat.not_lt_zero _)
  | n + 1, i, c, sp, s, hi, hi1, h, hs, hc => by
    have hst : tot (gZ G) s ≤ tot (gZ G) l2 := tot_sub hc.1 (fun q hq => (hc.2.1 q hq).1)
    have htA := tot_append (gZ G) l1 l2
    have h3 := hF.2.2.1
    have h4 := hF.2.2.2.1
    have h5 := hF.2.2.2.2.1
    have h5' := hF.2.2.2.2.2.1
    have hse : tot (gZ G) s = tot (gZ G) d + (gZ G o + tot (gZ G) t0) := by rw [hs, tot_append]; rfl
    by_cases ei : i = gZ G o
    · refine ⟨c, sp, [], ?_, by rw [List.append_nil, ← ei]; exact hc⟩
      intros
      rw [lm_Heap_gather_16, List.append_nil]
      simp (disch := omega) only [q_o, q_0, q_1, q_2, q_3, q_4, q_5, q_6, q_7, q_8, q_9, q_10, q_11, q_12, q_13, q_14, q_15, q_16, q_17, q_18, q_19, q_20, q_21, q_22, q_23, q_24, q_25, q_26, q_27, q_28, q_29, q_30, q_31, q_32, q_33, q_34, q_35, q_36, q_37, q_38, q_39, q_40, q_41, q_42, q_43, q_44, q_45, q_46, q_47, q_48, q_49, q_50, q_51, q_52, q_53, q_63, q_64, q_126, q_128, q_255, q_512, q_1024, q_1026, q_2000, q_2048, q_2049, q_4095, q_4096, q_8192, q_16383, q_65535, q_65536, q_69632, q_131072, q_132000, q_262144, q_300000, q_1000000, q_lt_t, q_lt_f, q_le_t, q_le_f, q_eq_t, q_eq_f, q_cl, q_add, q_mul, q_sub, q_nle_f, q_nle_t, q_nlt_f, q_nlt_t, q_neq_f, eq_self, q_n1, q_n2, q_m1, q_m1', q_m2, q_m21, q_m0, q_ml, upd_e, upd_n, updL_e, updL_n, updF_e, updF_n, let_d, tk_s, bind_s, or_false, false_or, and_true, true_and, if_true, if_false, ite_true, ite_false, reduceIte, not_true, not_false_iff, Nat.zero_add, Nat.add_zero, Nat.sub_zero]
      rw [ei]
    · have hod : o ∉ d := by
        intro hod
        have := hc.1
        rw [hs] at this
        exact (List.nodup_append.mp this).2.2 o hod o (List.mem_cons_self ..) rfl
      have ho : o ∈ s := by rw [hs]; exact List.mem_append_right _ (List.mem_cons_self ..)
      have ea : adr (gZ G) s o = tot (gZ G) d := by
        rw [hs, adr_r hod]
        simp [adr]
      have hnp : i ≤ gNp G o := by rw [gZ_np h6] at hi ei; omega
      obtain ⟨hl2, hPo⟩ := hc.2.1 o ho
      have hol : o ∈ l1 ++ l2 := List.mem_append_right _ hl2
      obtain ⟨b1, b2, b3⟩ := hc.2.2.2.2.2.2.1 o ho
      have hv := (hF.1.2 o hol).2.2.1 i hi1 hnp
      have hw : sp (tot (gZ G) l1 + tot (gZ G) d + i) = wE G (l1 ++ l2) (gP G o i) := by
        have := b2 i hi1 hnp
        rw [ea, if_neg (by omega)] at this
        exact this
      obtain ⟨c1, sp1, e1, m1, m2, m3⟩ := mv_step (N := N) hN hF.1 hF.2.1 hF.2.2.1 hF.2.2.2.1 hF.2.2.2.2.1 hF.2.2.2.2.2.1 hF.2.2.2.2.2.2.1 hc (by omega) hv (fun p hp _ => hF.2.2.2.2.2.2.2 o p i hPo hol hi1 hnp hp)
      have hs1 : s ++ e1 = d ++ (o :: (t0 ++ e1)) := by rw [hs, List.append_assoc, List.cons_append]
      have ea1 : adr (gZ G) (s ++ e1) o = tot (gZ G) d := by rw [adr_l ho, ea]
      have ho1 : o ∈ s ++ e1 := List.mem_append_left _ ho
      have hc1 : chn G l1 l2 c0 P c1 (vp_updL sp1 (tot (gZ G) l1 + tot (gZ G) d + i) (wE G (l1 ++ (s ++ e1)) (gP G o i))) (s ++ e1) (tot (gZ G) l1 + tot (gZ G) d + (i + 1)) := by
        obtain ⟨a1, a2, a3, a4, a5, a6, a7, a8⟩ := m2
        refine ⟨a1, a2, a3, a4, a5, a6, ?_, ?_⟩
        · intro q hq
          obtain ⟨d1, d2, d3⟩ := a7 q hq
          have hzq := gZ_pos G q
          have hz := gZ_np h6
          refine ⟨?_, ?_, ?_⟩
          · rw [updL_n (fun e => by
              have := (adr_in (Z := gZ G) (i := 0) (j := i) hq ho1 (by omega) (by omega) (by rw [ea1]; omega)).2
              omega)]
            exact d1
          · intro j hj hjn
            by_cases e : q = o ∧ j = i
            · obtain ⟨rfl, rfl⟩ := e
              rw [ea1, updL_e rfl, if_pos (by omega)]
            · have hjz : j < gZ G q := by
                by_cases e6 : gK G q = 6
                · unfold gNp at hjn; rw [if_pos e6] at hjn; omega
                · rw [gZ_np e6]; omega
              have hne : tot (gZ G) l1 + adr (gZ G) (s ++ e1) q + j ≠ tot (gZ G) l1 + tot (gZ G) d + i := fun e2 => e (adr_in (Z := gZ G) hq ho1 hjz (by omega) (by rw [ea1]; omega))
              rw [updL_n hne, d2 j hj hjn]
              by_cases hlt : tot (gZ G) l1 + adr (gZ G) (s ++ e1) q + j < tot (gZ G) l1 + tot (gZ G) d + i
              · rw [if_pos hlt, if_pos (by omega)]
              · rw [if_neg hlt, if_neg (by omega)]
          · intro e6 j hj
            have hzq : gZ G q = 1 + (gC G q + 3) / 4 := by unfold gZ; rw [if_pos e6]
            rw [updL_n (fun e => by
              have := (adr_in (Z := gZ G) (i := 1 + j) (j := i) hq ho1 (by omega) (by omega) (by rw [ea1]; omega)).1
              exact h6 (this ▸ e6))]
            exact d3 e6 j hj
        · intro q hq j p hj hjn hlt hp
          by_cases e : q = o ∧ j = i
          · obtain ⟨rfl, rfl⟩ := e
            exact m3 p hp
          · have hjz : j < gZ G q := by
              by_cases e6 : gK G q = 6
              · unfold gNp at hjn; rw [if_pos e6] at hjn; omega
              · rw [gZ_np e6]; omega
            have hz := gZ_np h6
            have hne : tot (gZ G) l1 + adr (gZ G) (s ++ e1) q + j ≠ tot (gZ G) l1 + tot (gZ G) d + i := fun e2 => e (adr_in (Z := gZ G) hq ho1 hjz (by omega) (by rw [ea1]; omega))
            exact a8 q hq j p hj hjn (by omega) hp
      obtain ⟨c2, sp2, e2, r1, r2⟩ := scan16 hN hF h6 n (i + 1) c1 _ (s ++ e1) (by omega) (by omega) (by omega) hs1 hc1
      refine ⟨c2, sp2, e1 ++ e2, ?_, by rw [← List.append_assoc]; exact r2⟩
      intros
      rw [lm_Heap_gather_16]
      rw [← Nat.add_assoc] at r1
      simp (disch := omega) only [q_o, q_0, q_1, q_2, q_3, q_4, q_5, q_6, q_7, q_8, q_9, q_10, q_11, q_12, q_13, q_14, q_15, q_16, q_17, q_18, q_19, q_20, q_21, q_22, q_23, q_24, q_25, q_26, q_27, q_28, q_29, q_30, q_31, q_32, q_33, q_34, q_35, q_36, q_37, q_38, q_39, q_40, q_41, q_42, q_43, q_44, q_45, q_46, q_47, q_48, q_49, q_50, q_51, q_52, q_53, q_63, q_64, q_126, q_128, q_255, q_512, q_1024, q_1026, q_2000, q_2048, q_2049, q_4095, q_4096, q_8192, q_16383, q_65535, q_65536, q_69632, q_131072, q_132000, q_262144, q_300000, q_1000000, q_lt_t, q_lt_f, q_le_t, q_le_f, q_eq_t, q_eq_f, q_cl, q_add, q_mul, q_sub, q_nle_f, q_nle_t, q_nlt_f, q_nlt_t, q_neq_f, eq_self, q_n1, q_n2, q_m1, q_m1', q_m2, q_m21, q_m0, q_ml, upd_e, upd_n, updL_e, updL_n, updF_e, updF_n, let_d, tk_s, bind_s, or_false, false_or, and_true, true_and, if_true, if_false, ite_true, ite_false, reduceIte, not_true, not_false_iff, Nat.zero_add, Nat.add_zero, Nat.sub_zero, hw, m1, r1, List.append_assoc]
end MV
