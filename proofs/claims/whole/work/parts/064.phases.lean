/-! The four rows, each with all that it leads to -/
section MV
variable {G : Nat → GO} {l1 l2 : List Nat} {nk : Nat → Nat} {nm nid : Nat} {N : Nat}
theorem phase0 {c0 : Nat → Int64} {P : Nat → Prop} {nC nSp nV nB u tp fr r : Nat} {a : Nat → AV} {c g sp cl va : Nat → Int64} {s : List Nat} (hN : 200000 ≤ N) (hF : fxd nk nm nid G l1 l2 c0 P nC nSp) (hb : u ≤ 2049) (hr : r ≤ 1) (hc : chn G l1 l2 c0 P c sp s (tot (gZ G) l1 + tot (gZ G) s))
    (hf : ∀ j, 0 ≤ j → j < u → g j = wE G (l1 ++ l2) (a j) ∧ okV nk nm (l1 ++ l2) (a j) ∧ (∀ p, a j = vO p → p ∈ l2 → P p)) :
    ∃ (c' sp' g' : Nat → Int64) (t : List Nat), (∀ (S_top S_frames H_used H_old H_oldLeadsToNew H_limit H_every H_fresh H_made H_madeLimit H_keptGlobalsUsed H_kept rG rA : Int32) (n : Nat) (α : Type) (k : Int32 → Int32 → (Nat → Int64) → (Nat → Int64) → (Nat → Int64) → (Nat → Int64) → (Nat → Int64) → Int32 → Int32 → Int32 → Option (α × Nat × Nat)), lm_Heap_gather_2 N S_top S_frames (nI u) H_used H_old H_oldLeadsToNew H_limit H_every H_fresh H_made H_madeLimit H_keptGlobalsUsed H_kept nV nB 2049 nC (nI (tot (gZ G) l1)) (nI r) nSp k (n + 1) (nI (tot (gZ G) l1 + tot (gZ G) s)) (nI 0) c g sp cl va rG rA (nI (tot (gZ G) l1 + tot (gZ G) s))
        = lm_Heap_gather_2 N S_top S_frames (nI u) H_used H_old H_oldLeadsToNew H_limit H_every H_fresh H_made H_madeLimit H_keptGlobalsUsed H_kept nV nB 2049 nC (nI (tot (gZ G) l1)) (nI r) nSp k n (nI (tot (gZ G) l1 + tot (gZ G) (s ++ t))) (nI (0 + 1)) c' g' sp' cl va (nI (tot (gZ G) l1 + tot (gZ G) (s ++ t))) (nI (tot (gZ G) l1 + tot (gZ G) (s ++ t))) (nI (tot (gZ G) l1 + tot (gZ G) (s ++ t)))) ∧
      chn G l1 l2 c0 P c' sp' (s ++ t) (tot (gZ G) l1 + tot (gZ G) (s ++ t)) ∧ (∀ j, 0 ≤ j → j < u → g' j = wE G (l1 ++ (s ++ t)) (a j) ∧ (∀ p, a j = vO p → p ∈ l1 ++ (s ++ t))) ∧ (∀ j, ¬ (0 ≤ j ∧ j < u) → g' j = g j) := by
  obtain ⟨c1, sp1, g1, t1, r1, r2, r3, r4⟩ := row13 (N := N) (nR := 2049) (e := u) (va := a) hN hF (by omega) (by omega) N 0 c sp g s (by omega) (by omega) hc (Nat.le_refl _) hf
  obtain ⟨c2, sp2, t2, tn, q1, q2⟩ := scan14 (N := N) hN hF N s t1 c1 sp1 0 (Nat.zero_le _) (by omega) r2
  have e : (s ++ t1) ++ t2 = s ++ (t1 ++ t2) := List.append_assoc ..
  rw [e] at q1 q2
  refine ⟨c2, sp2, g1, t1 ++ t2, ?_, q2, ?_, r4⟩
  · intros
    rw [lm_Heap_gather_2]
    rcases (show r = 0 ∨ r = 1 by omega) with hr0 | hr0
    all_goals (subst hr0; first | omega | simp (disch := omega) only [q_o, q_0, q_1, q_2, q_3, q_4, q_5, q_6, q_7, q_8, q_9, q_10, q_11, q_12, q_13, q_14, q_15, q_16, q_17, q_18, q_19, q_20, q_21, q_22, q_23, q_24, q_25, q_26, q_27, q_28, q_29, q_30, q_31, q_32, q_33, q_34, q_35, q_36, q_37, q_38, q_39, q_40, q_41, q_42, q_43, q_44, q_45, q_46, q_47, q_48, q_49, q_50, q_51, q_52, q_53, q_63, q_64, q_126, q_128, q_255, q_512, q_1024, q_1026, q_2000, q_2048, q_2049, q_4095, q_4096, q_8192, q_16383, q_65535, q_65536, q_69632, q_131072, q_132000, q_262144, q_300000, q_1000000, q_lt_t, q_lt_f, q_le_t, q_le_f, q_eq_t, q_eq_f, q_cl, q_add, q_mul, q_sub, q_nle_f, q_nle_t, q_nlt_f, q_nlt_t, q_neq_f, eq_self, q_n1, q_n2, q_m1, q_m1', q_m2, q_m21, q_m0, q_ml, upd_e, upd_n, updL_e, updL_n, updF_e, updF_n, let_d, tk_s, bind_s, or_false, false_or, and_true, true_and, if_true, if_false, ite_true, ite_false, reduceIte, not_true, not_false_iff, Nat.zero_add, Nat.add_zero, Nat.sub_zero, lm_Heap_gather_3, lm_Heap_gather_4, lm_Heap_gather_5, lm_Heap_gather_6, lm_Heap_gather_8, lm_Heap_gather_9, lm_Heap_gather_11, lm_Heap_gather_12, lm_Heap_gather_17, lm_Heap_gather_18, r1, q1])
  · intro j h1 h2
    obtain ⟨x1, x2⟩ := r3 j h1 h2
    rw [← List.append_assoc s t1 t2, wE_2 x2]
    exact ⟨x1, fun p hp => mem_2 (x2 p hp)⟩
theorem phase1 {c0 : Nat → Int64} {P : Nat → Prop} {nC nSp nV nB u tp fr r : Nat} {a : Nat → AV} {c g sp cl va : Nat → Int64} {s : List Nat} (hN : 200000 ≤ N) (hF : fxd nk nm nid G l1 l2 c0 P nC nSp) (hb : u ≤ 2049) (hr : r ≤ 1) (hc : chn G l1 l2 c0 P c sp s (tot (gZ G) l1 + tot (gZ G) s))
    (hf : ∀ j, 2048 ≤ j → j < 2049 → g j = wE G (l1 ++ l2) (a j) ∧ okV nk nm (l1 ++ l2) (a j) ∧ (∀ p, a j = vO p → p ∈ l2 → P p)) :
    ∃ (c' sp' g' : Nat → Int64) (t : List Nat), (∀ (S_top S_frames H_used H_old H_oldLeadsToNew H_limit H_every H_fresh H_made H_madeLimit H_keptGlobalsUsed H_kept rG rA : Int32) (n : Nat) (α : Type) (k : Int32 → Int32 → (Nat → Int64) → (Nat → Int64) → (Nat → Int64) → (Nat → Int64) → (Nat → Int64) → Int32 → Int32 → Int32 → Option (α × Nat × Nat)), lm_Heap_gather_2 N S_top S_frames (nI u) H_used H_old H_oldLeadsToNew H_limit H_every H_fresh H_made H_madeLimit H_keptGlobalsUsed H_kept nV nB 2049 nC (nI (tot (gZ G) l1)) (nI r) nSp k (n + 1) (nI (tot (gZ G) l1 + tot (gZ G) s)) (nI 1) c g sp cl va rG rA (nI (tot (gZ G) l1 + tot (gZ G) s))
        = lm_Heap_gather_2 N S_top S_frames (nI u) H_used H_old H_oldLeadsToNew H_limit H_every H_fresh H_made H_madeLimit H_keptGlobalsUsed H_kept nV nB 2049 nC (nI (tot (gZ G) l1)) (nI r) nSp k n (nI (tot (gZ G) l1 + tot (gZ G) (s ++ t))) (nI (1 + 1)) c' g' sp' cl va (rG) (nI (tot (gZ G) l1 + tot (gZ G) (s ++ t))) (nI (tot (gZ G) l1 + tot (gZ G) (s ++ t)))) ∧
      chn G l1 l2 c0 P c' sp' (s ++ t) (tot (gZ G) l1 + tot (gZ G) (s ++ t)) ∧ (∀ j, 2048 ≤ j → j < 2049 → g' j = wE G (l1 ++ (s ++ t)) (a j) ∧ (∀ p, a j = vO p → p ∈ l1 ++ (s ++ t))) ∧ (∀ j, ¬ (2048 ≤ j ∧ j < 2049) → g' j = g j) := by
  obtain ⟨c1, sp1, g1, t1, r1, r2, r3, r4⟩ := row13 (N := N) (nR := 2049) (e := 2049) (va := a) hN hF (by omega) (by omega) N 2048 c sp g s (by omega) (by omega) hc (Nat.le_refl _) hf
  obtain ⟨c2, sp2, t2, tn, q1, q2⟩ := scan14 (N := N) hN hF N s t1 c1 sp1 0 (Nat.zero_le _) (by omega) r2
  have e : (s ++ t1) ++ t2 = s ++ (t1 ++ t2) := List.append_assoc ..
  rw [e] at q1 q2
  refine ⟨c2, sp2, g1, t1 ++ t2, ?_, q2, ?_, r4⟩
  · intros
    rw [lm_Heap_gather_2]
    rcases (show r = 0 ∨ r = 1 by omega) with hr0 | hr0
    all_goals (subst hr0; first | omega | simp (disch := omega) only [q_o, q_0, q_1, q_2, q_3, q_4, q_5, q_6, q_7, q_8, q_9, q_10, q_11, q_12, q_13, q_14, q_15, q_16, q_17, q_18, q_19, q_20, q_21, q_22, q_23, q_24, q_25, q_26, q_27, q_28, q_29, q_30, q_31, q_32, q_33, q_34, q_35, q_36, q_37, q_38, q_39, q_40, q_41, q_42, q_43, q_44, q_45, q_46, q_47, q_48, q_49, q_50, q_51, q_52, q_53, q_63, q_64, q_126, q_128, q_255, q_512, q_1024, q_1026, q_2000, q_2048, q_2049, q_4095, q_4096, q_8192, q_16383, q_65535, q_65536, q_69632, q_131072, q_132000, q_262144, q_300000, q_1000000, q_lt_t, q_lt_f, q_le_t, q_le_f, q_eq_t, q_eq_f, q_cl, q_add, q_mul, q_sub, q_nle_f, q_nle_t, q_nlt_f, q_nlt_t, q_neq_f, eq_self, q_n1, q_n2, q_m1, q_m1', q_m2, q_m21, q_m0, q_ml, upd_e, upd_n, updL_e, updL_n, updF_e, updF_n, let_d, tk_s, bind_s, or_false, false_or, and_true, true_and, if_true, if_false, ite_true, ite_false, reduceIte, not_true, not_false_iff, Nat.zero_add, Nat.add_zero, Nat.sub_zero, lm_Heap_gather_3, lm_Heap_gather_4, lm_Heap_gather_5, lm_Heap_gather_6, lm_Heap_gather_8, lm_Heap_gather_9, lm_Heap_gather_11, lm_Heap_gather_12, lm_Heap_gather_17, lm_Heap_gather_18, r1, q1])
  · intro j h1 h2
    obtain ⟨x1, x2⟩ := r3 j h1 h2
    rw [← List.append_assoc s t1 t2, wE_2 x2]
    exact ⟨x1, fun p hp => mem_2 (x2 p hp)⟩
theorem phase2 {c0 : Nat → Int64} {P : Nat → Prop} {nC nSp nV nB u tp fr r : Nat} {a : Nat → AV} {c g sp cl va : Nat → Int64} {s : List Nat} (hN : 200000 ≤ N) (hF : fxd nk nm nid G l1 l2 c0 P nC nSp) (hb : tp ≤ nV ∧ nV ≤ 65536) (hr : r = 1) (hc : chn G l1 l2 c0 P c sp s (tot (gZ G) l1 + tot (gZ G) s))
    (hf : ∀ j, 0 ≤ j → j < tp → va j = wE G (l1 ++ l2) (a j) ∧ okV nk nm (l1 ++ l2) (a j) ∧ (∀ p, a j = vO p → p ∈ l2 → P p)) :
    ∃ (c' sp' g' : Nat → Int64) (t : List Nat), (∀ ( H_used H_old H_oldLeadsToNew H_limit H_every H_fresh H_made H_madeLimit H_keptGlobalsUsed H_kept rG rA : Int32) (n : Nat) (α : Type) (k : Int32 → Int32 → (Nat → Int64) → (Nat → Int64) → (Nat → Int64) → (Nat → Int64) → (Nat → Int64) → Int32 → Int32 → Int32 → Option (α × Nat × Nat)), lm_Heap_gather_2 N (nI tp) (nI fr) (nI u) H_used H_old H_oldLeadsToNew H_limit H_every H_fresh H_made H_madeLimit H_keptGlobalsUsed H_kept nV nB 2049 nC (nI (tot (gZ G) l1)) (nI r) nSp k (n + 1) (nI (tot (gZ G) l1 + tot (gZ G) s)) (nI 2) c g sp cl va rG rA (nI (tot (gZ G) l1 + tot (gZ G) s))
        = lm_Heap_gather_2 N (nI tp) (nI fr) (nI u) H_used H_old H_oldLeadsToNew H_limit H_every H_fresh H_made H_madeLimit H_keptGlobalsUsed H_kept nV nB 2049 nC (nI (tot (gZ G) l1)) (nI r) nSp k n (nI (tot (gZ G) l1 + tot (gZ G) (s ++ t))) (nI (2 + 1)) c' g sp' cl g' (rG) (rA) (nI (tot (gZ G) l1 + tot (gZ G) (s ++ t)))) ∧
      chn G l1 l2 c0 P c' sp' (s ++ t) (tot (gZ G) l1 + tot (gZ G) (s ++ t)) ∧ (∀ j, 0 ≤ j → j < tp → g' j = wE G (l1 ++ (s ++ t)) (a j) ∧ (∀ p, a j = vO p → p ∈ l1 ++ (s ++ t))) ∧ (∀ j, ¬ (0 ≤ j ∧ j < tp) → g' j = va j) := by
  obtain ⟨c1, sp1, g1, t1, r1, r2, r3, r4⟩ := row10 (N := N) (nR := nV) (e := tp) (va := a) hN hF (by omega) (by omega) N 0 c sp va s (by omega) (by omega) hc (Nat.le_refl _) hf
  obtain ⟨c2, sp2, t2, tn, q1, q2⟩ := scan14 (N := N) hN hF N s t1 c1 sp1 0 (Nat.zero_le _) (by omega) r2
  have e : (s ++ t1) ++ t2 = s ++ (t1 ++ t2) := List.append_assoc ..
  rw [e] at q1 q2
  refine ⟨c2, sp2, g1, t1 ++ t2, ?_, q2, ?_, r4⟩
  · intros
    rw [lm_Heap_gather_2]
    rcases (show r = 0 ∨ r = 1 by omega) with hr0 | hr0
    all_goals (subst hr0; first | omega | simp (disch := omega) only [q_o, q_0, q_1, q_2, q_3, q_4, q_5, q_6, q_7, q_8, q_9, q_10, q_11, q_12, q_13, q_14, q_15, q_16, q_17, q_18, q_19, q_20, q_21, q_22, q_23, q_24, q_25, q_26, q_27, q_28, q_29, q_30, q_31, q_32, q_33, q_34, q_35, q_36, q_37, q_38, q_39, q_40, q_41, q_42, q_43, q_44, q_45, q_46, q_47, q_48, q_49, q_50, q_51, q_52, q_53, q_63, q_64, q_126, q_128, q_255, q_512, q_1024, q_1026, q_2000, q_2048, q_2049, q_4095, q_4096, q_8192, q_16383, q_65535, q_65536, q_69632, q_131072, q_132000, q_262144, q_300000, q_1000000, q_lt_t, q_lt_f, q_le_t, q_le_f, q_eq_t, q_eq_f, q_cl, q_add, q_mul, q_sub, q_nle_f, q_nle_t, q_nlt_f, q_nlt_t, q_neq_f, eq_self, q_n1, q_n2, q_m1, q_m1', q_m2, q_m21, q_m0, q_ml, upd_e, upd_n, updL_e, updL_n, updF_e, updF_n, let_d, tk_s, bind_s, or_false, false_or, and_true, true_and, if_true, if_false, ite_true, ite_false, reduceIte, not_true, not_false_iff, Nat.zero_add, Nat.add_zero, Nat.sub_zero, lm_Heap_gather_3, lm_Heap_gather_4, lm_Heap_gather_5, lm_Heap_gather_6, lm_Heap_gather_8, lm_Heap_gather_9, lm_Heap_gather_11, lm_Heap_gather_12, lm_Heap_gather_17, lm_Heap_gather_18, r1, q1])
  · intro j h1 h2
    obtain ⟨x1, x2⟩ := r3 j h1 h2
    rw [← List.append_assoc s t1 t2, wE_2 x2]
    exact ⟨x1, fun p hp => mem_2 (x2 p hp)⟩
theorem phase3 {c0 : Nat → Int64} {P : Nat → Prop} {nC nSp nV nB u tp fr r : Nat} {a : Nat → AV} {c g sp cl va : Nat → Int64} {s : List Nat} (hN : 200000 ≤ N) (hF : fxd nk nm nid G l1 l2 c0 P nC nSp) (hb : fr ≤ nB ∧ nB ≤ 8192) (hr : r = 1) (hc : chn G l1 l2 c0 P c sp s (tot (gZ G) l1 + tot (gZ G) s))
    (hf : ∀ j, 0 ≤ j → j < fr → cl j = wE G (l1 ++ l2) (a j) ∧ okV nk nm (l1 ++ l2) (a j) ∧ (∀ p, a j = vO p → p ∈ l2 → P p)) :
    ∃ (c' sp' g' : Nat → Int64) (t : List Nat), (∀ ( H_used H_old H_oldLeadsToNew H_limit H_every H_fresh H_made H_madeLimit H_keptGlobalsUsed H_kept rG rA : Int32) (n : Nat) (α : Type) (k : Int32 → Int32 → (Nat → Int64) → (Nat → Int64) → (Nat → Int64) → (Nat → Int64) → (Nat → Int64) → Int32 → Int32 → Int32 → Option (α × Nat × Nat)), lm_Heap_gather_2 N (nI tp) (nI fr) (nI u) H_used H_old H_oldLeadsToNew H_limit H_every H_fresh H_made H_madeLimit H_keptGlobalsUsed H_kept nV nB 2049 nC (nI (tot (gZ G) l1)) (nI r) nSp k (n + 1) (nI (tot (gZ G) l1 + tot (gZ G) s)) (nI 3) c g sp cl va rG rA (nI (tot (gZ G) l1 + tot (gZ G) s))
        = lm_Heap_gather_2 N (nI tp) (nI fr) (nI u) H_used H_old H_oldLeadsToNew H_limit H_every H_fresh H_made H_madeLimit H_keptGlobalsUsed H_kept nV nB 2049 nC (nI (tot (gZ G) l1)) (nI r) nSp k n (nI (tot (gZ G) l1 + tot (gZ G) (s ++ t))) (nI (3 + 1)) c' g sp' g' va (rG) (rA) (nI (tot (gZ G) l1 + tot (gZ G) (s ++ t)))) ∧
      chn G l1 l2 c0 P c' sp' (s ++ t) (tot (gZ G) l1 + tot (gZ G) (s ++ t)) ∧ (∀ j, 0 ≤ j → j < fr → g' j = wE G (l1 ++ (s ++ t)) (a j) ∧ (∀ p, a j = vO p → p ∈ l1 ++ (s ++ t))) ∧ (∀ j, ¬ (0 ≤ j ∧ j < fr) → g' j = cl j) := by
  obtain ⟨c1, sp1, g1, t1, r1, r2, r3, r4⟩ := row7 (N := N) (nR := nB) (e := fr) (va := a) hN hF (by omega) (by omega) N 0 c sp cl s (by omega) (by omega) hc (Nat.le_refl _) hf
  obtain ⟨c2, sp2, t2, tn, q1, q2⟩ := scan14 (N := N) hN hF N s t1 c1 sp1 0 (Nat.zero_le _) (by omega) r2
  have e : (s ++ t1) ++ t2 = s ++ (t1 ++ t2) := List.append_assoc ..
  rw [e] at q1 q2
  refine ⟨c2, sp2, g1, t1 ++ t2, ?_, q2, ?_, r4⟩
  · intros
    rw [lm_Heap_gather_2]
    rcases (show r = 0 ∨ r = 1 by omega) with hr0 | hr0
    all_goals (subst hr0; first | omega | simp (disch := omega) only [q_o, q_0, q_1, q_2, q_3, q_4, q_5, q_6, q_7, q_8, q_9, q_10, q_11, q_12, q_13, q_14, q_15, q_16, q_17, q_18, q_19, q_20, q_21, q_22, q_23, q_24, q_25, q_26, q_27, q_28, q_29, q_30, q_31, q_32, q_33, q_34, q_35, q_36, q_37, q_38, q_39, q_40, q_41, q_42, q_43, q_44, q_45, q_46, q_47, q_48, q_49, q_50, q_51, q_52, q_53, q_63, q_64, q_126, q_128, q_255, q_512, q_1024, q_1026, q_2000, q_2048, q_2049, q_4095, q_4096, q_8192, q_16383, q_65535, q_65536, q_69632, q_131072, q_132000, q_262144, q_300000, q_1000000, q_lt_t, q_lt_f, q_le_t, q_le_f, q_eq_t, q_eq_f, q_cl, q_add, q_mul, q_sub, q_nle_f, q_nle_t, q_nlt_f, q_nlt_t, q_neq_f, eq_self, q_n1, q_n2, q_m1, q_m1', q_m2, q_m21, q_m0, q_ml, upd_e, upd_n, updL_e, updL_n, updF_e, updF_n, let_d, tk_s, bind_s, or_false, false_or, and_true, true_and, if_true, if_false, ite_true, ite_false, reduceIte, not_true, not_false_iff, Nat.zero_add, Nat.add_zero, Nat.sub_zero, lm_Heap_gather_3, lm_Heap_gather_4, lm_Heap_gather_5, lm_Heap_gather_6, lm_Heap_gather_8, lm_Heap_gather_9, lm_Heap_gather_11, lm_Heap_gather_12, lm_Heap_gather_17, lm_Heap_gather_18, r1, q1])
  · intro j h1 h2
    obtain ⟨x1, x2⟩ := r3 j h1 h2
    rw [← List.append_assoc s t1 t2, wE_2 x2]
    exact ⟨x1, fun p hp => mem_2 (x2 p hp)⟩
/-- what is reached from the roots R -/
def rch (G : Nat → GO) (R : Nat → Prop) (o : Nat) : Prop :=
  ∀ S : Nat → Prop, (∀ p, R p → S p) → (∀ q p i, S q → 1 ≤ i → i ≤ gNp G q → gP G q i = vO p → S p) → S o
theorem rch_r {R : Nat → Prop} {p : Nat} (h : R p) : rch G R p := fun S h1 _ => h1 p h
theorem rch_c {R : Nat → Prop} (q p i : Nat) (h : rch G R q) (h1 : 1 ≤ i) (h2 : i ≤ gNp G q) (h3 : gP G q i = vO p) : rch G R p := fun S a b => b q p i (h S a b) h1 h2 h3
theorem rch_mono {R R' : Nat → Prop} (h : ∀ p, R p → R' p) {o : Nat} (ho : rch G R o) : rch G R' o := fun S a b => ho S (fun p hp => a p (h p hp)) b
/-- all parts of what stands in l stand in l -/
def cls (G : Nat → GO) (l : List Nat) : Prop := ∀ o, o ∈ l → ∀ i p, 1 ≤ i → i ≤ gNp G o → gP G o i = vO p → p ∈ l
theorem cls_rch {R : Nat → Prop} {l : List Nat} (h : cls G l) (hR : ∀ p, R p → p ∈ l) {o : Nat} (ho : rch G R o) : o ∈ l := ho (fun o => o ∈ l) hR (fun q p i hq h1 h2 h3 => h q hq i p h1 h2 h3)
theorem chn_cls {c0 c sp : Nat → Int64} {P : Nat → Prop} {s : List Nat} (h1 : cls G l1) (h : chn G l1 l2 c0 P c sp s (tot (gZ G) l1 + tot (gZ G) s)) : cls G (l1 ++ s) := by
  intro o ho i p hi hin hp
  by_cases ho1 : o ∈ l1
  · exact List.mem_append_left _ (h1 o ho1 i p hi hin hp)
  · have hos : o ∈ s := (List.mem_append.mp ho).resolve_left ho1
    have := adr_end (Z := gZ G) hos
    have := (np_lt hin hi).1
    exact h.2.2.2.2.2.2.2 o hos i p hi hin (by omega) hp
/-- the cells behind the move back -/
theorem chn_back {c0 c sp : Nat → Int64} {P : Nat → Prop} {s : List Nat} (hG : wf nk nm nid G (l1 ++ l2)) (hh : heE G (l1 ++ l2) c0) (h1 : cls G l1) (h : chn G l1 l2 c0 P c sp s (tot (gZ G) l1 + tot (gZ G) s)) :
    heE G (l1 ++ s) (va_cpy sp c (tot (gZ G) l1) (tot (gZ G) l1) (tot (gZ G) s)) ∧ wf nk nm nid G (l1 ++ s) := by
  have hcl := chn_cls h1 h
  obtain ⟨a1, a2, a3, a4, a5, a6, a7, a8⟩ := h
  have hnd := List.nodup_append.mp hG.1
  have hdj : ∀ o, o ∈ l1 → o ∉ s := fun o ho hs => hnd.2.2 o ho o (a2 o hs).1 rfl
  refine ⟨?_, ?_, ?_⟩
  · intro o ho
    by_cases ho1 : o ∈ l1
    · have e1 : adr (gZ G) (l1 ++ s) o = adr (gZ G) l1 o := adr_l ho1
      have e2 : adr (gZ G) (l1 ++ l2) o = adr (gZ G) l1 o := adr_l ho1
      have hend := adr_end (Z := gZ G) ho1
      have hz := gZ_pos G o
      obtain ⟨b1, b2, b3⟩ := hh o (List.mem_append_left _ ho1)
      rw [e2] at b1 b2 b3
      rw [e1]
      refine ⟨?_, ?_, ?_⟩
      · unfold va_cpy
        rw [if_neg (by omega), a6 _ (by omega)]
        exact b1
      · intro i hi hin
        have := (np_lt hin hi).1
        unfold va_cpy
        rw [if_neg (by omega), a6 _ (by omega), b2 i hi hin, wE_l (fun p hp => h1 o ho1 i p hi hin hp), wE_l (fun p hp => h1 o ho1 i p hi hin hp)]
      · intro e6 j hj
        have hz6 : gZ G o = 1 + (gC G o + 3) / 4 := by unfold gZ; rw [if_pos e6]
        unfold va_cpy
        rw [if_neg (by omega), a6 _ (by omega)]
        exact b3 e6 j hj
    · have hos : o ∈ s := (List.mem_append.mp ho).resolve_left ho1
      have e1 : adr (gZ G) (l1 ++ s) o = tot (gZ G) l1 + adr (gZ G) s o := adr_r ho1
      have hend := adr_end (Z := gZ G) hos
      have hz := gZ_pos G o
      obtain ⟨b1, b2, b3⟩ := a7 o hos
      rw [e1]
      refine ⟨?_, ?_, ?_⟩
      · unfold va_cpy
        rw [if_pos (by omega), show tot (gZ G) l1 + (tot (gZ G) l1 + adr (gZ G) s o - tot (gZ G) l1) = tot (gZ G) l1 + adr (gZ G) s o by omega]
        exact b1
      · intro i hi hin
        have := (np_lt hin hi).1
        unfold va_cpy
        rw [if_pos (by omega), show tot (gZ G) l1 + (tot (gZ G) l1 + adr (gZ G) s o + i - tot (gZ G) l1) = tot (gZ G) l1 + adr (gZ G) s o + i by omega, b2 i hi hin, if_pos (by omega)]
      · intro e6 j hj
        have hz6 : gZ G o = 1 + (gC G o + 3) / 4 := by unfold gZ; rw [if_pos e6]
        unfold va_cpy
        rw [if_pos (by omega), show tot (gZ G) l1 + (tot (gZ G) l1 + adr (gZ G) s o + 1 + j - tot (gZ G) l1) = tot (gZ G) l1 + adr (gZ G) s o + 1 + j by omega]
        exact b3 e6 j hj
  · refine List.nodup_append.mpr ⟨hnd.1, a1, ?_⟩
    intro x hx y hy e
    exact hdj x hx (e ▸ hy)
  · intro o ho
    have hol : o ∈ l1 ++ l2 := by
      rcases List.mem_append.mp ho with h | h
      · exact List.mem_append_left _ h
      · exact List.mem_append_right _ (a2 o h).1
    obtain ⟨w1, w2, w3, w4⟩ := hG.2 o hol
    refine ⟨w1, w2, ?_, w4⟩
    intro i hi hin
    have hv := w3 i hi hin
    have hm := fun p hp => hcl o ho i p hi hin hp
    revert hv hm
    generalize gP G o i = v
    intro hv hm
    rcases v with n | ⟨k, j⟩ | q
    · exact hv
    · exact hv
    · exact hm q rfl
end MV
