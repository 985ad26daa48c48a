/-! Going through the cells: what stands then -/
section MV
variable {G : Nat → GO} {l1 l2 : List Nat} {nk : Nat → Nat} {nm nid : Nat} {N : Nat}
def rtG (gg : Nat → AV) (p : Nat) : Prop := ∃ k, k < 2048 ∧ gg k = vO p
def rtR (gg : Nat → AV) (p : Nat) : Prop := ∃ k, k < 2049 ∧ gg k = vO p
def rtA (gg : Nat → AV) (tp : Nat) (gs : Nat → AV) (fr : Nat) (gc : Nat → AV) (p : Nat) : Prop := rtR gg p ∨ (∃ k, k < tp ∧ gs k = vO p) ∨ (∃ k, k < fr ∧ gc k = vO p)
theorem chn_0 {c0 sp : Nat → Int64} {P : Nat → Prop} (hh : heE G (l1 ++ l2) c0) : chn G l1 l2 c0 P c0 sp [] (tot (gZ G) l1 + tot (gZ G) []) := by
  refine ⟨List.nodup_nil, ?_, ?_, ?_, ?_, ?_, ?_, ?_⟩
  · intro o ho; cases ho
  · intro o ho; cases ho
  · intro o ho _; exact (hh o (List.mem_append_right _ ho)).1
  · intro o ho i hi hz; rfl
  · intro a ha; rfl
  · intro o ho; cases ho
  · intro o ho; cases ho
theorem back_E {c sp : Nat → Int64} {a b nC nSp : Nat} (h1 : a + b ≤ nC) (h2 : a + b ≤ nSp) (hC : nC ≤ 131072) : ∀ (H_globalsUsed : Int32) (H_used : Int32) (H_old : Int32) (H_oldLeadsToNew : Int32) (H_limit : Int32) (H_every : Int32) (H_fresh : Int32) (H_made : Int32) (H_madeLimit : Int32) (H_reachedFromGlobals : Int32) (H_reachedInAll : Int32) (H_keptGlobalsUsed : Int32) (H_kept : Int32),
    (m_Heap_moveBack N H_globalsUsed H_used (nI (a + b)) H_old H_oldLeadsToNew H_limit H_every H_fresh H_made H_madeLimit H_reachedFromGlobals H_reachedInAll H_keptGlobalsUsed H_kept nC c nSp sp (nI a) = some (va_cpy sp c a a b, nI 0, nI (a + b), nI 0, nI (a + b))) ∨
    (a ≠ 0 ∧ m_Heap_moveBack N H_globalsUsed H_used (nI (a + b)) H_old H_oldLeadsToNew H_limit H_every H_fresh H_made H_madeLimit H_reachedFromGlobals H_reachedInAll H_keptGlobalsUsed H_kept nC c nSp sp (nI a) = some (va_cpy sp c a a b, nI 0, H_old, H_oldLeadsToNew, nI (a + b))) := by
  intros
  have e : a + b - a = b := by omega
  unfold m_Heap_moveBack
  by_cases h0 : a = 0
  · left
    simp (disch := omega) only [q_o, q_0, q_1, q_2, q_3, q_4, q_5, q_6, q_7, q_8, q_9, q_10, q_11, q_12, q_13, q_14, q_15, q_16, q_17, q_18, q_19, q_20, q_21, q_22, q_23, q_24, q_25, q_26, q_27, q_28, q_29, q_30, q_31, q_32, q_33, q_34, q_35, q_36, q_37, q_38, q_39, q_40, q_41, q_42, q_43, q_44, q_45, q_46, q_47, q_48, q_49, q_50, q_51, q_52, q_53, q_63, q_64, q_126, q_128, q_255, q_512, q_1024, q_1026, q_2000, q_2048, q_2049, q_4095, q_4096, q_8192, q_16383, q_65535, q_65536, q_69632, q_131072, q_132000, q_262144, q_300000, q_1000000, q_lt_t, q_lt_f, q_le_t, q_le_f, q_eq_t, q_eq_f, q_cl, q_add, q_mul, q_sub, q_nle_f, q_nle_t, q_nlt_f, q_nlt_t, q_neq_f, eq_self, q_n1, q_n2, q_m1, q_m1', q_m2, q_m21, q_m0, q_ml, upd_e, upd_n, updL_e, updL_n, updF_e, updF_n, let_d, tk_s, bind_s, or_false, false_or, and_true, true_and, if_true, if_false, ite_true, ite_false, reduceIte, not_true, not_false_iff, Nat.zero_add, Nat.add_zero, Nat.sub_zero, e, q_nlt_f]
  · by_cases h3 : b ≤ 1024
    · right
      refine ⟨h0, ?_⟩
      simp (disch := omega) only [q_o, q_0, q_1, q_2, q_3, q_4, q_5, q_6, q_7, q_8, q_9, q_10, q_11, q_12, q_13, q_14, q_15, q_16, q_17, q_18, q_19, q_20, q_21, q_22, q_23, q_24, q_25, q_26, q_27, q_28, q_29, q_30, q_31, q_32, q_33, q_34, q_35, q_36, q_37, q_38, q_39, q_40, q_41, q_42, q_43, q_44, q_45, q_46, q_47, q_48, q_49, q_50, q_51, q_52, q_53, q_63, q_64, q_126, q_128, q_255, q_512, q_1024, q_1026, q_2000, q_2048, q_2049, q_4095, q_4096, q_8192, q_16383, q_65535, q_65536, q_69632, q_131072, q_132000, q_262144, q_300000, q_1000000, q_lt_t, q_lt_f, q_le_t, q_le_f, q_eq_t, q_eq_f, q_cl, q_add, q_mul, q_sub, q_nle_f, q_nle_t, q_nlt_f, q_nlt_t, q_neq_f, eq_self, q_n1, q_n2, q_m1, q_m1', q_m2, q_m21, q_m0, q_ml, upd_e, upd_n, updL_e, updL_n, updF_e, updF_n, let_d, tk_s, bind_s, or_false, false_or, and_true, true_and, if_true, if_false, ite_true, ite_false, reduceIte, not_true, not_false_iff, Nat.zero_add, Nat.add_zero, Nat.sub_zero, e, q_nlt_f]
    · left
      simp (disch := omega) only [q_o, q_0, q_1, q_2, q_3, q_4, q_5, q_6, q_7, q_8, q_9, q_10, q_11, q_12, q_13, q_14, q_15, q_16, q_17, q_18, q_19, q_20, q_21, q_22, q_23, q_24, q_25, q_26, q_27, q_28, q_29, q_30, q_31, q_32, q_33, q_34, q_35, q_36, q_37, q_38, q_39, q_40, q_41, q_42, q_43, q_44, q_45, q_46, q_47, q_48, q_49, q_50, q_51, q_52, q_53, q_63, q_64, q_126, q_128, q_255, q_512, q_1024, q_1026, q_2000, q_2048, q_2049, q_4095, q_4096, q_8192, q_16383, q_65535, q_65536, q_69632, q_131072, q_132000, q_262144, q_300000, q_1000000, q_lt_t, q_lt_f, q_le_t, q_le_f, q_eq_t, q_eq_f, q_cl, q_add, q_mul, q_sub, q_nle_f, q_nle_t, q_nlt_f, q_nlt_t, q_neq_f, eq_self, q_n1, q_n2, q_m1, q_m1', q_m2, q_m21, q_m0, q_ml, upd_e, upd_n, updL_e, updL_n, updF_e, updF_n, let_d, tk_s, bind_s, or_false, false_or, and_true, true_and, if_true, if_false, ite_true, ite_false, reduceIte, not_true, not_false_iff, Nat.zero_add, Nat.add_zero, Nat.sub_zero, e, q_nlt_f]
theorem spare_E {nC nSp : Nat} (hC : nC ≤ 131072) (hS : nSp ≤ 131072) (sp : Nat → Int64) : ∃ (n' : Nat) (sp' : Nat → Int64) (cc ss : Nat), nC ≤ n' ∧ n' ≤ 131072 ∧ (nC ≤ nSp ∧ n' = nSp ∧ cc = 0 ∧ ss = 0 ∨ nSp < nC ∧ n' = nC ∧ cc = 1 ∧ ss = nC) ∧ ∀ (α : Type) (k : Nat → (Nat → Int64) → Option (α × Nat × Nat)), lm_Heap_gather_1 N nC k nSp sp = dz_tk cc ss (k n' sp') := by
  by_cases h : nC ≤ nSp
  · refine ⟨nSp, sp, 0, 0, h, hS, Or.inl ⟨h, rfl, rfl, rfl⟩, fun α k => ?_⟩
    unfold lm_Heap_gather_1
    simp (disch := omega) only [q_o, q_0, q_1, q_2, q_3, q_4, q_5, q_6, q_7, q_8, q_9, q_10, q_11, q_12, q_13, q_14, q_15, q_16, q_17, q_18, q_19, q_20, q_21, q_22, q_23, q_24, q_25, q_26, q_27, q_28, q_29, q_30, q_31, q_32, q_33, q_34, q_35, q_36, q_37, q_38, q_39, q_40, q_41, q_42, q_43, q_44, q_45, q_46, q_47, q_48, q_49, q_50, q_51, q_52, q_53, q_63, q_64, q_126, q_128, q_255, q_512, q_1024, q_1026, q_2000, q_2048, q_2049, q_4095, q_4096, q_8192, q_16383, q_65535, q_65536, q_69632, q_131072, q_132000, q_262144, q_300000, q_1000000, q_lt_t, q_lt_f, q_le_t, q_le_f, q_eq_t, q_eq_f, q_cl, q_add, q_mul, q_sub, q_nle_f, q_nle_t, q_nlt_f, q_nlt_t, q_neq_f, eq_self, q_n1, q_n2, q_m1, q_m1', q_m2, q_m21, q_m0, q_ml, upd_e, upd_n, updL_e, updL_n, updF_e, updF_n, let_d, tk_s, bind_s, or_false, false_or, and_true, true_and, if_true, if_false, ite_true, ite_false, reduceIte, not_true, not_false_iff, Nat.zero_add, Nat.add_zero, Nat.sub_zero]
    unfold dz_tk
    cases k nSp sp with
    | none => rfl
    | some z => rfl
  · refine ⟨nC, fun _ => 0, 1, nC, Nat.le_refl _, hC, Or.inr ⟨by omega, rfl, rfl, rfl⟩, fun α k => ?_⟩
    unfold lm_Heap_gather_1
    simp (disch := omega) only [q_o, q_0, q_1, q_2, q_3, q_4, q_5, q_6, q_7, q_8, q_9, q_10, q_11, q_12, q_13, q_14, q_15, q_16, q_17, q_18, q_19, q_20, q_21, q_22, q_23, q_24, q_25, q_26, q_27, q_28, q_29, q_30, q_31, q_32, q_33, q_34, q_35, q_36, q_37, q_38, q_39, q_40, q_41, q_42, q_43, q_44, q_45, q_46, q_47, q_48, q_49, q_50, q_51, q_52, q_53, q_63, q_64, q_126, q_128, q_255, q_512, q_1024, q_1026, q_2000, q_2048, q_2049, q_4095, q_4096, q_8192, q_16383, q_65535, q_65536, q_69632, q_131072, q_132000, q_262144, q_300000, q_1000000, q_lt_t, q_lt_f, q_le_t, q_le_f, q_eq_t, q_eq_f, q_cl, q_add, q_mul, q_sub, q_nle_f, q_nle_t, q_nlt_f, q_nlt_t, q_neq_f, eq_self, q_n1, q_n2, q_m1, q_m1', q_m2, q_m21, q_m0, q_ml, upd_e, upd_n, updL_e, updL_n, updF_e, updF_n, let_d, tk_s, bind_s, or_false, false_or, and_true, true_and, if_true, if_false, ite_true, ite_false, reduceIte, not_true, not_false_iff, Nat.zero_add, Nat.add_zero, Nat.sub_zero, q_nlt_f]
theorem gatherE0 {c0 g cl va sp : Nat → Int64} {nC nSp nV nB u tp fr : Nat} {gg gs gc : Nat → AV} (hN : 200000 ≤ N) (hG : wf nk nm nid G (l1 ++ l2)) (hn : nm < 134217728) (ht : tot (gZ G) (l1 ++ l2) ≤ nC) (hC : nC ≤ 131072) (hS : nSp ≤ 131072) (hh : heE G (l1 ++ l2) c0) (h1 : cls G l1) (hu : u ≤ 2048)
    (hg : ∀ k, k < 2049 → g k = wE G (l1 ++ l2) (gg k) ∧ okV nk nm (l1 ++ l2) (gg k)) (hg0 : ∀ k, u ≤ k → k < 2048 → gg k = vS (nI 0))
    (htp : 0 = 1 → tp ≤ nV ∧ nV ≤ 65536 ∧ fr ≤ nB ∧ nB ≤ 8192) (hva : 0 = 1 → ∀ k, k < tp → va k = wE G (l1 ++ l2) (gs k) ∧ okV nk nm (l1 ++ l2) (gs k)) (hcl : 0 = 1 → ∀ k, k < fr → cl k = wE G (l1 ++ l2) (gc k) ∧ okV nk nm (l1 ++ l2) (gc k)) :
    ∃ (c' g' cl' va' sp' : Nat → Int64) (s0 e1 e2 : List Nat) (nSp' cc ss : Nat), (∀ (H_globalsUsed : Int32) (H_used : Int32) (H_spareUsed : Int32) (H_old : Int32) (H_oldLeadsToNew : Int32) (H_limit : Int32) (H_every : Int32) (H_fresh : Int32) (H_made : Int32) (H_madeLimit : Int32) (H_reachedFromGlobals : Int32) (H_reachedInAll : Int32) (H_keptGlobalsUsed : Int32) (H_kept : Int32), ∀ (S_top S_frames S_handlers : Int32), (0 = 1 → S_top = nI tp ∧ S_frames = nI fr) → ∃ (old' olt' : Int32), (old' = nI (tot (gZ G) (l1 ++ (s0 ++ e1 ++ e2))) ∧ olt' = nI 0 ∨ l1 ≠ [] ∧ old' = H_old ∧ olt' = H_oldLeadsToNew) ∧
        m_Heap_gather N S_top S_frames S_handlers (nI u) H_used H_spareUsed H_old H_oldLeadsToNew H_limit H_every H_fresh H_made H_madeLimit H_reachedFromGlobals H_reachedInAll H_keptGlobalsUsed H_kept nV va nB cl 2049 g nC c0 nSp sp (nI (tot (gZ G) l1)) (nI 0) = some ((c', g', cl', va', nI 0, old', olt', nI (tot (gZ G) (l1 ++ s0)), nI (tot (gZ G) (l1 ++ (s0 ++ e1))), nI (tot (gZ G) (l1 ++ (s0 ++ e1 ++ e2))), nI (tot (gZ G) (l1 ++ (s0 ++ e1 ++ e2))), nSp', sp'), cc, ss)) ∧
      (nC ≤ nSp ∧ nSp' = nSp ∧ cc = 0 ∧ ss = 0 ∨ nSp < nC ∧ nSp' = nC ∧ cc = 1 ∧ ss = nC) ∧
      wf nk nm nid G (l1 ++ (s0 ++ e1 ++ e2)) ∧ heE G (l1 ++ (s0 ++ e1 ++ e2)) c' ∧ cls G (l1 ++ (s0 ++ e1 ++ e2)) ∧ tot (gZ G) (l1 ++ (s0 ++ e1 ++ e2)) ≤ tot (gZ G) (l1 ++ l2) ∧
      (∀ k, k < 2049 → g' k = wE G (l1 ++ (s0 ++ e1 ++ e2)) (gg k) ∧ okV nk nm (l1 ++ (s0 ++ e1 ++ e2)) (gg k)) ∧
      (0 = 1 → ∀ k, k < tp → va' k = wE G (l1 ++ (s0 ++ e1 ++ e2)) (gs k) ∧ okV nk nm (l1 ++ (s0 ++ e1 ++ e2)) (gs k)) ∧
      (0 = 1 → ∀ k, k < fr → cl' k = wE G (l1 ++ (s0 ++ e1 ++ e2)) (gc k) ∧ okV nk nm (l1 ++ (s0 ++ e1 ++ e2)) (gc k)) ∧
      (∀ o, o ∈ s0 → rch G (rtG gg) o) ∧ (∀ o, o ∈ s0 ++ e1 → rch G (rtR gg) o) ∧ (∀ o, o ∈ s0 ++ e1 ++ e2 → rch G (rtA gg tp gs fr gc) o) ∧
      cls G (l1 ++ s0) ∧ cls G (l1 ++ (s0 ++ e1)) ∧ (∀ p, rtG gg p → p ∈ l1 ++ s0) ∧ (∀ p, rtR gg p → p ∈ l1 ++ (s0 ++ e1)) ∧ (0 = 0 → e2 = [] ∧ va' = va ∧ cl' = cl) ∧ (∀ o, o ∈ s0 ++ e1 ++ e2 → o ∈ l2) := by
  obtain ⟨n', sp0, cc, ss, k1, k2, k3, k4⟩ := spare_E (N := N) hC hS sp
  have hokV : ∀ {m : List Nat} {v : AV}, okV nk nm (l1 ++ l2) v → (∀ p, v = vO p → p ∈ m) → okV nk nm m v := by
    intro m v hv hm
    rcases v with n | ⟨k, j⟩ | q
    · exact hv
    · exact hv
    · exact hm q rfl
  have hF : ∀ R : Nat → Prop, fxd nk nm nid G l1 l2 c0 (rch G R) nC n' := fun R => ⟨hG, hn, ht, hC, k1, k2, hh, fun q p i hq _ a b c => rch_c q p i hq a b c⟩
  have hnd := List.nodup_append.mp hG.1
  obtain ⟨N', rfl⟩ : ∃ N', N = N' + 5 := ⟨N - 5, by omega⟩
  obtain ⟨c1, sp1, g1, s0, p1, p2, p3, p4⟩ := phase0 (N := N' + 5) (nV := nV) (nB := nB) (tp := tp) (fr := fr) (r := 0) (a := gg) (g := g) (cl := cl) (va := va) (s := []) (sp := sp0) hN (hF (rtG gg)) (show u ≤ 2049 by omega) (by omega) (chn_0 hh) (fun j _ h2 => ⟨(hg j (by omega)).1, (hg j (by omega)).2, fun p hp _ => rch_r ⟨j, by omega, hp⟩⟩)
  rw [List.nil_append] at p1 p2 p3
  have pR : ∀ o, rch G (rtG gg) o → rch G (rtR gg) o := fun o ho => rch_mono (fun p hp => by
    obtain ⟨k, hk, hp⟩ := hp
    exact ⟨k, by omega, hp⟩) ho
  obtain ⟨c2, sp2, g2, e1, q1, q2, q3, q4⟩ := phase1 (N := N' + 5) (nV := nV) (nB := nB) (u := u) (tp := tp) (fr := fr) (r := 0) (a := gg) (g := g1) (cl := cl) (va := va) (s := s0) (sp := sp1) hN (hF (rtR gg)) (show u ≤ 2049 by omega) (by omega) (chn_P p2 pR) (fun j h1 h2 => by
    rw [p4 j (by omega)]
    exact ⟨(hg j h2).1, (hg j h2).2, fun p hp _ => rch_r ⟨j, h2, hp⟩⟩)
  have pA : ∀ o, rch G (rtR gg) o → rch G (rtA gg tp gs fr gc) o := fun o ho => rch_mono (fun p hp => Or.inl hp) ho
  have gfin : ∀ e2 : List Nat, ∀ k, k < 2049 → g2 k = wE G (l1 ++ (s0 ++ e1)) (gg k) ∧ (∀ p, gg k = vO p → p ∈ l1 ++ (s0 ++ e1)) := by
    intro e2 k hk
    by_cases ek : k = 2048
    · exact q3 k (by omega) hk
    · rw [q4 k (by omega)]
      by_cases eu : k < u
      · obtain ⟨y1, y2⟩ := p3 k (Nat.zero_le _) eu
        rw [y1, wE_2 y2]
        exact ⟨rfl, fun p hp => mem_2 (y2 p hp)⟩
      · rw [p4 k (by omega), (hg k hk).1, hg0 k (by omega) (by omega)]
        exact ⟨rfl, fun p hp => by cases hp⟩
  have rG : ∀ p, rtG gg p → p ∈ l1 ++ s0 := by
    intro p hp
    obtain ⟨k, hk, hp⟩ := hp
    by_cases eu : k < u
    · exact (p3 k (Nat.zero_le _) eu).2 p hp
    · rw [hg0 k (by omega) hk] at hp
      cases hp
  have rR : ∀ p, rtR gg p → p ∈ l1 ++ (s0 ++ e1) := by
    intro p hp
    obtain ⟨k, hk, hp⟩ := hp
    exact (gfin [] k hk).2 p hp
  have c00 : chn G l1 l2 c0 (rch G (rtR gg)) c2 sp2 (s0 ++ e1) (tot (gZ G) l1 + tot (gZ G) (s0 ++ e1)) := q2
  have hcl0 : cls G (l1 ++ s0) := chn_cls h1 p2
  have hcl1 : cls G (l1 ++ (s0 ++ e1)) := chn_cls h1 q2
  have e0 : tot (gZ G) [] = 0 := rfl
  rw [e0] at p1
  obtain ⟨b1, b2⟩ := chn_back hG hh h1 q2
  have hst : tot (gZ G) (s0 ++ e1) ≤ tot (gZ G) l2 := tot_sub q2.1 (fun q hq => (q2.2.1 q hq).1)
  have htA := tot_append (gZ G) l1 l2
  have eS : s0 ++ e1 ++ [] = (s0 ++ e1) := by first | rfl | exact List.append_nil _
  refine ⟨va_cpy sp2 c2 (tot (gZ G) l1) (tot (gZ G) l1) (tot (gZ G) (s0 ++ e1)), g2, cl, va, sp2, s0, e1, [], n', cc, ss, ?_, k3, ?_⟩
  · intro H_globalsUsed H_used H_spareUsed H_old H_oldLeadsToNew H_limit H_every H_fresh H_made H_madeLimit H_reachedFromGlobals H_reachedInAll H_keptGlobalsUsed H_kept S_top S_frames S_handlers hTF
    have bb := back_E (N := N' + 5) (c := c2) (sp := sp2) (a := tot (gZ G) l1) (b := tot (gZ G) (s0 ++ e1)) (nC := nC) (nSp := n') (by omega) (by omega) hC (nI u) H_used H_old H_oldLeadsToNew H_limit H_every H_fresh H_made H_madeLimit (nI (tot (gZ G) l1 + tot (gZ G) s0)) (nI (tot (gZ G) l1 + tot (gZ G) (s0 ++ e1))) H_keptGlobalsUsed H_kept
    simp only [eS, tot_append (gZ G) l1]
    have key : ∀ (α : Type) (k : Int32 → Int32 → (Nat → Int64) → (Nat → Int64) → (Nat → Int64) → (Nat → Int64) → (Nat → Int64) → Int32 → Int32 → Int32 → Option (α × Nat × Nat)), lm_Heap_gather_2 (N' + 5) S_top S_frames (nI u) H_used H_old H_oldLeadsToNew H_limit H_every H_fresh H_made H_madeLimit H_keptGlobalsUsed H_kept nV nB 2049 nC (nI (tot (gZ G) l1)) (nI 0) n' k (N' + 5) (nI (tot (gZ G) l1)) (nI 0) c0 g sp0 cl va H_reachedFromGlobals H_reachedInAll (nI (tot (gZ G) l1)) = k (nI (tot (gZ G) l1 + tot (gZ G) (s0 ++ e1))) (nI 2) c2 g2 sp2 cl va (nI (tot (gZ G) l1 + tot (gZ G) s0)) (nI (tot (gZ G) l1 + tot (gZ G) (s0 ++ e1))) (nI (tot (gZ G) l1 + tot (gZ G) (s0 ++ e1))) := by
      intro α k
      simp only [Nat.add_zero, Nat.reduceAdd] at p1 q1
      rw [p1, q1, lm_Heap_gather_2]
      simp (disch := omega) only [q_o, q_0, q_1, q_2, q_3, q_4, q_5, q_6, q_7, q_8, q_9, q_10, q_11, q_12, q_13, q_14, q_15, q_16, q_17, q_18, q_19, q_20, q_21, q_22, q_23, q_24, q_25, q_26, q_27, q_28, q_29, q_30, q_31, q_32, q_33, q_34, q_35, q_36, q_37, q_38, q_39, q_40, q_41, q_42, q_43, q_44, q_45, q_46, q_47, q_48, q_49, q_50, q_51, q_52, q_53, q_63, q_64, q_126, q_128, q_255, q_512, q_1024, q_1026, q_2000, q_2048, q_2049, q_4095, q_4096, q_8192, q_16383, q_65535, q_65536, q_69632, q_131072, q_132000, q_262144, q_300000, q_1000000, q_lt_t, q_lt_f, q_le_t, q_le_f, q_eq_t, q_eq_f, q_cl, q_add, q_mul, q_sub, q_nle_f, q_nle_t, q_nlt_f, q_nlt_t, q_neq_f, eq_self, q_n1, q_n2, q_m1, q_m1', q_m2, q_m21, q_m0, q_ml, upd_e, upd_n, updL_e, updL_n, updF_e, updF_n, let_d, tk_s, bind_s, or_false, false_or, and_true, true_and, if_true, if_false, ite_true, ite_false, reduceIte, not_true, not_false_iff, Nat.zero_add, Nat.add_zero, Nat.sub_zero, lm_Heap_gather_3]
    rcases bb with bb | ⟨bn, bb⟩
    · refine ⟨_, _, Or.inl ⟨rfl, rfl⟩, ?_⟩
      unfold m_Heap_gather
      rw [k4]
      simp (disch := omega) only [q_o, q_0, q_1, q_2, q_3, q_4, q_5, q_6, q_7, q_8, q_9, q_10, q_11, q_12, q_13, q_14, q_15, q_16, q_17, q_18, q_19, q_20, q_21, q_22, q_23, q_24, q_25, q_26, q_27, q_28, q_29, q_30, q_31, q_32, q_33, q_34, q_35, q_36, q_37, q_38, q_39, q_40, q_41, q_42, q_43, q_44, q_45, q_46, q_47, q_48, q_49, q_50, q_51, q_52, q_53, q_63, q_64, q_126, q_128, q_255, q_512, q_1024, q_1026, q_2000, q_2048, q_2049, q_4095, q_4096, q_8192, q_16383, q_65535, q_65536, q_69632, q_131072, q_132000, q_262144, q_300000, q_1000000, q_lt_t, q_lt_f, q_le_t, q_le_f, q_eq_t, q_eq_f, q_cl, q_add, q_mul, q_sub, q_nle_f, q_nle_t, q_nlt_f, q_nlt_t, q_neq_f, eq_self, q_n1, q_n2, q_m1, q_m1', q_m2, q_m21, q_m0, q_ml, upd_e, upd_n, updL_e, updL_n, updF_e, updF_n, let_d, tk_s, bind_s, or_false, false_or, and_true, true_and, if_true, if_false, ite_true, ite_false, reduceIte, not_true, not_false_iff, Nat.zero_add, Nat.add_zero, Nat.sub_zero, key, bb]
    · refine ⟨_, _, Or.inr ⟨fun h => bn (by rw [h]; rfl), rfl, rfl⟩, ?_⟩
      unfold m_Heap_gather
      rw [k4]
      simp (disch := omega) only [q_o, q_0, q_1, q_2, q_3, q_4, q_5, q_6, q_7, q_8, q_9, q_10, q_11, q_12, q_13, q_14, q_15, q_16, q_17, q_18, q_19, q_20, q_21, q_22, q_23, q_24, q_25, q_26, q_27, q_28, q_29, q_30, q_31, q_32, q_33, q_34, q_35, q_36, q_37, q_38, q_39, q_40, q_41, q_42, q_43, q_44, q_45, q_46, q_47, q_48, q_49, q_50, q_51, q_52, q_53, q_63, q_64, q_126, q_128, q_255, q_512, q_1024, q_1026, q_2000, q_2048, q_2049, q_4095, q_4096, q_8192, q_16383, q_65535, q_65536, q_69632, q_131072, q_132000, q_262144, q_300000, q_1000000, q_lt_t, q_lt_f, q_le_t, q_le_f, q_eq_t, q_eq_f, q_cl, q_add, q_mul, q_sub, q_nle_f, q_nle_t, q_nlt_f, q_nlt_t, q_neq_f, eq_self, q_n1, q_n2, q_m1, q_m1', q_m2, q_m21, q_m0, q_ml, upd_e, upd_n, updL_e, updL_n, updF_e, updF_n, let_d, tk_s, bind_s, or_false, false_or, and_true, true_and, if_true, if_false, ite_true, ite_false, reduceIte, not_true, not_false_iff, Nat.zero_add, Nat.add_zero, Nat.sub_zero, key, bb]
  · rw [List.append_nil]
    refine ⟨b2, b1, chn_cls h1 q2, ?_, ?_, fun h => absurd h (by omega), fun h => absurd h (by omega), fun o ho => (p2.2.1 o ho).2, fun o ho => (q2.2.1 o ho).2, fun o ho => pA o (q2.2.1 o ho).2, hcl0, hcl1, rG, rR, fun _ => ⟨rfl, rfl, rfl⟩, fun o ho => (q2.2.1 o ho).1⟩
    · rw [tot_append (gZ G) l1 (s0 ++ e1), htA]; omega
    · intro k hk
      obtain ⟨y1, y2⟩ := gfin [] k hk
      exact ⟨y1, hokV (hg k hk).2 y2⟩

theorem gatherE1 {c0 g cl va sp : Nat → Int64} {nC nSp nV nB u tp fr : Nat} {gg gs gc : Nat → AV} (hN : 200000 ≤ N) (hG : wf nk nm nid G (l1 ++ l2)) (hn : nm < 134217728) (ht : tot (gZ G) (l1 ++ l2) ≤ nC) (hC : nC ≤ 131072) (hS : nSp ≤ 131072) (hh : heE G (l1 ++ l2) c0) (h1 : cls G l1) (hu : u ≤ 2048)
    (hg : ∀ k, k < 2049 → g k = wE G (l1 ++ l2) (gg k) ∧ okV nk nm (l1 ++ l2) (gg k)) (hg0 : ∀ k, u ≤ k → k < 2048 → gg k = vS (nI 0))
    (htp : 1 = 1 → tp ≤ nV ∧ nV ≤ 65536 ∧ fr ≤ nB ∧ nB ≤ 8192) (hva : 1 = 1 → ∀ k, k < tp → va k = wE G (l1 ++ l2) (gs k) ∧ okV nk nm (l1 ++ l2) (gs k)) (hcl : 1 = 1 → ∀ k, k < fr → cl k = wE G (l1 ++ l2) (gc k) ∧ okV nk nm (l1 ++ l2) (gc k)) :
    ∃ (c' g' cl' va' sp' : Nat → Int64) (s0 e1 e2 : List Nat) (nSp' cc ss : Nat), (∀ (H_globalsUsed : Int32) (H_used : Int32) (H_spareUsed : Int32) (H_old : Int32) (H_oldLeadsToNew : Int32) (H_limit : Int32) (H_every : Int32) (H_fresh : Int32) (H_made : Int32) (H_madeLimit : Int32) (H_reachedFromGlobals : Int32) (H_reachedInAll : Int32) (H_keptGlobalsUsed : Int32) (H_kept : Int32), ∀ (S_top S_frames S_handlers : Int32), (1 = 1 → S_top = nI tp ∧ S_frames = nI fr) → ∃ (old' olt' : Int32), (old' = nI (tot (gZ G) (l1 ++ (s0 ++ e1 ++ e2))) ∧ olt' = nI 0 ∨ l1 ≠ [] ∧ old' = H_old ∧ olt' = H_oldLeadsToNew) ∧
        m_Heap_gather N S_top S_frames S_handlers (nI u) H_used H_spareUsed H_old H_oldLeadsToNew H_limit H_every H_fresh H_made H_madeLimit H_reachedFromGlobals H_reachedInAll H_keptGlobalsUsed H_kept nV va nB cl 2049 g nC c0 nSp sp (nI (tot (gZ G) l1)) (nI 1) = some ((c', g', cl', va', nI 0, old', olt', nI (tot (gZ G) (l1 ++ s0)), nI (tot (gZ G) (l1 ++ (s0 ++ e1))), nI (tot (gZ G) (l1 ++ (s0 ++ e1 ++ e2))), nI (tot (gZ G) (l1 ++ (s0 ++ e1 ++ e2))), nSp', sp'), cc, ss)) ∧
      (nC ≤ nSp ∧ nSp' = nSp ∧ cc = 0 ∧ ss = 0 ∨ nSp < nC ∧ nSp' = nC ∧ cc = 1 ∧ ss = nC) ∧
      wf nk nm nid G (l1 ++ (s0 ++ e1 ++ e2)) ∧ heE G (l1 ++ (s0 ++ e1 ++ e2)) c' ∧ cls G (l1 ++ (s0 ++ e1 ++ e2)) ∧ tot (gZ G) (l1 ++ (s0 ++ e1 ++ e2)) ≤ tot (gZ G) (l1 ++ l2) ∧
      (∀ k, k < 2049 → g' k = wE G (l1 ++ (s0 ++ e1 ++ e2)) (gg k) ∧ okV nk nm (l1 ++ (s0 ++ e1 ++ e2)) (gg k)) ∧
      (1 = 1 → ∀ k, k < tp → va' k = wE G (l1 ++ (s0 ++ e1 ++ e2)) (gs k) ∧ okV nk nm (l1 ++ (s0 ++ e1 ++ e2)) (gs k)) ∧
      (1 = 1 → ∀ k, k < fr → cl' k = wE G (l1 ++ (s0 ++ e1 ++ e2)) (gc k) ∧ okV nk nm (l1 ++ (s0 ++ e1 ++ e2)) (gc k)) ∧
      (∀ o, o ∈ s0 → rch G (rtG gg) o) ∧ (∀ o, o ∈ s0 ++ e1 → rch G (rtR gg) o) ∧ (∀ o, o ∈ s0 ++ e1 ++ e2 → rch G (rtA gg tp gs fr gc) o) ∧
      cls G (l1 ++ s0) ∧ cls G (l1 ++ (s0 ++ e1)) ∧ (∀ p, rtG gg p → p ∈ l1 ++ s0) ∧ (∀ p, rtR gg p → p ∈ l1 ++ (s0 ++ e1)) ∧ (1 = 0 → e2 = [] ∧ va' = va ∧ cl' = cl) ∧ (∀ o, o ∈ s0 ++ e1 ++ e2 → o ∈ l2) := by
  obtain ⟨n', sp0, cc, ss, k1, k2, k3, k4⟩ := spare_E (N := N) hC hS sp
  have hokV : ∀ {m : List Nat} {v : AV}, okV nk nm (l1 ++ l2) v → (∀ p, v = vO p → p ∈ m) → okV nk nm m v := by
    intro m v hv hm
    rcases v with n | ⟨k, j⟩ | q
    · exact hv
    · exact hv
    · exact hm q rfl
  have hF : ∀ R : Nat → Prop, fxd nk nm nid G l1 l2 c0 (rch G R) nC n' := fun R => ⟨hG, hn, ht, hC, k1, k2, hh, fun q p i hq _ a b c => rch_c q p i hq a b c⟩
  have hnd := List.nodup_append.mp hG.1
  obtain ⟨N', rfl⟩ : ∃ N', N = N' + 5 := ⟨N - 5, by omega⟩
  obtain ⟨c1, sp1, g1, s0, p1, p2, p3, p4⟩ := phase0 (N := N' + 5) (nV := nV) (nB := nB) (tp := tp) (fr := fr) (r := 1) (a := gg) (g := g) (cl := cl) (va := va) (s := []) (sp := sp0) hN (hF (rtG gg)) (show u ≤ 2049 by omega) (by omega) (chn_0 hh) (fun j _ h2 => ⟨(hg j (by omega)).1, (hg j (by omega)).2, fun p hp _ => rch_r ⟨j, by omega, hp⟩⟩)
  rw [List.nil_append] at p1 p2 p3
  have pR : ∀ o, rch G (rtG gg) o → rch G (rtR gg) o := fun o ho => rch_mono (fun p hp => by
    obtain ⟨k, hk, hp⟩ := hp
    exact ⟨k, by omega, hp⟩) ho
  obtain ⟨c2, sp2, g2, e1, q1, q2, q3, q4⟩ := phase1 (N := N' + 5) (nV := nV) (nB := nB) (u := u) (tp := tp) (fr := fr) (r := 1) (a := gg) (g := g1) (cl := cl) (va := va) (s := s0) (sp := sp1) hN (hF (rtR gg)) (show u ≤ 2049 by omega) (by omega) (chn_P p2 pR) (fun j h1 h2 => by
    rw [p4 j (by omega)]
    exact ⟨(hg j h2).1, (hg j h2).2, fun p hp _ => rch_r ⟨j, h2, hp⟩⟩)
  have pA : ∀ o, rch G (rtR gg) o → rch G (rtA gg tp gs fr gc) o := fun o ho => rch_mono (fun p hp => Or.inl hp) ho
  have gfin : ∀ e2 : List Nat, ∀ k, k < 2049 → g2 k = wE G (l1 ++ (s0 ++ e1)) (gg k) ∧ (∀ p, gg k = vO p → p ∈ l1 ++ (s0 ++ e1)) := by
    intro e2 k hk
    by_cases ek : k = 2048
    · exact q3 k (by omega) hk
    · rw [q4 k (by omega)]
      by_cases eu : k < u
      · obtain ⟨y1, y2⟩ := p3 k (Nat.zero_le _) eu
        rw [y1, wE_2 y2]
        exact ⟨rfl, fun p hp => mem_2 (y2 p hp)⟩
      · rw [p4 k (by omega), (hg k hk).1, hg0 k (by omega) (by omega)]
        exact ⟨rfl, fun p hp => by cases hp⟩
  have rG : ∀ p, rtG gg p → p ∈ l1 ++ s0 := by
    intro p hp
    obtain ⟨k, hk, hp⟩ := hp
    by_cases eu : k < u
    · exact (p3 k (Nat.zero_le _) eu).2 p hp
    · rw [hg0 k (by omega) hk] at hp
      cases hp
  have rR : ∀ p, rtR gg p → p ∈ l1 ++ (s0 ++ e1) := by
    intro p hp
    obtain ⟨k, hk, hp⟩ := hp
    exact (gfin [] k hk).2 p hp
  have c00 : chn G l1 l2 c0 (rch G (rtR gg)) c2 sp2 (s0 ++ e1) (tot (gZ G) l1 + tot (gZ G) (s0 ++ e1)) := q2
  have hcl0 : cls G (l1 ++ s0) := chn_cls h1 p2
  have hcl1 : cls G (l1 ++ (s0 ++ e1)) := chn_cls h1 q2
  have e0 : tot (gZ G) [] = 0 := rfl
  rw [e0] at p1
  obtain ⟨tp1, tp2, tp3, tp4⟩ := htp rfl
  obtain ⟨c3, sp3, va3, e2, v1, v2, v3, v4⟩ := phase2 (N := N' + 5) (nV := nV) (nB := nB) (u := u) (tp := tp) (fr := fr) (r := 1) (a := gs) (g := g2) (cl := cl) (va := va) (s := s0 ++ e1) (sp := sp2) hN (hF (rtA gg tp gs fr gc)) ⟨tp1, tp2⟩ rfl (chn_P q2 pA) (fun j _ h2 => ⟨(hva rfl j h2).1, (hva rfl j h2).2, fun p hp _ => rch_r (Or.inr (Or.inl ⟨j, h2, hp⟩))⟩)
  obtain ⟨c4, sp4, cl4, e3, x1, x2, x3, x4⟩ := phase3 (N := N' + 5) (nV := nV) (nB := nB) (u := u) (tp := tp) (fr := fr) (r := 1) (a := gc) (g := g2) (cl := cl) (va := va3) (s := s0 ++ e1 ++ e2) (sp := sp3) hN (hF (rtA gg tp gs fr gc)) ⟨tp3, tp4⟩ rfl v2 (fun j _ h2 => ⟨(hcl rfl j h2).1, (hcl rfl j h2).2, fun p hp _ => rch_r (Or.inr (Or.inr ⟨j, h2, hp⟩))⟩)
  have eE : s0 ++ e1 ++ e2 ++ e3 = s0 ++ e1 ++ (e2 ++ e3) := List.append_assoc ..
  rw [eE] at x1 x2 x3
  have x2' := x2
  obtain ⟨b1, b2⟩ := chn_back hG hh h1 x2'
  have hst : tot (gZ G) (s0 ++ e1 ++ (e2 ++ e3)) ≤ tot (gZ G) l2 := tot_sub x2'.1 (fun q hq => (x2'.2.1 q hq).1)
  have htA := tot_append (gZ G) l1 l2
  have eS : s0 ++ e1 ++ (e2 ++ e3) = (s0 ++ e1 ++ (e2 ++ e3)) := by first | rfl | exact List.append_nil _
  refine ⟨va_cpy sp4 c4 (tot (gZ G) l1) (tot (gZ G) l1) (tot (gZ G) (s0 ++ e1 ++ (e2 ++ e3))), g2, cl4, va3, sp4, s0, e1, (e2 ++ e3), n', cc, ss, ?_, k3, ?_⟩
  · intro H_globalsUsed H_used H_spareUsed H_old H_oldLeadsToNew H_limit H_every H_fresh H_made H_madeLimit H_reachedFromGlobals H_reachedInAll H_keptGlobalsUsed H_kept S_top S_frames S_handlers hTF
    have bb := back_E (N := N' + 5) (c := c4) (sp := sp4) (a := tot (gZ G) l1) (b := tot (gZ G) (s0 ++ e1 ++ (e2 ++ e3))) (nC := nC) (nSp := n') (by omega) (by omega) hC (nI u) H_used H_old H_oldLeadsToNew H_limit H_every H_fresh H_made H_madeLimit (nI (tot (gZ G) l1 + tot (gZ G) s0)) (nI (tot (gZ G) l1 + tot (gZ G) (s0 ++ e1))) H_keptGlobalsUsed H_kept
    simp only [tot_append (gZ G) l1]
    obtain ⟨rfl, rfl⟩ := hTF rfl
    have key : ∀ (α : Type) (k : Int32 → Int32 → (Nat → Int64) → (Nat → Int64) → (Nat → Int64) → (Nat → Int64) → (Nat → Int64) → Int32 → Int32 → Int32 → Option (α × Nat × Nat)), lm_Heap_gather_2 (N' + 5) (nI tp) (nI fr) (nI u) H_used H_old H_oldLeadsToNew H_limit H_every H_fresh H_made H_madeLimit H_keptGlobalsUsed H_kept nV nB 2049 nC (nI (tot (gZ G) l1)) (nI 1) n' k (N' + 5) (nI (tot (gZ G) l1)) (nI 0) c0 g sp0 cl va H_reachedFromGlobals H_reachedInAll (nI (tot (gZ G) l1)) = k (nI (tot (gZ G) l1 + tot (gZ G) (s0 ++ e1 ++ (e2 ++ e3)))) (nI 4) c4 g2 sp4 cl4 va3 (nI (tot (gZ G) l1 + tot (gZ G) s0)) (nI (tot (gZ G) l1 + tot (gZ G) (s0 ++ e1))) (nI (tot (gZ G) l1 + tot (gZ G) (s0 ++ e1 ++ (e2 ++ e3)))) := by
      intro α k
      simp only [Nat.add_zero, Nat.reduceAdd] at p1 q1 v1 x1
      rw [p1, q1, v1, x1, lm_Heap_gather_2]
      simp (disch := omega) only [q_o, q_0, q_1, q_2, q_3, q_4, q_5, q_6, q_7, q_8, q_9, q_10, q_11, q_12, q_13, q_14, q_15, q_16, q_17, q_18, q_19, q_20, q_21, q_22, q_23, q_24, q_25, q_26, q_27, q_28, q_29, q_30, q_31, q_32, q_33, q_34, q_35, q_36, q_37, q_38, q_39, q_40, q_41, q_42, q_43, q_44, q_45, q_46, q_47, q_48, q_49, q_50, q_51, q_52, q_53, q_63, q_64, q_126, q_128, q_255, q_512, q_1024, q_1026, q_2000, q_2048, q_2049, q_4095, q_4096, q_8192, q_16383, q_65535, q_65536, q_69632, q_131072, q_132000, q_262144, q_300000, q_1000000, q_lt_t, q_lt_f, q_le_t, q_le_f, q_eq_t, q_eq_f, q_cl, q_add, q_mul, q_sub, q_nle_f, q_nle_t, q_nlt_f, q_nlt_t, q_neq_f, eq_self, q_n1, q_n2, q_m1, q_m1', q_m2, q_m21, q_m0, q_ml, upd_e, upd_n, updL_e, updL_n, updF_e, updF_n, let_d, tk_s, bind_s, or_false, false_or, and_true, true_and, if_true, if_false, ite_true, ite_false, reduceIte, not_true, not_false_iff, Nat.zero_add, Nat.add_zero, Nat.sub_zero, lm_Heap_gather_3]
    rcases bb with bb | ⟨bn, bb⟩
    · refine ⟨_, _, Or.inl ⟨rfl, rfl⟩, ?_⟩
      unfold m_Heap_gather
      rw [k4]
      simp (disch := omega) only [q_o, q_0, q_1, q_2, q_3, q_4, q_5, q_6, q_7, q_8, q_9, q_10, q_11, q_12, q_13, q_14, q_15, q_16, q_17, q_18, q_19, q_20, q_21, q_22, q_23, q_24, q_25, q_26, q_27, q_28, q_29, q_30, q_31, q_32, q_33, q_34, q_35, q_36, q_37, q_38, q_39, q_40, q_41, q_42, q_43, q_44, q_45, q_46, q_47, q_48, q_49, q_50, q_51, q_52, q_53, q_63, q_64, q_126, q_128, q_255, q_512, q_1024, q_1026, q_2000, q_2048, q_2049, q_4095, q_4096, q_8192, q_16383, q_65535, q_65536, q_69632, q_131072, q_132000, q_262144, q_300000, q_1000000, q_lt_t, q_lt_f, q_le_t, q_le_f, q_eq_t, q_eq_f, q_cl, q_add, q_mul, q_sub, q_nle_f, q_nle_t, q_nlt_f, q_nlt_t, q_neq_f, eq_self, q_n1, q_n2, q_m1, q_m1', q_m2, q_m21, q_m0, q_ml, upd_e, upd_n, updL_e, updL_n, updF_e, updF_n, let_d, tk_s, bind_s, or_false, false_or, and_true, true_and, if_true, if_false, ite_true, ite_false, reduceIte, not_true, not_false_iff, Nat.zero_add, Nat.add_zero, Nat.sub_zero, key, bb]
    · refine ⟨_, _, Or.inr ⟨fun h => bn (by rw [h]; rfl), rfl, rfl⟩, ?_⟩
      unfold m_Heap_gather
      rw [k4]
      simp (disch := omega) only [q_o, q_0, q_1, q_2, q_3, q_4, q_5, q_6, q_7, q_8, q_9, q_10, q_11, q_12, q_13, q_14, q_15, q_16, q_17, q_18, q_19, q_20, q_21, q_22, q_23, q_24, q_25, q_26, q_27, q_28, q_29, q_30, q_31, q_32, q_33, q_34, q_35, q_36, q_37, q_38, q_39, q_40, q_41, q_42, q_43, q_44, q_45, q_46, q_47, q_48, q_49, q_50, q_51, q_52, q_53, q_63, q_64, q_126, q_128, q_255, q_512, q_1024, q_1026, q_2000, q_2048, q_2049, q_4095, q_4096, q_8192, q_16383, q_65535, q_65536, q_69632, q_131072, q_132000, q_262144, q_300000, q_1000000, q_lt_t, q_lt_f, q_le_t, q_le_f, q_eq_t, q_eq_f, q_cl, q_add, q_mul, q_sub, q_nle_f, q_nle_t, q_nlt_f, q_nlt_t, q_neq_f, eq_self, q_n1, q_n2, q_m1, q_m1', q_m2, q_m21, q_m0, q_ml, upd_e, upd_n, updL_e, updL_n, updF_e, updF_n, let_d, tk_s, bind_s, or_false, false_or, and_true, true_and, if_true, if_false, ite_true, ite_false, reduceIte, not_true, not_false_iff, Nat.zero_add, Nat.add_zero, Nat.sub_zero, key, bb]
  · refine ⟨b2, b1, chn_cls h1 x2', ?_, ?_, ?_, ?_, fun o ho => (p2.2.1 o ho).2, fun o ho => (q2.2.1 o ho).2, fun o ho => (x2'.2.1 o ho).2, hcl0, hcl1, rG, rR, fun h => absurd h (by omega), fun o ho => (x2'.2.1 o ho).1⟩
    · rw [tot_append (gZ G) l1 (s0 ++ e1 ++ (e2 ++ e3)), htA]; omega
    · intro k hk
      obtain ⟨y1, y2⟩ := gfin [] k hk
      rw [y1, wE_2 y2]
      exact ⟨rfl, hokV (hg k hk).2 (fun p hp => mem_2 (y2 p hp))⟩
    · intro _ k hk
      obtain ⟨y1, y2⟩ := v3 k (Nat.zero_le _) hk
      rw [y1, ← eE, wE_2 y2]
      exact ⟨rfl, hokV (hva rfl k hk).2 (fun p hp => mem_2 (y2 p hp))⟩
    · intro _ k hk
      obtain ⟨y1, y2⟩ := x3 k (Nat.zero_le _) hk
      exact ⟨y1, hokV (hcl rfl k hk).2 y2⟩
end MV
