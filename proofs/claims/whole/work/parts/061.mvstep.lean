/-! One value moved: what stands then -/
section MV
variable {G : Nat → GO} {l1 l2 : List Nat} {nk : Nat → Nat} {nm nid : Nat} {N : Nat}
theorem scW_nI {b : Nat} (h : b < 2147483648) : scW (nI b) = lN (b * 8) := by
  unfold scW
  rw [q_l h, show (3 : Int32) = nI 3 from rfl, wb_shl b (by decide)]
theorem nodup_snoc {s : List Nat} {o : Nat} (h : s.Nodup) (ho : o ∉ s) : (s ++ [o]).Nodup := by
  refine List.nodup_append.mpr ⟨h, by simp, ?_⟩
  intro a ha b hb e
  rw [List.mem_singleton] at hb
  exact ho (hb ▸ e ▸ ha)
theorem mem_snoc {s : List Nat} {o q : Nat} : q ∈ s ++ [o] ↔ q ∈ s ∨ q = o := by
  rw [List.mem_append, List.mem_singleton]
theorem chn_new {c0 c sp : Nat → Int64} {P : Nat → Prop} {s : List Nat} {x o : Nat} (hG : wf nk nm nid G (l1 ++ l2)) (hh : heE G (l1 ++ l2) c0) (h : chn G l1 l2 c0 P c sp s x) (hx : x ≤ tot (gZ G) l1 + tot (gZ G) s) (h1 : o ∉ l1) (h2 : o ∈ l2) (h3 : o ∉ s) (hP : P o) :
    chn G l1 l2 c0 P (vp_updL c (adr (gZ G) (l1 ++ l2) o) (lN ((tot (gZ G) l1 + tot (gZ G) s) * 8))) (fun j => if tot (gZ G) l1 + tot (gZ G) s + 0 ≤ j ∧ j < tot (gZ G) l1 + tot (gZ G) s + gZ G o then c (adr (gZ G) (l1 ++ l2) o + (j - (tot (gZ G) l1 + tot (gZ G) s))) else sp j) (s ++ [o]) x := by
  obtain ⟨a1, a2, a3, a4, a5, a6, a7, a8⟩ := h
  have hZ := gZ_pos G
  have ho : o ∈ l1 ++ l2 := List.mem_append_right _ h2
  have hl2 : ∀ q, q ∈ l2 → q ∈ l1 ++ l2 := fun q hq => List.mem_append_right _ hq
  have en : adr (gZ G) (s ++ [o]) o = tot (gZ G) s := adr_new h3
  have el : ∀ q, q ∈ s → adr (gZ G) (s ++ [o]) q = adr (gZ G) s q := fun q hq => adr_l hq
  have hne : ∀ q, q ∈ s → q ≠ o := fun q hq e => h3 (e ▸ hq)
  have hw : ∀ v : AV, (∀ p, v = vO p → p ∈ l1 ++ s) → wE G (l1 ++ (s ++ [o])) v = wE G (l1 ++ s) v := fun v hv => by
    rw [← List.append_assoc]
    exact wE_l hv
  refine ⟨nodup_snoc a1 h3, ?_, ?_, ?_, ?_, ?_, ?_, ?_⟩
  · intro q hq
    rcases mem_snoc.mp hq with hq | rfl
    · exact a2 q hq
    · exact ⟨h2, hP⟩
  · intro q hq
    rcases mem_snoc.mp hq with hq | rfl
    · rw [el q hq, updL_n (fun e => hne q hq (adr_inj hZ (hl2 q (a2 q hq).1) ho e))]
      exact a3 q hq
    · rw [en, updL_e rfl]
  · intro q hq hqs
    have hqo : q ≠ o := fun e => hqs (mem_snoc.mpr (Or.inr e))
    rw [updL_n (fun e => hqo (adr_inj hZ (hl2 q hq) ho e))]
    exact a4 q hq (fun hs => hqs (mem_snoc.mpr (Or.inl hs)))
  · intro q hq i hi hiz
    have hZo := hZ o
    rw [updL_n (fun e => by have := (adr_in (Z := gZ G) (j := 0) (hl2 q hq) ho hiz (by omega) e).2; omega)]
    exact a5 q hq i hi hiz
  · intro a ha
    have e := adr_r (Z := gZ G) (m := l2) h1
    rw [updL_n (by omega)]
    exact a6 a ha
  · intro q hq
    dsimp only
    rcases mem_snoc.mp hq with hq | rfl
    · rw [el q hq]
      have hend := adr_end (Z := gZ G) hq
      have hzq := hZ q
      obtain ⟨b1, b2, b3⟩ := a7 q hq
      refine ⟨?_, ?_, ?_⟩
      · rw [if_neg (by omega)]; exact b1
      · intro i hi hin
        have hiz : i < gZ G q := by
          by_cases e6 : gK G q = 6
          · unfold gNp at hin; rw [if_pos e6] at hin; omega
          · rw [gZ_np e6]; omega
        rw [if_neg (by omega), b2 i hi hin]
        by_cases hxx : tot (gZ G) l1 + adr (gZ G) s q + i < x
        · rw [if_pos hxx, if_pos hxx, hw _ (fun p hp => a8 q hq i p hi hin hxx hp)]
        · rw [if_neg hxx, if_neg hxx]
      · intro e6 j hj
        have hz : gZ G q = 1 + (gC G q + 3) / 4 := by unfold gZ; rw [if_pos e6]
        rw [if_neg (by omega)]
        exact b3 e6 j hj
    · rw [en]
      have hz0 := hZ q
      obtain ⟨b1, b2, b3⟩ := hh q ho
      refine ⟨?_, ?_, ?_⟩
      · rw [if_pos (by omega), show tot (gZ G) l1 + tot (gZ G) s - (tot (gZ G) l1 + tot (gZ G) s) = 0 by omega, Nat.add_zero]
        exact a4 q h2 h3
      · intro i hi hin
        have hiz : i < gZ G q := by
          by_cases e6 : gK G q = 6
          · unfold gNp at hin; rw [if_pos e6] at hin; omega
          · rw [gZ_np e6]; omega
        rw [if_pos (by omega), if_neg (by omega), show tot (gZ G) l1 + tot (gZ G) s + i - (tot (gZ G) l1 + tot (gZ G) s) = i by omega, a5 q h2 i hi hiz]
        exact b2 i hi hin
      · intro e6 j hj
        have hz : gZ G q = 1 + (gC G q + 3) / 4 := by unfold gZ; rw [if_pos e6]
        rw [if_pos (by omega), show tot (gZ G) l1 + tot (gZ G) s + 1 + j - (tot (gZ G) l1 + tot (gZ G) s) = 1 + j by omega, a5 q h2 (1 + j) (by omega) (by omega), ← Nat.add_assoc]
        exact b3 e6 j hj
  · intro q hq i p hi hin hxx hp
    rcases mem_snoc.mp hq with hq | rfl
    · rw [el q hq] at hxx
      have := a8 q hq i p hi hin hxx hp
      rw [← List.append_assoc]
      exact List.mem_append_left _ this
    · rw [en] at hxx
      omega
theorem mv_step {c0 c sp : Nat → Int64} {P : Nat → Prop} {s : List Nat} {x nC nSp : Nat} (hN : 200000 ≤ N) (hG : wf nk nm nid G (l1 ++ l2)) (hn : nm < 134217728) (ht : tot (gZ G) (l1 ++ l2) ≤ nC) (hC : nC ≤ 131072) (hS : nC ≤ nSp) (hS2 : nSp ≤ 131072) (hh : heE G (l1 ++ l2) c0) (h : chn G l1 l2 c0 P c sp s x) (hx : x ≤ tot (gZ G) l1 + tot (gZ G) s) {v : AV} (hv : okV nk nm (l1 ++ l2) v) (hP : ∀ p, v = vO p → p ∈ l2 → P p) :
    ∃ (c' sp' : Nat → Int64) (e : List Nat), (∀ (H_globalsUsed : Int32) (H_used : Int32) (H_old : Int32) (H_oldLeadsToNew : Int32) (H_limit : Int32) (H_every : Int32) (H_fresh : Int32) (H_made : Int32) (H_madeLimit : Int32) (H_reachedFromGlobals : Int32) (H_reachedInAll : Int32) (H_keptGlobalsUsed : Int32) (H_kept : Int32), m_Heap_moved N H_globalsUsed H_used (nI (tot (gZ G) l1 + tot (gZ G) s)) H_old H_oldLeadsToNew H_limit H_every H_fresh H_made H_madeLimit H_reachedFromGlobals H_reachedInAll H_keptGlobalsUsed H_kept nC c nSp sp (wE G (l1 ++ l2) v) (nI (tot (gZ G) l1)) = some (wE G (l1 ++ (s ++ e)) v, c', sp', nI (tot (gZ G) l1 + tot (gZ G) (s ++ e)))) ∧ chn G l1 l2 c0 P c' sp' (s ++ e) x ∧ (∀ p, v = vO p → p ∈ l1 ++ (s ++ e)) := by
  have htA := tot_append (gZ G) l1 l2
  rcases v with m | ⟨k, i⟩ | o
  · have hk : kdW (wE G (l1 ++ l2) (vS m)) = nI 0 := kd_wE (v := vS m) (by show 0 < 8; omega)
    refine ⟨c, sp, [], ?_, by rw [List.append_nil]; exact h, fun p hp => by cases hp⟩
    rw [List.append_nil]
    intros
    unfold m_Heap_moved
    simp (disch := omega) only [q_o, q_0, q_1, q_2, q_3, q_4, q_5, q_6, q_7, q_8, q_9, q_10, q_11, q_12, q_13, q_14, q_15, q_16, q_17, q_18, q_19, q_20, q_21, q_22, q_23, q_24, q_25, q_26, q_27, q_28, q_29, q_30, q_31, q_32, q_33, q_34, q_35, q_36, q_37, q_38, q_39, q_40, q_41, q_42, q_43, q_44, q_45, q_46, q_47, q_48, q_49, q_50, q_51, q_52, q_53, q_63, q_64, q_126, q_128, q_255, q_512, q_1024, q_1026, q_2000, q_2048, q_2049, q_4095, q_4096, q_8192, q_16383, q_65535, q_65536, q_69632, q_131072, q_132000, q_262144, q_300000, q_1000000, q_lt_t, q_lt_f, q_le_t, q_le_f, q_eq_t, q_eq_f, q_cl, q_add, q_mul, q_sub, q_nle_f, q_nle_t, q_nlt_f, q_nlt_t, q_neq_f, eq_self, q_n1, q_n2, q_m1, q_m1', q_m2, q_m21, q_m0, q_ml, upd_e, upd_n, updL_e, updL_n, updF_e, updF_n, let_d, tk_s, bind_s, or_false, false_or, and_true, true_and, if_true, if_false, ite_true, ite_false, reduceIte, not_true, not_false_iff, Nat.zero_add, Nat.add_zero, Nat.sub_zero, f_kd, hk]
    rfl
  · have hk : kdW (wE G (l1 ++ l2) (vN k i)) = nI 1 := kd_wE (v := vN k i) (by show 1 < 8; omega)
    refine ⟨c, sp, [], ?_, by rw [List.append_nil]; exact h, fun p hp => by cases hp⟩
    rw [List.append_nil]
    intros
    unfold m_Heap_moved
    simp (disch := omega) only [q_o, q_0, q_1, q_2, q_3, q_4, q_5, q_6, q_7, q_8, q_9, q_10, q_11, q_12, q_13, q_14, q_15, q_16, q_17, q_18, q_19, q_20, q_21, q_22, q_23, q_24, q_25, q_26, q_27, q_28, q_29, q_30, q_31, q_32, q_33, q_34, q_35, q_36, q_37, q_38, q_39, q_40, q_41, q_42, q_43, q_44, q_45, q_46, q_47, q_48, q_49, q_50, q_51, q_52, q_53, q_63, q_64, q_126, q_128, q_255, q_512, q_1024, q_1026, q_2000, q_2048, q_2049, q_4095, q_4096, q_8192, q_16383, q_65535, q_65536, q_69632, q_131072, q_132000, q_262144, q_300000, q_1000000, q_lt_t, q_lt_f, q_le_t, q_le_f, q_eq_t, q_eq_f, q_cl, q_add, q_mul, q_sub, q_nle_f, q_nle_t, q_nlt_f, q_nlt_t, q_neq_f, eq_self, q_n1, q_n2, q_m1, q_m1', q_m2, q_m21, q_m0, q_ml, upd_e, upd_n, updL_e, updL_n, updF_e, updF_n, let_d, tk_s, bind_s, or_false, false_or, and_true, true_and, if_true, if_false, ite_true, ite_false, reduceIte, not_true, not_false_iff, Nat.zero_add, Nat.add_zero, Nat.sub_zero, f_kd, hk]
    rfl
  · have hv : o ∈ l1 ++ l2 := hv
    obtain ⟨ho1, hO, hpar, _⟩ := hG.2 o hv
    have hk := okO_K hO
    have hend := adr_end (Z := gZ G) hv
    have hZ0 := gZ_pos G o
    have hkd : kdW (wE G (l1 ++ l2) (vO o)) = nI (gK G o) := kd_wE (v := vO o) hk.2
    have hnu : nuW (wE G (l1 ++ l2) (vO o)) = nI (adr (gZ G) (l1 ++ l2) o) := nu_wE (v := vO o) hk.2 (show okV nk nm (l1 ++ l2) (vO o) from hv) hn (by omega)
    by_cases h1 : o ∈ l1
    · have ha := adr_end (Z := gZ G) h1
      have ea : adr (gZ G) (l1 ++ l2) o = adr (gZ G) l1 o := adr_l h1
      refine ⟨c, sp, [], ?_, by rw [List.append_nil]; exact h, fun p hp => by cases hp; exact List.mem_append_left _ h1⟩
      rw [List.append_nil]
      intros
      unfold m_Heap_moved
      simp (disch := omega) only [q_o, q_0, q_1, q_2, q_3, q_4, q_5, q_6, q_7, q_8, q_9, q_10, q_11, q_12, q_13, q_14, q_15, q_16, q_17, q_18, q_19, q_20, q_21, q_22, q_23, q_24, q_25, q_26, q_27, q_28, q_29, q_30, q_31, q_32, q_33, q_34, q_35, q_36, q_37, q_38, q_39, q_40, q_41, q_42, q_43, q_44, q_45, q_46, q_47, q_48, q_49, q_50, q_51, q_52, q_53, q_63, q_64, q_126, q_128, q_255, q_512, q_1024, q_1026, q_2000, q_2048, q_2049, q_4095, q_4096, q_8192, q_16383, q_65535, q_65536, q_69632, q_131072, q_132000, q_262144, q_300000, q_1000000, q_lt_t, q_lt_f, q_le_t, q_le_f, q_eq_t, q_eq_f, q_cl, q_add, q_mul, q_sub, q_nle_f, q_nle_t, q_nlt_f, q_nlt_t, q_neq_f, eq_self, q_n1, q_n2, q_m1, q_m1', q_m2, q_m21, q_m0, q_ml, upd_e, upd_n, updL_e, updL_n, updF_e, updF_n, let_d, tk_s, bind_s, or_false, false_or, and_true, true_and, if_true, if_false, ite_true, ite_false, reduceIte, not_true, not_false_iff, Nat.zero_add, Nat.add_zero, Nat.sub_zero, f_kd, f_nu, hkd, hnu]
      rw [wE_l (l := l1) (m := l2) (fun p hp => by cases hp; exact h1), wE_l (l := l1) (m := s) (fun p hp => by cases hp; exact h1)]
    · have h2 : o ∈ l2 := (List.mem_append.mp hv).resolve_left h1
      have ea : adr (gZ G) (l1 ++ l2) o = tot (gZ G) l1 + adr (gZ G) l2 o := adr_r h1
      have hst : tot (gZ G) s ≤ tot (gZ G) l2 := tot_sub h.1 (fun q hq => (h.2.1 q hq).1)
      by_cases h3 : o ∈ s
      · have hc := h.2.2.1 o h3
        have hend2 := adr_end (Z := gZ G) h3
        have hk0 : kdW (lN ((tot (gZ G) l1 + adr (gZ G) s o) * 8)) = nI 0 := (kd_lN _).trans (by congr 1; omega)
        refine ⟨c, sp, [], ?_, by rw [List.append_nil]; exact h, fun p hp => by cases hp; rw [List.append_nil]; exact List.mem_append_right _ h3⟩
        rw [List.append_nil]
        intros
        unfold m_Heap_moved
        simp (disch := omega) only [q_o, q_0, q_1, q_2, q_3, q_4, q_5, q_6, q_7, q_8, q_9, q_10, q_11, q_12, q_13, q_14, q_15, q_16, q_17, q_18, q_19, q_20, q_21, q_22, q_23, q_24, q_25, q_26, q_27, q_28, q_29, q_30, q_31, q_32, q_33, q_34, q_35, q_36, q_37, q_38, q_39, q_40, q_41, q_42, q_43, q_44, q_45, q_46, q_47, q_48, q_49, q_50, q_51, q_52, q_53, q_63, q_64, q_126, q_128, q_255, q_512, q_1024, q_1026, q_2000, q_2048, q_2049, q_4095, q_4096, q_8192, q_16383, q_65535, q_65536, q_69632, q_131072, q_132000, q_262144, q_300000, q_1000000, q_lt_t, q_lt_f, q_le_t, q_le_f, q_eq_t, q_eq_f, q_cl, q_add, q_mul, q_sub, q_nle_f, q_nle_t, q_nlt_f, q_nlt_t, q_neq_f, eq_self, q_n1, q_n2, q_m1, q_m1', q_m2, q_m21, q_m0, q_ml, upd_e, upd_n, updL_e, updL_n, updF_e, updF_n, let_d, tk_s, bind_s, or_false, false_or, and_true, true_and, if_true, if_false, ite_true, ite_false, reduceIte, not_true, not_false_iff, Nat.zero_add, Nat.add_zero, Nat.sub_zero, f_kd, f_nu, hkd, hnu, hc, hk0]
        rw [q_l (n := gK G o) (by omega), g_or (k := 3) (p := 8) (by decide) hk.2 (by omega)]
        show _ = some (obW (gK G o) (adr (gZ G) (l1 ++ s) o), _, _, _)
        rw [adr_r (m := s) h1]
        rfl
      · have hc := h.2.2.2.1 o h2 h3
        have hst2 : tot (gZ G) (s ++ [o]) ≤ tot (gZ G) l2 := tot_sub (nodup_snoc h.1 h3) (fun q hq => by
          rcases mem_snoc.mp hq with hq | rfl
          · exact (h.2.1 q hq).1
          · exact h2)
        have hst3 : tot (gZ G) (s ++ [o]) = tot (gZ G) s + gZ G o := by rw [tot_append]; rfl
        have hkh : kdW (hE G o) = nI (gK G o) := kd_hE hk.2
        refine ⟨_, _, [o], ?_, chn_new hG hh h hx h1 h2 h3 (hP o rfl h2), fun p hp => by cases hp; exact List.mem_append_right _ (List.mem_append_right _ (List.mem_singleton.mpr rfl))⟩
        have hcp := fun (k : Int32 → (Nat → Int64) → Option (Int64 × (Nat → Int64) × (Nat → Int64) × Int32)) => mv_copy (N := N) (k := k) (b := tot (gZ G) l1 + tot (gZ G) s) (z := gZ G o) (c := c) (nSp := nSp) hnu (show _ ≤ nC by omega) (by omega) hC hS2 N 0 sp (by omega) (by omega)
        intros
        unfold m_Heap_moved
        simp (disch := omega) only [q_o, q_0, q_1, q_2, q_3, q_4, q_5, q_6, q_7, q_8, q_9, q_10, q_11, q_12, q_13, q_14, q_15, q_16, q_17, q_18, q_19, q_20, q_21, q_22, q_23, q_24, q_25, q_26, q_27, q_28, q_29, q_30, q_31, q_32, q_33, q_34, q_35, q_36, q_37, q_38, q_39, q_40, q_41, q_42, q_43, q_44, q_45, q_46, q_47, q_48, q_49, q_50, q_51, q_52, q_53, q_63, q_64, q_126, q_128, q_255, q_512, q_1024, q_1026, q_2000, q_2048, q_2049, q_4095, q_4096, q_8192, q_16383, q_65535, q_65536, q_69632, q_131072, q_132000, q_262144, q_300000, q_1000000, q_lt_t, q_lt_f, q_le_t, q_le_f, q_eq_t, q_eq_f, q_cl, q_add, q_mul, q_sub, q_nle_f, q_nle_t, q_nlt_f, q_nlt_t, q_neq_f, eq_self, q_n1, q_n2, q_m1, q_m1', q_m2, q_m21, q_m0, q_ml, upd_e, upd_n, updL_e, updL_n, updF_e, updF_n, let_d, tk_s, bind_s, or_false, false_or, and_true, true_and, if_true, if_false, ite_true, ite_false, reduceIte, not_true, not_false_iff, Nat.zero_add, Nat.add_zero, Nat.sub_zero, f_kd, f_nu, hkd, hnu, hc, hkh, mv_size hO hn hkd, hcp, f_sc, f_ob']
        show _ = some (obW (gK G o) (adr (gZ G) (l1 ++ (s ++ [o])) o), _, _, _)
        rw [adr_r (m := s ++ [o]) h1, adr_new h3, hst3, ← Nat.add_assoc (tot (gZ G) l1) (tot (gZ G) s) (gZ G o), scW_nI (by omega)]
end MV
