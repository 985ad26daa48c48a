/-! All that waits is gone through -/
section MV
variable {G : Nat → GO} {l1 l2 : List Nat} {nk : Nat → Nat} {nm nid : Nat} {N : Nat}
theorem sizeOf_hE {o : Nat} (h : okO nk nm G o) (hn : nm < 134217728) : ∀ (H_globalsUsed : Int32) (H_used : Int32) (H_spareUsed : Int32) (H_old : Int32) (H_oldLeadsToNew : Int32) (H_limit : Int32) (H_every : Int32) (H_fresh : Int32) (H_made : Int32) (H_madeLimit : Int32) (H_reachedFromGlobals : Int32) (H_reachedInAll : Int32) (H_keptGlobalsUsed : Int32) (H_kept : Int32), m_Heap_sizeOf N H_globalsUsed H_used H_spareUsed H_old H_oldLeadsToNew H_limit H_every H_fresh H_made H_madeLimit H_reachedFromGlobals H_reachedInAll H_keptGlobalsUsed H_kept (hE G o) = some (nI (gZ G o)) := by
  intros
  have hz := okO_Z h hn
  have hk := okO_K h
  have hnu := nu_hE h hn
  have hw : kdW (hE G o) = nI (gK G o) := kd_hE hk.2
  unfold m_Heap_sizeOf
  by_cases e6 : gK G o = 6
  · rw [if_pos e6] at hnu
    have h6 := hz.2.2.2 e6
    have eZ : gZ G o = 1 + (gC G o + 3) / 4 := by unfold gZ; rw [if_pos e6]
    simp (disch := omega) only [q_o, q_0, q_1, q_2, q_3, q_4, q_5, q_6, q_7, q_8, q_9, q_10, q_11, q_12, q_13, q_14, q_15, q_16, q_17, q_18, q_19, q_20, q_21, q_22, q_23, q_24, q_25, q_26, q_27, q_28, q_29, q_30, q_31, q_32, q_33, q_34, q_35, q_36, q_37, q_38, q_39, q_40, q_41, q_42, q_43, q_44, q_45, q_46, q_47, q_48, q_49, q_50, q_51, q_52, q_53, q_63, q_64, q_126, q_128, q_255, q_512, q_1024, q_1026, q_2000, q_2048, q_2049, q_4095, q_4096, q_8192, q_16383, q_65535, q_65536, q_69632, q_131072, q_132000, q_262144, q_300000, q_1000000, q_lt_t, q_lt_f, q_le_t, q_le_f, q_eq_t, q_eq_f, q_cl, q_add, q_mul, q_sub, q_nle_f, q_nle_t, q_nlt_f, q_nlt_t, q_neq_f, eq_self, q_n1, q_n2, q_m1, q_m1', q_m2, q_m21, q_m0, q_ml, upd_e, upd_n, updL_e, updL_n, updF_e, updF_n, let_d, tk_s, bind_s, or_false, false_or, and_true, true_and, if_true, if_false, ite_true, ite_false, reduceIte, not_true, not_false_iff, Nat.zero_add, Nat.add_zero, Nat.sub_zero, f_kd, f_nu, hw, hnu, e6, q_div4]
    rw [eZ]
  · by_cases e7 : gK G o = 7
    · have eZ : gZ G o = 2 := by unfold gZ; rw [if_neg e6, if_pos e7]
      simp (disch := omega) only [q_o, q_0, q_1, q_2, q_3, q_4, q_5, q_6, q_7, q_8, q_9, q_10, q_11, q_12, q_13, q_14, q_15, q_16, q_17, q_18, q_19, q_20, q_21, q_22, q_23, q_24, q_25, q_26, q_27, q_28, q_29, q_30, q_31, q_32, q_33, q_34, q_35, q_36, q_37, q_38, q_39, q_40, q_41, q_42, q_43, q_44, q_45, q_46, q_47, q_48, q_49, q_50, q_51, q_52, q_53, q_63, q_64, q_126, q_128, q_255, q_512, q_1024, q_1026, q_2000, q_2048, q_2049, q_4095, q_4096, q_8192, q_16383, q_65535, q_65536, q_69632, q_131072, q_132000, q_262144, q_300000, q_1000000, q_lt_t, q_lt_f, q_le_t, q_le_f, q_eq_t, q_eq_f, q_cl, q_add, q_mul, q_sub, q_nle_f, q_nle_t, q_nlt_f, q_nlt_t, q_neq_f, eq_self, q_n1, q_n2, q_m1, q_m1', q_m2, q_m21, q_m0, q_ml, upd_e, upd_n, updL_e, updL_n, updF_e, updF_n, let_d, tk_s, bind_s, or_false, false_or, and_true, true_and, if_true, if_false, ite_true, ite_false, reduceIte, not_true, not_false_iff, Nat.zero_add, Nat.add_zero, Nat.sub_zero, f_kd, hw, e7]
      rw [eZ]
    · have eZ : gZ G o = 1 + gC G o := by unfold gZ; rw [if_neg e6, if_neg e7]
      have hc := cn_hE h hn e6
      simp (disch := omega) only [q_o, q_0, q_1, q_2, q_3, q_4, q_5, q_6, q_7, q_8, q_9, q_10, q_11, q_12, q_13, q_14, q_15, q_16, q_17, q_18, q_19, q_20, q_21, q_22, q_23, q_24, q_25, q_26, q_27, q_28, q_29, q_30, q_31, q_32, q_33, q_34, q_35, q_36, q_37, q_38, q_39, q_40, q_41, q_42, q_43, q_44, q_45, q_46, q_47, q_48, q_49, q_50, q_51, q_52, q_53, q_63, q_64, q_126, q_128, q_255, q_512, q_1024, q_1026, q_2000, q_2048, q_2049, q_4095, q_4096, q_8192, q_16383, q_65535, q_65536, q_69632, q_131072, q_132000, q_262144, q_300000, q_1000000, q_lt_t, q_lt_f, q_le_t, q_le_f, q_eq_t, q_eq_f, q_cl, q_add, q_mul, q_sub, q_nle_f, q_nle_t, q_nlt_f, q_nlt_t, q_neq_f, eq_self, q_n1, q_n2, q_m1, q_m1', q_m2, q_m21, q_m0, q_ml, upd_e, upd_n, updL_e, updL_n, updF_e, updF_n, let_d, tk_s, bind_s, or_false, false_or, and_true, true_and, if_true, if_false, ite_true, ite_false, reduceIte, not_true, not_false_iff, Nat.zero_add, Nat.add_zero, Nat.sub_zero, f_kd, f_cn, hw, hc]
      rw [eZ]
theorem chn_mono {c0 c sp : Nat → Int64} {P : Nat → Prop} {s : List Nat} {x y : Nat} (h : chn G l1 l2 c0 P c sp s x) (hxy : x ≤ y) (hno : ∀ q, q ∈ s → ∀ i, 1 ≤ i → i ≤ gNp G q → tot (gZ G) l1 + adr (gZ G) s q + i < y → tot (gZ G) l1 + adr (gZ G) s q + i < x) : chn G l1 l2 c0 P c sp s y := by
  obtain ⟨a1, a2, a3, a4, a5, a6, a7, a8⟩ := h
  refine ⟨a1, a2, a3, a4, a5, a6, ?_, ?_⟩
  · intro q hq
    obtain ⟨d1, d2, d3⟩ := a7 q hq
    refine ⟨d1, ?_, d3⟩
    intro i hi hin
    rw [d2 i hi hin]
    by_cases e : tot (gZ G) l1 + adr (gZ G) s q + i < y
    · rw [if_pos e, if_pos (hno q hq i hi hin e)]
    · rw [if_neg e, if_neg (by omega)]
  · intro q hq i p hi hin hlt hp
    exact a8 q hq i p hi hin (hno q hq i hi hin hlt) hp
theorem chn_P {c0 c sp : Nat → Int64} {P Q : Nat → Prop} {s : List Nat} {x : Nat} (h : chn G l1 l2 c0 P c sp s x) (hPQ : ∀ o, P o → Q o) : chn G l1 l2 c0 Q c sp s x := by
  obtain ⟨a1, a2, a3⟩ := h
  exact ⟨a1, fun o ho => ⟨(a2 o ho).1, hPQ o (a2 o ho).2⟩, a3⟩
theorem np_lt {q i : Nat} (h : i ≤ gNp G q) (hi : 1 ≤ i) : i < gZ G q ∧ gK G q ≠ 6 := by
  by_cases e6 : gK G q = 6
  · unfold gNp at h; rw [if_pos e6] at h; omega
  · exact ⟨by rw [gZ_np e6]; omega, e6⟩
theorem scan14 {c0 : Nat → Int64} {P : Nat → Prop} {nC nSp : Nat} (hN : 200000 ≤ N) (hF : fxd nk nm nid G l1 l2 c0 P nC nSp) :
    ∀ (n : Nat) (d t0 : List Nat) (c sp : Nat → Int64) (turn : Nat), turn ≤ d.length → 131073 - d.length < n → chn G l1 l2 c0 P c sp (d ++ t0) (tot (gZ G) l1 + tot (gZ G) d) →
    ∃ (c' sp' : Nat → Int64) (t : List Nat) (turn' : Int32), (∀ (H_globalsUsed : Int32) (H_used : Int32) (H_old : Int32) (H_oldLeadsToNew : Int32) (H_limit : Int32) (H_every : Int32) (H_fresh : Int32) (H_made : Int32) (H_madeLimit : Int32) (H_reachedFromGlobals : Int32) (H_reachedInAll : Int32) (H_keptGlobalsUsed : Int32) (H_kept : Int32), ∀ (α : Type) (k : Int32 → Int32 → (Nat → Int64) → (Nat → Int64) → Int32 → Option (α × Nat × Nat)), lm_Heap_gather_14 N H_globalsUsed H_used H_old H_oldLeadsToNew H_limit H_every H_fresh H_made H_madeLimit H_keptGlobalsUsed H_kept nC (nI (tot (gZ G) l1)) nSp H_reachedFromGlobals H_reachedInAll k n (nI (tot (gZ G) l1 + tot (gZ G) d)) (nI turn) c sp (nI (tot (gZ G) l1 + tot (gZ G) (d ++ t0))) = k (nI (tot (gZ G) l1 + tot (gZ G) ((d ++ t0) ++ t))) turn' c' sp' (nI (tot (gZ G) l1 + tot (gZ G) ((d ++ t0) ++ t)))) ∧
      chn G l1 l2 c0 P c' sp' ((d ++ t0) ++ t) (tot (gZ G) l1 + tot (gZ G) ((d ++ t0) ++ t))
  | 0, d, t0, c, sp, turn, _, h, _ => absurd h (Nat.not_lt_zero _)
  | n + 1, d, [], c, sp, turn, ht, h, hc => by
    refine ⟨c, sp, [], nI turn, ?_, by rw [List.append_nil, List.append_nil] at *; exact hc⟩
    intros
    have hst : tot (gZ G) (d ++ []) ≤ tot (gZ G) l2 := tot_sub hc.1 (fun q hq => (hc.2.1 q hq).1)
    rw [List.append_nil] at hst
    have htA := tot_append (gZ G) l1 l2
    have h3 := hF.2.2.1
    have h4 := hF.2.2.2.1
    have hlen := tot_len (Z := gZ G) (l := d) (k := 1) (fun o _ => gZ_pos G o)
    rw [lm_Heap_gather_14, List.append_nil, List.append_nil]
    by_cases e : 131072 ≤ turn
    · simp (disch := omega) only [q_o, q_0, q_1, q_2, q_3, q_4, q_5, q_6, q_7, q_8, q_9, q_10, q_11, q_12, q_13, q_14, q_15, q_16, q_17, q_18, q_19, q_20, q_21, q_22, q_23, q_24, q_25, q_26, q_27, q_28, q_29, q_30, q_31, q_32, q_33, q_34, q_35, q_36, q_37, q_38, q_39, q_40, q_41, q_42, q_43, q_44, q_45, q_46, q_47, q_48, q_49, q_50, q_51, q_52, q_53, q_63, q_64, q_126, q_128, q_255, q_512, q_1024, q_1026, q_2000, q_2048, q_2049, q_4095, q_4096, q_8192, q_16383, q_65535, q_65536, q_69632, q_131072, q_132000, q_262144, q_300000, q_1000000, q_lt_t, q_lt_f, q_le_t, q_le_f, q_eq_t, q_eq_f, q_cl, q_add, q_mul, q_sub, q_nle_f, q_nle_t, q_nlt_f, q_nlt_t, q_neq_f, eq_self, q_n1, q_n2, q_m1, q_m1', q_m2, q_m21, q_m0, q_ml, upd_e, upd_n, updL_e, updL_n, updF_e, updF_n, let_d, tk_s, bind_s, or_false, false_or, and_true, true_and, if_true, if_false, ite_true, ite_false, reduceIte, not_true, not_false_iff, Nat.zero_add, Nat.add_zero, Nat.sub_zero]
    · simp (disch := omega) only [q_o, q_0, q_1, q_2, q_3, q_4, q_5, q_6, q_7, q_8, q_9, q_10, q_11, q_12, q_13, q_14, q_15, q_16, q_17, q_18, q_19, q_20, q_21, q_22, q_23, q_24, q_25, q_26, q_27, q_28, q_29, q_30, q_31, q_32, q_33, q_34, q_35, q_36, q_37, q_38, q_39, q_40, q_41, q_42, q_43, q_44, q_45, q_46, q_47, q_48, q_49, q_50, q_51, q_52, q_53, q_63, q_64, q_126, q_128, q_255, q_512, q_1024, q_1026, q_2000, q_2048, q_2049, q_4095, q_4096, q_8192, q_16383, q_65535, q_65536, q_69632, q_131072, q_132000, q_262144, q_300000, q_1000000, q_lt_t, q_lt_f, q_le_t, q_le_f, q_eq_t, q_eq_f, q_cl, q_add, q_mul, q_sub, q_nle_f, q_nle_t, q_nlt_f, q_nlt_t, q_neq_f, eq_self, q_n1, q_n2, q_m1, q_m1', q_m2, q_m21, q_m0, q_ml, upd_e, upd_n, updL_e, updL_n, updF_e, updF_n, let_d, tk_s, bind_s, or_false, false_or, and_true, true_and, if_true, if_false, ite_true, ite_false, reduceIte, not_true, not_false_iff, Nat.zero_add, Nat.add_zero, Nat.sub_zero]
  | n + 1, d, o :: t1, c, sp, turn, ht, h, hc => by
    have hst : tot (gZ G) (d ++ o :: t1) ≤ tot (gZ G) l2 := tot_sub hc.1 (fun q hq => (hc.2.1 q hq).1)
    have htA := tot_append (gZ G) l1 l2
    have hn := hF.2.1
    have h3 := hF.2.2.1
    have h4 := hF.2.2.2.1
    have h5 := hF.2.2.2.2.1
    have h5' := hF.2.2.2.2.2.1
    have hse : tot (gZ G) (d ++ o :: t1) = tot (gZ G) d + (gZ G o + tot (gZ G) t1) := by rw [tot_append]; rfl
    have hlen := tot_len (Z := gZ G) (l := d) (k := 1) (fun o _ => gZ_pos G o)
    have hod : o ∉ d := fun hod => (List.nodup_append.mp hc.1).2.2 o hod o (List.mem_cons_self ..) rfl
    have ho : o ∈ d ++ o :: t1 := List.mem_append_right _ (List.mem_cons_self ..)
    have ea : adr (gZ G) (d ++ o :: t1) o = tot (gZ G) d := by
      rw [adr_r hod]
      simp [adr]
    have hZo := gZ_pos G o
    obtain ⟨hl2, hPo⟩ := hc.2.1 o ho
    have hol : o ∈ l1 ++ l2 := List.mem_append_right _ hl2
    have hO := (hF.1.2 o hol).2.1
    have hk := okO_K hO
    have hw : kdW (hE G o) = nI (gK G o) := kd_hE hk.2
    have hsp : sp (tot (gZ G) l1 + tot (gZ G) d) = hE G o := by
      have := (hc.2.2.2.2.2.2.1 o ho).1
      rw [ea] at this
      exact this
    have hdis : ∀ q, q ∈ d ++ o :: t1 → ∀ i, i < gZ G q → tot (gZ G) l1 + tot (gZ G) d ≤ tot (gZ G) l1 + adr (gZ G) (d ++ o :: t1) q + i → tot (gZ G) l1 + adr (gZ G) (d ++ o :: t1) q + i < tot (gZ G) l1 + tot (gZ G) d + gZ G o → q = o := by
      intro q hq i hi h1 h2
      exact (adr_in (Z := gZ G) (i := i) (j := adr (gZ G) (d ++ o :: t1) q + i - tot (gZ G) d) hq ho hi (by omega) (by rw [ea]; omega)).1
    have hd1 : (d ++ [o]).length = d.length + 1 := by simp
    have hd2 : tot (gZ G) (d ++ [o]) = tot (gZ G) d + gZ G o := by rw [tot_append]; rfl
    by_cases e6 : gK G o = 6
    · have hnp : gNp G o = 0 := by unfold gNp; rw [if_pos e6]
      have hc1 : chn G l1 l2 c0 P c sp ((d ++ [o]) ++ t1) (tot (gZ G) l1 + tot (gZ G) (d ++ [o])) := by
        rw [List.append_assoc, hd2]
        show chn G l1 l2 c0 P c sp (d ++ o :: t1) _
        refine chn_mono hc (by omega) ?_
        intro q hq i hi hin hlt
        by_cases hge : tot (gZ G) l1 + tot (gZ G) d ≤ tot (gZ G) l1 + adr (gZ G) (d ++ o :: t1) q + i
        · have := hdis q hq i (np_lt hin hi).1 hge (by omega)
          subst this
          omega
        · omega
      obtain ⟨c2, sp2, t2, tn2, r1, r2⟩ := scan14 hN hF n (d ++ [o]) t1 c sp (turn + 1) (by omega) (by omega) hc1
      have hs0 : d ++ [o] ++ t1 = d ++ o :: t1 := by simp
      rw [hs0] at r1 r2
      refine ⟨c2, sp2, t2, tn2, ?_, r2⟩
      intros
      rw [hd2, ← Nat.add_assoc] at r1
      rw [lm_Heap_gather_14]
      simp (disch := omega) only [q_o, q_0, q_1, q_2, q_3, q_4, q_5, q_6, q_7, q_8, q_9, q_10, q_11, q_12, q_13, q_14, q_15, q_16, q_17, q_18, q_19, q_20, q_21, q_22, q_23, q_24, q_25, q_26, q_27, q_28, q_29, q_30, q_31, q_32, q_33, q_34, q_35, q_36, q_37, q_38, q_39, q_40, q_41, q_42, q_43, q_44, q_45, q_46, q_47, q_48, q_49, q_50, q_51, q_52, q_53, q_63, q_64, q_126, q_128, q_255, q_512, q_1024, q_1026, q_2000, q_2048, q_2049, q_4095, q_4096, q_8192, q_16383, q_65535, q_65536, q_69632, q_131072, q_132000, q_262144, q_300000, q_1000000, q_lt_t, q_lt_f, q_le_t, q_le_f, q_eq_t, q_eq_f, q_cl, q_add, q_mul, q_sub, q_nle_f, q_nle_t, q_nlt_f, q_nlt_t, q_neq_f, eq_self, q_n1, q_n2, q_m1, q_m1', q_m2, q_m21, q_m0, q_ml, upd_e, upd_n, updL_e, updL_n, updF_e, updF_n, let_d, tk_s, bind_s, or_false, false_or, and_true, true_and, if_true, if_false, ite_true, ite_false, reduceIte, not_true, not_false_iff, Nat.zero_add, Nat.add_zero, Nat.sub_zero, hsp, sizeOf_hE hO hn, lm_Heap_gather_15, f_kd, hw, r1]
    · have hc1 : chn G l1 l2 c0 P c sp (d ++ o :: t1) (tot (gZ G) l1 + tot (gZ G) d + 1) := by
        refine chn_mono hc (by omega) ?_
        intro q hq i hi hin hlt
        by_cases hge : tot (gZ G) l1 + tot (gZ G) d ≤ tot (gZ G) l1 + adr (gZ G) (d ++ o :: t1) q + i
        · have := hdis q hq i (np_lt hin hi).1 hge (by omega)
          subst this
          omega
        · omega
      obtain ⟨c1, sp1, e1, m1, m2⟩ := scan16 hN hF e6 N 1 c sp (d ++ o :: t1) (by omega) (by omega) (by have := (okO_Z hO hn).1; omega) rfl hc1
      have hs1 : (d ++ o :: t1) ++ e1 = (d ++ [o]) ++ (t1 ++ e1) := by simp
      rw [hs1] at m1 m2
      rw [Nat.add_assoc, ← hd2] at m2
      obtain ⟨c2, sp2, t2, tn2, r1, r2⟩ := scan14 hN hF n (d ++ [o]) (t1 ++ e1) c1 sp1 (turn + 1) (by omega) (by omega) m2
      have hs2 : ((d ++ [o]) ++ (t1 ++ e1)) ++ t2 = (d ++ o :: t1) ++ (e1 ++ t2) := by simp
      refine ⟨c2, sp2, e1 ++ t2, tn2, ?_, by rw [← hs2]; exact r2⟩
      intros
      rw [← hs2]
      rw [lm_Heap_gather_14]
      rw [hd2, ← Nat.add_assoc] at r1
      simp (disch := omega) only [q_o, q_0, q_1, q_2, q_3, q_4, q_5, q_6, q_7, q_8, q_9, q_10, q_11, q_12, q_13, q_14, q_15, q_16, q_17, q_18, q_19, q_20, q_21, q_22, q_23, q_24, q_25, q_26, q_27, q_28, q_29, q_30, q_31, q_32, q_33, q_34, q_35, q_36, q_37, q_38, q_39, q_40, q_41, q_42, q_43, q_44, q_45, q_46, q_47, q_48, q_49, q_50, q_51, q_52, q_53, q_63, q_64, q_126, q_128, q_255, q_512, q_1024, q_1026, q_2000, q_2048, q_2049, q_4095, q_4096, q_8192, q_16383, q_65535, q_65536, q_69632, q_131072, q_132000, q_262144, q_300000, q_1000000, q_lt_t, q_lt_f, q_le_t, q_le_f, q_eq_t, q_eq_f, q_cl, q_add, q_mul, q_sub, q_nle_f, q_nle_t, q_nlt_f, q_nlt_t, q_neq_f, eq_self, q_n1, q_n2, q_m1, q_m1', q_m2, q_m21, q_m0, q_ml, upd_e, upd_n, updL_e, updL_n, updF_e, updF_n, let_d, tk_s, bind_s, or_false, false_or, and_true, true_and, if_true, if_false, ite_true, ite_false, reduceIte, not_true, not_false_iff, Nat.zero_add, Nat.add_zero, Nat.sub_zero, hsp, sizeOf_hE hO hn, lm_Heap_gather_15, f_kd, hw, m1, r1]
end MV
