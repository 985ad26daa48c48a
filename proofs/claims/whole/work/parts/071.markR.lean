/-! The reference marks all that is reached -/
section RF
variable {G : Nat → GO} {l : List Nat} {nk : Nat → Nat} {nm nid : Nat} {N : Nat}
theorem sameF_t {F F' F'' : Nat → Nat → Int32} (h : sameF F F') (h' : sameF F' F'') : sameF F F'' := fun k hk => (h' k hk).trans (h k hk)
theorem sameI_t {I I' I'' : Nat → Int32} (h : sameI I I') (h' : sameI I' I'') : sameI I I'' := fun k h1 h2 => (h' k h1 h2).trans (h k h1 h2)
theorem mem_3 {dn e wl : List Nat} {p : Nat} (h : p ∈ dn ++ wl) : p ∈ dn ++ (e ++ wl) := by
  rcases List.mem_append.mp h with h | h
  · exact List.mem_append_left _ h
  · exact List.mem_append_right _ (List.mem_append_right _ h)
/-- what is fixed while marking -/
def fxR (nk : Nat → Nat) (nm nid : Nat) (G : Nat → GO) (l : List Nat) (P : Nat → Prop) : Prop :=
  wf nk nm nid G l ∧ nm < 134217728 ∧ tot (gZ G) l ≤ 131072 ∧ (∀ q p i, P q → 1 ≤ i → i ≤ gNp G q → gP G q i = vO p → P p)
theorem mAll2_R {P : Nat → Prop} {o : Nat} {I0 : Nat → Int32} (hF : fxR nk nm nid G l P) (ho : o ∈ l) (hP : P o) (h0 : I0 50 = nI (adr (gZ G) l o)) :
    ∀ (n i : Nat) (F : Nat → Nat → Int32) (I : Nat → Int32) (dn wl : List Nat), 1 ≤ i → i ≤ gNp G o + 1 → gNp G o + 1 - i < n → heR G l (F 0) (F 1) → mst G l P (F 2) (I 50) (I 51) dn wl →
    ∃ (F' : Nat → Nat → Int32) (I' : Nat → Int32) (e : List Nat), (∀ (ζ : Type) (k : Int32 → (Nat → Nat → Int32) → (Nat → Int32) → Option ζ), lm_Model_markAll_2 N I0 k n (nI i) F I = k (nI (gNp G o + 1)) F' I') ∧ sameF F F' ∧ sameI I I' ∧ mst G l P (F' 2) (I' 50) (I' 51) dn (e ++ wl) ∧ (∀ j p, i ≤ j → j ≤ gNp G o → gP G o j = vO p → p ∈ dn ++ (e ++ wl))
  | 0, i, F, I, dn, wl, _, _, h, _, _ => absurd h (Nat.not_lt_zero _)
  | n + 1, i, F, I, dn, wl, hi1, hi, h, hh, hm => by
    obtain ⟨hG, hn, ht, hPc⟩ := hF
    obtain ⟨w1, hO, w3, w4⟩ := hG.2 o ho
    have hend := adr_end (Z := gZ G) ho
    have hz := gZ_pos G o
    have hZ := (okO_Z hO hn).1
    obtain ⟨b0, b1, b2, _⟩ := hh o ho
    have hpa := partsAt_R (N := N) (I := I) (F := F) (a := adr (gZ G) l o) hO (by omega) b0
    have hnpz : gNp G o < 16385 := by
      by_cases h6 : gK G o = 6
      · unfold gNp; rw [if_pos h6]; omega
      · have := gZ_np h6; omega
    by_cases e : i = gNp G o + 1
    · refine ⟨F, I, [], ?_, fun _ _ => rfl, fun _ _ _ => rfl, hm, fun j p h1 h2 _ => absurd h2 (by omega)⟩
      intro ζ k
      rw [lm_Model_markAll_2]
      simp (disch := omega) only [q_o, q_0, q_1, q_2, q_3, q_4, q_5, q_6, q_7, q_8, q_9, q_10, q_11, q_12, q_13, q_14, q_15, q_16, q_17, q_18, q_19, q_20, q_21, q_22, q_23, q_24, q_25, q_26, q_27, q_28, q_29, q_30, q_31, q_32, q_33, q_34, q_35, q_36, q_37, q_38, q_39, q_40, q_41, q_42, q_43, q_44, q_45, q_46, q_47, q_48, q_49, q_50, q_51, q_52, q_53, q_63, q_64, q_126, q_128, q_255, q_512, q_1024, q_1026, q_2000, q_2048, q_2049, q_4095, q_4096, q_8192, q_16383, q_65535, q_65536, q_69632, q_131072, q_132000, q_262144, q_300000, q_1000000, q_lt_t, q_lt_f, q_le_t, q_le_f, q_eq_t, q_eq_f, q_cl, q_add, q_mul, q_sub, q_nle_f, q_nle_t, q_nlt_f, q_nlt_t, q_neq_f, eq_self, q_n1, q_n2, q_m1, q_m1', q_m2, q_m21, q_m0, q_ml, upd_e, upd_n, updL_e, updL_n, updF_e, updF_n, let_d, tk_s, bind_s, or_false, false_or, and_true, true_and, if_true, if_false, ite_true, ite_false, reduceIte, not_true, not_false_iff, Nat.zero_add, Nat.add_zero, Nat.sub_zero, h0, hpa]
      rw [e]
    · have hin : i ≤ gNp G o := by omega
      have hiz := (np_lt hin hi1).1
      obtain ⟨t1, t2⟩ := b2 i hi1 hin
      obtain ⟨F1, I1, e1, m1, m2, m3, m4, m5⟩ := mark_R (N := N) hG hn ht hh hm (w3 i hi1 hin) (fun p hp => hPc o p i hP hi1 hin hp)
      obtain ⟨F2, I2, e2, r1, r2, r3, r4, r5⟩ := mAll2_R ⟨hG, hn, ht, hPc⟩ ho hP h0 n (i + 1) F1 I1 dn (e1 ++ wl) (by omega) (by omega) (by omega) (by rw [m2 0 (by omega), m2 1 (by omega)]; exact hh) m4
      rw [← List.append_assoc e2 e1 wl] at r4 r5
      refine ⟨F2, I2, e2 ++ e1, ?_, sameF_t m2 r2, sameI_t m3 r3, r4, fun j p h1 h2 h3 => ?_⟩
      · intro ζ k
        rw [lm_Model_markAll_2]
        simp (disch := omega) only [q_o, q_0, q_1, q_2, q_3, q_4, q_5, q_6, q_7, q_8, q_9, q_10, q_11, q_12, q_13, q_14, q_15, q_16, q_17, q_18, q_19, q_20, q_21, q_22, q_23, q_24, q_25, q_26, q_27, q_28, q_29, q_30, q_31, q_32, q_33, q_34, q_35, q_36, q_37, q_38, q_39, q_40, q_41, q_42, q_43, q_44, q_45, q_46, q_47, q_48, q_49, q_50, q_51, q_52, q_53, q_63, q_64, q_126, q_128, q_255, q_512, q_1024, q_1026, q_2000, q_2048, q_2049, q_4095, q_4096, q_8192, q_16383, q_65535, q_65536, q_69632, q_131072, q_132000, q_262144, q_300000, q_1000000, q_lt_t, q_lt_f, q_le_t, q_le_f, q_eq_t, q_eq_f, q_cl, q_add, q_mul, q_sub, q_nle_f, q_nle_t, q_nlt_f, q_nlt_t, q_neq_f, eq_self, q_n1, q_n2, q_m1, q_m1', q_m2, q_m21, q_m0, q_ml, upd_e, upd_n, updL_e, updL_n, updF_e, updF_n, let_d, tk_s, bind_s, or_false, false_or, and_true, true_and, if_true, if_false, ite_true, ite_false, reduceIte, not_true, not_false_iff, Nat.zero_add, Nat.add_zero, Nat.sub_zero, h0, hpa, t1, t2, m1, r1]
      · by_cases ej : j = i
        · subst ej
          have := m5 p h3
          rw [List.append_assoc]
          exact mem_3 this
        · exact r5 j p (by omega) h2 h3
theorem mAll1_R {P : Nat → Prop} (hN : 200000 ≤ N) (hF : fxR nk nm nid G l P) :
    ∀ (n : Nat) (F : Nat → Nat → Int32) (I : Nat → Int32) (dn wl : List Nat), 131073 - dn.length < n → heR G l (F 0) (F 1) → mst G l P (F 2) (I 50) (I 51) dn wl → (∀ q, q ∈ dn → ∀ i p, 1 ≤ i → i ≤ gNp G q → gP G q i = vO p → p ∈ dn ++ wl) →
    ∃ (F' : Nat → Nat → Int32) (I' : Nat → Int32) (dn' : List Nat), (∀ (ζ : Type) (k : (Nat → Nat → Int32) → (Nat → Int32) → Option ζ), lm_Model_markAll_1 N k n F I = k F' I') ∧ sameF F F' ∧ sameI I I' ∧ mst G l P (F' 2) (I' 50) (I' 51) dn' [] ∧ (∀ q, q ∈ dn ++ wl → q ∈ dn') ∧ cls G dn'
  | 0, F, I, dn, wl, h, _, _, _ => absurd h (Nat.not_lt_zero _)
  | n + 1, F, I, dn, [], h, hh, hm, hc => by
    refine ⟨F, I, dn, ?_, fun _ _ => rfl, fun _ _ _ => rfl, hm, fun q hq => by rw [List.append_nil] at hq; exact hq, fun q hq i p h1 h2 h3 => by have := hc q hq i p h1 h2 h3; rw [List.append_nil] at this; exact this⟩
    intro ζ k
    have : I 50 = mI2 := hm.2.2.2.2.2.1
    rw [lm_Model_markAll_1]
    simp (disch := omega) only [q_o, q_0, q_1, q_2, q_3, q_4, q_5, q_6, q_7, q_8, q_9, q_10, q_11, q_12, q_13, q_14, q_15, q_16, q_17, q_18, q_19, q_20, q_21, q_22, q_23, q_24, q_25, q_26, q_27, q_28, q_29, q_30, q_31, q_32, q_33, q_34, q_35, q_36, q_37, q_38, q_39, q_40, q_41, q_42, q_43, q_44, q_45, q_46, q_47, q_48, q_49, q_50, q_51, q_52, q_53, q_63, q_64, q_126, q_128, q_255, q_512, q_1024, q_1026, q_2000, q_2048, q_2049, q_4095, q_4096, q_8192, q_16383, q_65535, q_65536, q_69632, q_131072, q_132000, q_262144, q_300000, q_1000000, q_lt_t, q_lt_f, q_le_t, q_le_f, q_eq_t, q_eq_f, q_cl, q_add, q_mul, q_sub, q_nle_f, q_nle_t, q_nlt_f, q_nlt_t, q_neq_f, eq_self, q_n1, q_n2, q_m1, q_m1', q_m2, q_m21, q_m0, q_ml, upd_e, upd_n, updL_e, updL_n, updF_e, updF_n, let_d, tk_s, bind_s, or_false, false_or, and_true, true_and, if_true, if_false, ite_true, ite_false, reduceIte, not_true, not_false_iff, Nat.zero_add, Nat.add_zero, Nat.sub_zero, this]
  | n + 1, F, I, dn, o :: w, h, hh, hm, hc => by
    obtain ⟨hG, hn, ht, hPc⟩ := hF
    obtain ⟨a1, a2, a3, a4, a5, a6, a7⟩ := hm
    have hol := a2 o (List.mem_append_right _ (List.mem_cons_self ..))
    have ho := hol.1
    have hend := adr_end (Z := gZ G) ho
    have hz := gZ_pos G o
    have hZ := gZ_pos G
    have e50 : I 50 = nI (adr (gZ G) l o) := a6.1
    have hO := (hG.2 o ho).2.1
    have eas : dn ++ o :: w = (dn ++ [o]) ++ w := by simp
    have hnd2 := (List.nodup_append.mp (eas ▸ a1)).2.2
    have hnd3 := (List.nodup_append.mp a1)
    have hlen : (dn ++ o :: w).length ≤ tot (gZ G) (dn ++ o :: w) := by
      have := tot_len (Z := gZ G) (l := dn ++ o :: w) (k := 1) (fun o _ => gZ_pos G o)
      omega
    have htt : tot (gZ G) (dn ++ o :: w) ≤ tot (gZ G) l := tot_sub a1 (fun q hq => (a2 q hq).1)
    rw [List.length_append, List.length_cons] at hlen
    have hm1 : mst G l P (updF F 2 (upd (F 2) (adr (gZ G) l o) mI2) 2) (upd I 50 (F 2 (adr (gZ G) l o)) 50) (upd I 50 (F 2 (adr (gZ G) l o)) 51) (dn ++ [o]) w := by
      rw [updF_e rfl, upd_e rfl, upd_n (by omega)]
      refine ⟨eas ▸ a1, fun q hq => a2 q (eas ▸ hq), ?_, ?_, ?_, ?_, ?_⟩
      · intro q hq
        by_cases eq : q = o
        · subst eq; rw [upd_e rfl]
        · have hq2 : q ∈ dn := by
            rcases mem_snoc.mp hq with h | h
            · exact h
            · exact absurd h eq
          rw [upd_n (fun e => eq (adr_inj hZ (a2 q (List.mem_append_left _ hq2)).1 ho e))]
          exact a3 q hq2
      · intro q hq hqn
        have hqn' : q ∉ dn ++ o :: w := eas ▸ hqn
        have eq : q ≠ o := fun e => hqn' (by rw [e]; exact List.mem_append_right _ (List.mem_cons_self ..))
        rw [upd_n (fun e => eq (adr_inj hZ hq ho e))]
        exact a4 q hq hqn'
      · intro a h131 ha
        rw [upd_n (ha o ho)]
        exact a5 a h131 ha
      · refine lnk_upd (fun q hq e => ?_) a6.2
        have := adr_inj hZ (a2 q (List.mem_append_right _ (List.mem_cons_of_mem _ hq))).1 ho e
        have h2 := (List.nodup_cons.mp hnd3.2.1).1
        exact h2 (this ▸ hq)
      · rw [a7, eas]
    have hh1 : heR G l (updF F 2 (upd (F 2) (adr (gZ G) l o) mI2) 0) (updF F 2 (upd (F 2) (adr (gZ G) l o) mI2) 1) := by
      rw [updF_n (by omega), updF_n (by omega)]
      exact hh
    have hnpz : gNp G o < 16385 := by
      have hZ2 := (okO_Z hO hn).1
      by_cases h6 : gK G o = 6
      · unfold gNp; rw [if_pos h6]; omega
      · have := gZ_np h6; omega
    obtain ⟨F1, I1, e1, m1, m2, m3, m4, m5⟩ := mAll2_R (N := N) ⟨hG, hn, ht, hPc⟩ ho hol.2 e50 N 1 _ _ (dn ++ [o]) w (Nat.le_refl _) (by omega) (by omega) hh1 hm1
    have hl1 : (dn ++ [o]).length = dn.length + 1 := by simp
    obtain ⟨F2, I2, dn2, r1, r2, r3, r4, r5, r6⟩ := mAll1_R hN ⟨hG, hn, ht, hPc⟩ n F1 I1 (dn ++ [o]) (e1 ++ w) (by omega) (by rw [m2 0 (by omega), m2 1 (by omega)]; exact hh1) m4 (fun q hq i p h1 h2 h3 => by
      rcases mem_snoc.mp hq with hq | rfl
      · have := hc q hq i p h1 h2 h3
        rw [eas] at this
        exact mem_3 this
      · exact m5 i p h1 h2 h3)
    refine ⟨F2, I2, dn2, ?_, ?_, ?_, r4, ?_, r6⟩
    · intro ζ k
      rw [lm_Model_markAll_1]
      simp (disch := omega) only [q_o, q_0, q_1, q_2, q_3, q_4, q_5, q_6, q_7, q_8, q_9, q_10, q_11, q_12, q_13, q_14, q_15, q_16, q_17, q_18, q_19, q_20, q_21, q_22, q_23, q_24, q_25, q_26, q_27, q_28, q_29, q_30, q_31, q_32, q_33, q_34, q_35, q_36, q_37, q_38, q_39, q_40, q_41, q_42, q_43, q_44, q_45, q_46, q_47, q_48, q_49, q_50, q_51, q_52, q_53, q_63, q_64, q_126, q_128, q_255, q_512, q_1024, q_1026, q_2000, q_2048, q_2049, q_4095, q_4096, q_8192, q_16383, q_65535, q_65536, q_69632, q_131072, q_132000, q_262144, q_300000, q_1000000, q_lt_t, q_lt_f, q_le_t, q_le_f, q_eq_t, q_eq_f, q_cl, q_add, q_mul, q_sub, q_nle_f, q_nle_t, q_nlt_f, q_nlt_t, q_neq_f, eq_self, q_n1, q_n2, q_m1, q_m1', q_m2, q_m21, q_m0, q_ml, upd_e, upd_n, updL_e, updL_n, updF_e, updF_n, let_d, tk_s, bind_s, or_false, false_or, and_true, true_and, if_true, if_false, ite_true, ite_false, reduceIte, not_true, not_false_iff, Nat.zero_add, Nat.add_zero, Nat.sub_zero, e50, q_m2, m1, r1]
    · intro k hk
      rw [r2 k hk, m2 k hk, updF_n hk]
    · intro k h1 h2
      rw [r3 k h1 h2, m3 k h1 h2, upd_n h1]
    · intro q hq
      rw [eas] at hq
      exact r5 q (mem_3 hq)
end RF
