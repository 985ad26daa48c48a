/-! The reference: where what is marked will stand; the roots follow -/
section RF
variable {G : Nat → GO} {l dn : List Nat} {nk : Nat → Nat} {nm nid : Nat} {N : Nat}
def lf (l dn : List Nat) : List Nat := l.filter (fun o => decide (o ∈ dn))
theorem lf_mem {o : Nat} : o ∈ lf l dn ↔ o ∈ l ∧ o ∈ dn := by
  unfold lf
  rw [List.mem_filter, decide_eq_true_iff]
theorem lf_app (a b : List Nat) : lf (a ++ b) dn = lf a dn ++ lf b dn := List.filter_append ..
theorem lf_nodup (h : l.Nodup) : (lf l dn).Nodup := List.Pairwise.filter _ h
theorem lf_tot (Z : Nat → Nat) (a : List Nat) : tot Z (lf a dn) ≤ tot Z a := by
  induction a with
  | nil => exact Nat.le_refl _
  | cons x a ih =>
    by_cases h : x ∈ dn
    · have : lf (x :: a) dn = x :: lf a dn := by unfold lf; rw [List.filter_cons_of_pos (by simpa using h)]
      rw [this]
      simp only [tot]
      omega
    · have : lf (x :: a) dn = lf a dn := by unfold lf; rw [List.filter_cons_of_neg (by simpa using h)]
      rw [this]
      simp only [tot]
      omega
theorem lf_snoc_in {a : List Nat} {o : Nat} (h : o ∈ dn) : lf (a ++ [o]) dn = lf a dn ++ [o] := by
  rw [lf_app]
  congr 1
  unfold lf
  rw [List.filter_cons_of_pos (by simpa using h)]
  rfl
theorem lf_snoc_out {a : List Nat} {o : Nat} (h : o ∉ dn) : lf (a ++ [o]) dn = lf a dn := by
  rw [lf_app]
  have : lf [o] dn = [] := by
    unfold lf
    rw [List.filter_cons_of_neg (by simpa using h)]
    rfl
  rw [this, List.append_nil]
/-- the new place of a marked one, when those before it are a -/
theorem lf_adr {Z : Nat → Nat} {a b : List Nat} {o : Nat} (hn : (a ++ o :: b).Nodup) (h : o ∈ dn) : adr Z (lf (a ++ o :: b) dn) o = tot Z (lf a dn) := by
  have e : a ++ o :: b = (a ++ [o]) ++ b := by simp
  rw [e, lf_app, lf_snoc_in h]
  have ho : o ∉ lf a dn := fun h2 => (List.nodup_append.mp hn).2.2 o (lf_mem.mp h2).1 o (List.mem_cons_self ..) rfl
  rw [adr_l (mem_snoc.mpr (Or.inr rfl)), adr_new ho]
def stl (G : Nat → GO) (l dn a : List Nat) (C : Nat → Int32) : Prop :=
  (∀ o, o ∈ l → (o ∉ dn → C (adr (gZ G) l o) = mI1) ∧ (o ∈ dn → o ∈ a → C (adr (gZ G) l o) = nI (adr (gZ G) (lf l dn) o)) ∧ (o ∈ dn → o ∉ a → C (adr (gZ G) l o) = mI2)) ∧ (∀ a, a < 131072 → (∀ o, o ∈ l → a ≠ adr (gZ G) l o) → C a = mI1)
theorem settle1_R {I : Nat → Int32} (hG : wf nk nm nid G l) (hn : nm < 134217728) (ht : tot (gZ G) l ≤ 131072) (h3 : I 3 = nI (tot (gZ G) l)) :
    ∀ (n : Nat) (a b : List Nat) (F : Nat → Nat → Int32), l = a ++ b → b.length < n → heR G l (F 0) (F 1) → stl G l dn a (F 2) →
    ∃ (F' : Nat → Nat → Int32), (∀ (ζ : Type) (k : Int32 → Int32 → (Nat → Nat → Int32) → Option ζ), lm_Model_settle_1 N I k n (nI (tot (gZ G) (lf a dn))) (nI (tot (gZ G) a)) F = k (nI (tot (gZ G) (lf l dn))) (nI (tot (gZ G) l)) F') ∧ sameF F F' ∧ stl G l dn l (F' 2)
  | 0, a, b, F, _, h, _, _ => absurd h (Nat.not_lt_zero _)
  | n + 1, a, [], F, hl, h, hh, hs => by
    rw [List.append_nil] at hl
    subst hl
    refine ⟨F, ?_, fun _ _ => rfl, hs⟩
    intro ζ k
    rw [lm_Model_settle_1]
    simp (disch := omega) only [q_o, q_0, q_1, q_2, q_3, q_4, q_5, q_6, q_7, q_8, q_9, q_10, q_11, q_12, q_13, q_14, q_15, q_16, q_17, q_18, q_19, q_20, q_21, q_22, q_23, q_24, q_25, q_26, q_27, q_28, q_29, q_30, q_31, q_32, q_33, q_34, q_35, q_36, q_37, q_38, q_39, q_40, q_41, q_42, q_43, q_44, q_45, q_46, q_47, q_48, q_49, q_50, q_51, q_52, q_53, q_63, q_64, q_126, q_128, q_255, q_512, q_1024, q_1026, q_2000, q_2048, q_2049, q_4095, q_4096, q_8192, q_16383, q_65535, q_65536, q_69632, q_131072, q_132000, q_262144, q_300000, q_1000000, q_lt_t, q_lt_f, q_le_t, q_le_f, q_eq_t, q_eq_f, q_cl, q_add, q_mul, q_sub, q_nle_f, q_nle_t, q_nlt_f, q_nlt_t, q_neq_f, eq_self, q_n1, q_n2, q_m1, q_m1', q_m2, q_m21, q_m0, q_ml, upd_e, upd_n, updL_e, updL_n, updF_e, updF_n, let_d, tk_s, bind_s, or_false, false_or, and_true, true_and, if_true, if_false, ite_true, ite_false, reduceIte, not_true, not_false_iff, Nat.zero_add, Nat.add_zero, Nat.sub_zero, h3]
  | n + 1, a, o :: b, F, hl, h, hh, hs => by
    have hol : o ∈ l := by rw [hl]; exact List.mem_append_right _ (List.mem_cons_self ..)
    have hoa : o ∉ a := fun h2 => (List.nodup_append.mp (hl ▸ hG.1)).2.2 o h2 o (List.mem_cons_self ..) rfl
    have ea : adr (gZ G) l o = tot (gZ G) a := by
      rw [hl, adr_r hoa]
      simp [adr]
    have hend := adr_end (Z := gZ G) hol
    have hz := gZ_pos G o
    have hZ := gZ_pos G
    have hO := (hG.2 o hol).2.1
    obtain ⟨b0, b1, _⟩ := hh o hol
    have hl2 : l = (a ++ [o]) ++ b := by rw [hl]; simp
    have et : tot (gZ G) (a ++ [o]) = tot (gZ G) a + gZ G o := by rw [tot_append]; rfl
    obtain ⟨hs1, hs2⟩ := hs
    obtain ⟨c1, c2, c3⟩ := hs1 o hol
    rw [List.length_cons] at h
    have hlt := lf_tot (dn := dn) (gZ G) a
    by_cases hd : o ∈ dn
    · have hC := c3 hd hoa
      have hS : stl G l dn (a ++ [o]) (updF F 2 (upd (F 2) (adr (gZ G) l o) (nI (tot (gZ G) (lf a dn)))) 2) := by
        rw [updF_e rfl]
        refine ⟨fun q hq => ?_, fun x hx hx2 => by rw [upd_n (hx2 o hol)]; exact hs2 x hx hx2⟩
        obtain ⟨d1, d2, d3⟩ := hs1 q hq
        by_cases eq : q = o
        · subst eq
          rw [upd_e rfl]
          refine ⟨fun h => absurd hd h, fun _ _ => ?_, fun _ h => absurd (mem_snoc.mpr (Or.inr rfl)) h⟩
          have := lf_adr (Z := gZ G) (hl ▸ hG.1) hd
          rw [hl, this]
        · rw [upd_n (fun e => eq (adr_inj hZ hq hol e))]
          refine ⟨d1, fun h1 h2 => d2 h1 ?_, fun h1 h2 => d3 h1 (fun h3 => h2 (mem_snoc.mpr (Or.inl h3)))⟩
          rcases mem_snoc.mp h2 with h | h
          · exact h
          · exact absurd h eq
      obtain ⟨F', r1, r2, r3⟩ := settle1_R hG hn ht h3 n (a ++ [o]) b _ hl2 (by omega) (by rw [updF_n (by omega), updF_n (by omega)]; exact hh) hS
      refine ⟨F', ?_, fun k hk => by rw [r2 k hk, updF_n hk], r3⟩
      intro ζ k
      rw [et, lf_snoc_in hd, tot_append, tot_one] at r1
      have hsz := sizeAt_R (N := N) (I := I) (F := updF F 2 (upd (F 2) (adr (gZ G) l o) (nI (tot (gZ G) (lf a dn))))) (a := adr (gZ G) l o) hO hn (by omega) (by rw [updF_n (by omega)]; exact b0) (by rw [updF_n (by omega)]; exact b1)
      rw [ea] at hC hsz r1
      rw [lm_Model_settle_1]
      simp (disch := omega) only [q_o, q_0, q_1, q_2, q_3, q_4, q_5, q_6, q_7, q_8, q_9, q_10, q_11, q_12, q_13, q_14, q_15, q_16, q_17, q_18, q_19, q_20, q_21, q_22, q_23, q_24, q_25, q_26, q_27, q_28, q_29, q_30, q_31, q_32, q_33, q_34, q_35, q_36, q_37, q_38, q_39, q_40, q_41, q_42, q_43, q_44, q_45, q_46, q_47, q_48, q_49, q_50, q_51, q_52, q_53, q_63, q_64, q_126, q_128, q_255, q_512, q_1024, q_1026, q_2000, q_2048, q_2049, q_4095, q_4096, q_8192, q_16383, q_65535, q_65536, q_69632, q_131072, q_132000, q_262144, q_300000, q_1000000, q_lt_t, q_lt_f, q_le_t, q_le_f, q_eq_t, q_eq_f, q_cl, q_add, q_mul, q_sub, q_nle_f, q_nle_t, q_nlt_f, q_nlt_t, q_neq_f, eq_self, q_n1, q_n2, q_m1, q_m1', q_m2, q_m21, q_m0, q_ml, upd_e, upd_n, updL_e, updL_n, updF_e, updF_n, let_d, tk_s, bind_s, or_false, false_or, and_true, true_and, if_true, if_false, ite_true, ite_false, reduceIte, not_true, not_false_iff, Nat.zero_add, Nat.add_zero, Nat.sub_zero, h3, lm_Model_settle_2, hC, q_m21, hsz, r1]
    · have hC := c1 hd
      have hS : stl G l dn (a ++ [o]) (F 2) := by
        refine ⟨fun q hq => ?_, hs2⟩
        obtain ⟨d1, d2, d3⟩ := hs1 q hq
        refine ⟨d1, fun h1 h2 => d2 h1 ?_, fun h1 h2 => d3 h1 (fun h3 => h2 (mem_snoc.mpr (Or.inl h3)))⟩
        rcases mem_snoc.mp h2 with h | h
        · exact h
        · subst h; exact absurd h1 hd
      obtain ⟨F', r1, r2, r3⟩ := settle1_R hG hn ht h3 n (a ++ [o]) b F hl2 (by omega) hh hS
      refine ⟨F', ?_, r2, r3⟩
      intro ζ k
      rw [et, lf_snoc_out hd] at r1
      have hsz := sizeAt_R (N := N) (I := I) (F := F) (a := adr (gZ G) l o) hO hn (by omega) b0 b1
      rw [ea] at hC hsz
      rw [lm_Model_settle_1]
      simp (disch := omega) only [q_o, q_0, q_1, q_2, q_3, q_4, q_5, q_6, q_7, q_8, q_9, q_10, q_11, q_12, q_13, q_14, q_15, q_16, q_17, q_18, q_19, q_20, q_21, q_22, q_23, q_24, q_25, q_26, q_27, q_28, q_29, q_30, q_31, q_32, q_33, q_34, q_35, q_36, q_37, q_38, q_39, q_40, q_41, q_42, q_43, q_44, q_45, q_46, q_47, q_48, q_49, q_50, q_51, q_52, q_53, q_63, q_64, q_126, q_128, q_255, q_512, q_1024, q_1026, q_2000, q_2048, q_2049, q_4095, q_4096, q_8192, q_16383, q_65535, q_65536, q_69632, q_131072, q_132000, q_262144, q_300000, q_1000000, q_lt_t, q_lt_f, q_le_t, q_le_f, q_eq_t, q_eq_f, q_cl, q_add, q_mul, q_sub, q_nle_f, q_nle_t, q_nlt_f, q_nlt_t, q_neq_f, eq_self, q_n1, q_n2, q_m1, q_m1', q_m2, q_m21, q_m0, q_ml, upd_e, upd_n, updL_e, updL_n, updF_e, updF_n, let_d, tk_s, bind_s, or_false, false_or, and_true, true_and, if_true, if_false, ite_true, ite_false, reduceIte, not_true, not_false_iff, Nat.zero_add, Nat.add_zero, Nat.sub_zero, h3, lm_Model_settle_2, hC, hsz, r1]
theorem settle_R {I : Nat → Int32} {F : Nat → Nat → Int32} {P : Nat → Prop} {hd r : Int32} (hN : 200000 ≤ N) (hG : wf nk nm nid G l) (hn : nm < 134217728) (ht : tot (gZ G) l ≤ 131072) (h3 : I 3 = nI (tot (gZ G) l)) (hh : heR G l (F 0) (F 1)) (hm : mst G l P (F 2) hd r dn []) :
    ∃ (F' : Nat → Nat → Int32), m_Model_settle N I F = some (nI (tot (gZ G) (lf l dn)), F') ∧ sameF F F' ∧ stl G l dn l (F' 2) := by
  obtain ⟨a1, a2, a3, a4, a5, a6, a7⟩ := hm
  rw [List.append_nil] at a4
  have hlen := tot_len (Z := gZ G) (l := l) (k := 1) (fun o _ => gZ_pos G o)
  obtain ⟨F', r1, r2, r3⟩ := settle1_R (N := N) (dn := dn) hG hn ht h3 N [] l F rfl (by omega) hh ⟨fun q hq => ⟨fun h => a4 q hq h, fun _ h => (by cases h), fun h _ => a3 q h⟩, a5⟩
  refine ⟨F', ?_, r2, r3⟩
  unfold m_Model_settle
  have e0 : tot (gZ G) (lf [] dn) = 0 := rfl
  have e1 : tot (gZ G) [] = 0 := rfl
  rw [e0, e1] at r1
  simp (disch := omega) only [q_o, q_0, q_1, q_2, q_3, q_4, q_5, q_6, q_7, q_8, q_9, q_10, q_11, q_12, q_13, q_14, q_15, q_16, q_17, q_18, q_19, q_20, q_21, q_22, q_23, q_24, q_25, q_26, q_27, q_28, q_29, q_30, q_31, q_32, q_33, q_34, q_35, q_36, q_37, q_38, q_39, q_40, q_41, q_42, q_43, q_44, q_45, q_46, q_47, q_48, q_49, q_50, q_51, q_52, q_53, q_63, q_64, q_126, q_128, q_255, q_512, q_1024, q_1026, q_2000, q_2048, q_2049, q_4095, q_4096, q_8192, q_16383, q_65535, q_65536, q_69632, q_131072, q_132000, q_262144, q_300000, q_1000000, q_lt_t, q_lt_f, q_le_t, q_le_f, q_eq_t, q_eq_f, q_cl, q_add, q_mul, q_sub, q_nle_f, q_nle_t, q_nlt_f, q_nlt_t, q_neq_f, eq_self, q_n1, q_n2, q_m1, q_m1', q_m2, q_m21, q_m0, q_ml, upd_e, upd_n, updL_e, updL_n, updF_e, updF_n, let_d, tk_s, bind_s, or_false, false_or, and_true, true_and, if_true, if_false, ite_true, ite_false, reduceIte, not_true, not_false_iff, Nat.zero_add, Nat.add_zero, Nat.sub_zero, r1]
/-- a value whose object is marked, at the new place -/
theorem tr_v {C : Nat → Int32} (hs : stl G l dn l C) {v : AV} (hv : okV nk nm l v) (hd : ∀ p, v = vO p → p ∈ dn) : (tR v = nI 2 ∧ ∃ o, v = vO o ∧ o ∈ l ∧ vR G l v = nI (adr (gZ G) l o) ∧ C (adr (gZ G) l o) = vR G (lf l dn) v) ∨ (¬ tR v = nI 2 ∧ vR G l v = vR G (lf l dn) v) := by
  rcases v with n | ⟨k, i⟩ | o
  · exact Or.inr ⟨tR_ne hv (fun p h => by cases h), rfl⟩
  · exact Or.inr ⟨tR_ne hv (fun p h => by cases h), rfl⟩
  · have hv : o ∈ l := hv
    exact Or.inl ⟨rfl, o, rfl, hv, rfl, (hs.1 o hv).2.1 (hd o rfl) hv⟩
def sameX (x : Nat) (F F' : Nat → Nat → Int32) : Prop := ∀ k, k ≠ x → F' k = F k
theorem slide1_R {I : Nat → Int32} {va : Nat → AV} {t : Nat} (ht : tot (gZ G) l ≤ 131072) (hE : t ≤ 2048) (hr : ∀ k, k < 2048 → okV nk nm l (va k) ∧ (∀ p, va k = vO p → p ∈ dn)) (h29 : True) :
    ∀ (n i : Nat) (F : Nat → Nat → Int32), i ≤ 2048 → 2048 - i < n → stl G l dn l (F 2) → (∀ k, k < 2048 → F 5 k = tR (va k)) → (∀ k, i ≤ k → k < 2048 → F 6 k = vR G l (va k)) →
    ∃ (F' : Nat → Nat → Int32), (∀ (ζ : Type) (k : Int32 → (Nat → Nat → Int32) → Option ζ), lm_Model_slide_1 N  k n (nI i) F = k (nI 2048) F') ∧ sameX 6 F F' ∧ (∀ k, i ≤ k → k < 2048 → F' 6 k = vR G (lf l dn) (va k)) ∧ (∀ k, k < i → F' 6 k = F 6 k)
  | 0, i, F, _, h, _, _, _ => absurd h (Nat.not_lt_zero _)
  | n + 1, i, F, hi, h, hs, hT, hV => by
    by_cases e : i = 2048
    · refine ⟨F, ?_, fun _ _ => rfl, fun k h1 h2 => absurd h2 (by omega), fun _ _ => rfl⟩
      intro ζ k
      rw [lm_Model_slide_1]
      simp (disch := omega) only [q_o, q_0, q_1, q_2, q_3, q_4, q_5, q_6, q_7, q_8, q_9, q_10, q_11, q_12, q_13, q_14, q_15, q_16, q_17, q_18, q_19, q_20, q_21, q_22, q_23, q_24, q_25, q_26, q_27, q_28, q_29, q_30, q_31, q_32, q_33, q_34, q_35, q_36, q_37, q_38, q_39, q_40, q_41, q_42, q_43, q_44, q_45, q_46, q_47, q_48, q_49, q_50, q_51, q_52, q_53, q_63, q_64, q_126, q_128, q_255, q_512, q_1024, q_1026, q_2000, q_2048, q_2049, q_4095, q_4096, q_8192, q_16383, q_65535, q_65536, q_69632, q_131072, q_132000, q_262144, q_300000, q_1000000, q_lt_t, q_lt_f, q_le_t, q_le_f, q_eq_t, q_eq_f, q_cl, q_add, q_mul, q_sub, q_nle_f, q_nle_t, q_nlt_f, q_nlt_t, q_neq_f, eq_self, q_n1, q_n2, q_m1, q_m1', q_m2, q_m21, q_m0, q_ml, upd_e, upd_n, updL_e, updL_n, updF_e, updF_n, let_d, tk_s, bind_s, or_false, false_or, and_true, true_and, if_true, if_false, ite_true, ite_false, reduceIte, not_true, not_false_iff, Nat.zero_add, Nat.add_zero, Nat.sub_zero, True.intro]
      rw [e]
    · have t1 := hT i (by omega)
      have t2 := hV i (Nat.le_refl _) (by omega)
      have hri := hr i (by omega)
      obtain ⟨F1, r1, r2, r3, r4⟩   := slide1_R (I := I) ht hE hr h29 n (i + 1) (updF F 6 (upd (F 6) i (vR G (lf l dn) (va i)))) (by omega) (by omega) (by rw [updF_n (by omega)]; exact hs) (fun k hk => by rw [updF_n (by omega)]; exact hT k hk) (fun k h1 h2 => by rw [updF_e rfl, upd_n (by omega)]; exact hV k (by omega) h2)
      refine ⟨F1, ?_, ?_, ?_, ?_⟩
      · intro ζ k
        rw [lm_Model_slide_1]
        rcases tr_v hs hri.1 hri.2 with ⟨e1, o, e2, e3, e4, e5⟩ | ⟨e1, e2⟩
        · have hend := adr_end (Z := gZ G) e3
          have hz := gZ_pos G o
          simp (disch := omega) only [q_o, q_0, q_1, q_2, q_3, q_4, q_5, q_6, q_7, q_8, q_9, q_10, q_11, q_12, q_13, q_14, q_15, q_16, q_17, q_18, q_19, q_20, q_21, q_22, q_23, q_24, q_25, q_26, q_27, q_28, q_29, q_30, q_31, q_32, q_33, q_34, q_35, q_36, q_37, q_38, q_39, q_40, q_41, q_42, q_43, q_44, q_45, q_46, q_47, q_48, q_49, q_50, q_51, q_52, q_53, q_63, q_64, q_126, q_128, q_255, q_512, q_1024, q_1026, q_2000, q_2048, q_2049, q_4095, q_4096, q_8192, q_16383, q_65535, q_65536, q_69632, q_131072, q_132000, q_262144, q_300000, q_1000000, q_lt_t, q_lt_f, q_le_t, q_le_f, q_eq_t, q_eq_f, q_cl, q_add, q_mul, q_sub, q_nle_f, q_nle_t, q_nlt_f, q_nlt_t, q_neq_f, eq_self, q_n1, q_n2, q_m1, q_m1', q_m2, q_m21, q_m0, q_ml, upd_e, upd_n, updL_e, updL_n, updF_e, updF_n, let_d, tk_s, bind_s, or_false, false_or, and_true, true_and, if_true, if_false, ite_true, ite_false, reduceIte, not_true, not_false_iff, Nat.zero_add, Nat.add_zero, Nat.sub_zero, True.intro, m_Model_isOn, lm_Model_slide_2, t1, t2, e1, e4, e5, r1]
        · simp (disch := omega) only [q_o, q_0, q_1, q_2, q_3, q_4, q_5, q_6, q_7, q_8, q_9, q_10, q_11, q_12, q_13, q_14, q_15, q_16, q_17, q_18, q_19, q_20, q_21, q_22, q_23, q_24, q_25, q_26, q_27, q_28, q_29, q_30, q_31, q_32, q_33, q_34, q_35, q_36, q_37, q_38, q_39, q_40, q_41, q_42, q_43, q_44, q_45, q_46, q_47, q_48, q_49, q_50, q_51, q_52, q_53, q_63, q_64, q_126, q_128, q_255, q_512, q_1024, q_1026, q_2000, q_2048, q_2049, q_4095, q_4096, q_8192, q_16383, q_65535, q_65536, q_69632, q_131072, q_132000, q_262144, q_300000, q_1000000, q_lt_t, q_lt_f, q_le_t, q_le_f, q_eq_t, q_eq_f, q_cl, q_add, q_mul, q_sub, q_nle_f, q_nle_t, q_nlt_f, q_nlt_t, q_neq_f, eq_self, q_n1, q_n2, q_m1, q_m1', q_m2, q_m21, q_m0, q_ml, upd_e, upd_n, updL_e, updL_n, updF_e, updF_n, let_d, tk_s, bind_s, or_false, false_or, and_true, true_and, if_true, if_false, ite_true, ite_false, reduceIte, not_true, not_false_iff, Nat.zero_add, Nat.add_zero, Nat.sub_zero, True.intro, m_Model_isOn, lm_Model_slide_2, t1, t2, e1, e2, r1]
      · intro k hk
        rw [r2 k hk, updF_n hk]
      · intro k h1 h2
        by_cases ek : k = i
        · subst ek
          rw [r4 k (by omega), updF_e rfl, upd_e rfl]
        · exact r3 k (by omega) h2
      · intro k hk
        rw [r4 k (by omega), updF_e rfl, upd_n (by omega)]
theorem slide3_R {I : Nat → Int32} {va : Nat → AV} {t : Nat} (ht : tot (gZ G) l ≤ 131072) (hE : t ≤ 65536) (hr : ∀ k, k < t → okV nk nm l (va k) ∧ (∀ p, va k = vO p → p ∈ dn)) (h29 : I 29 = nI t ∧ ¬ I 20 = nI 0 ∧ I 21 = nI 5) :
    ∀ (n i : Nat) (F : Nat → Nat → Int32), i ≤ t → t - i < n → stl G l dn l (F 2) → (∀ k, k < t → F 27 k = tR (va k)) → (∀ k, i ≤ k → k < t → F 28 k = vR G l (va k)) →
    ∃ (F' : Nat → Nat → Int32), (∀ (ζ : Type) (k : Int32 → (Nat → Nat → Int32) → Option ζ), lm_Model_slide_3 N I k n (nI i) F = k (nI t) F') ∧ sameX 28 F F' ∧ (∀ k, i ≤ k → k < t → F' 28 k = vR G (lf l dn) (va k)) ∧ (∀ k, k < i → F' 28 k = F 28 k)
  | 0, i, F, _, h, _, _, _ => absurd h (Nat.not_lt_zero _)
  | n + 1, i, F, hi, h, hs, hT, hV => by
    by_cases e : i = t
    · refine ⟨F, ?_, fun _ _ => rfl, fun k h1 h2 => absurd h2 (by omega), fun _ _ => rfl⟩
      intro ζ k
      rw [lm_Model_slide_3]
      simp (disch := omega) only [q_o, q_0, q_1, q_2, q_3, q_4, q_5, q_6, q_7, q_8, q_9, q_10, q_11, q_12, q_13, q_14, q_15, q_16, q_17, q_18, q_19, q_20, q_21, q_22, q_23, q_24, q_25, q_26, q_27, q_28, q_29, q_30, q_31, q_32, q_33, q_34, q_35, q_36, q_37, q_38, q_39, q_40, q_41, q_42, q_43, q_44, q_45, q_46, q_47, q_48, q_49, q_50, q_51, q_52, q_53, q_63, q_64, q_126, q_128, q_255, q_512, q_1024, q_1026, q_2000, q_2048, q_2049, q_4095, q_4096, q_8192, q_16383, q_65535, q_65536, q_69632, q_131072, q_132000, q_262144, q_300000, q_1000000, q_lt_t, q_lt_f, q_le_t, q_le_f, q_eq_t, q_eq_f, q_cl, q_add, q_mul, q_sub, q_nle_f, q_nle_t, q_nlt_f, q_nlt_t, q_neq_f, eq_self, q_n1, q_n2, q_m1, q_m1', q_m2, q_m21, q_m0, q_ml, upd_e, upd_n, updL_e, updL_n, updF_e, updF_n, let_d, tk_s, bind_s, or_false, false_or, and_true, true_and, if_true, if_false, ite_true, ite_false, reduceIte, not_true, not_false_iff, Nat.zero_add, Nat.add_zero, Nat.sub_zero, h29.1, h29.2.1, h29.2.2]
      rw [e]
    · have t1 := hT i (by omega)
      have t2 := hV i (Nat.le_refl _) (by omega)
      have hri := hr i (by omega)
      obtain ⟨F1, r1, r2, r3, r4⟩   := slide3_R (I := I) ht hE hr h29 n (i + 1) (updF F 28 (upd (F 28) i (vR G (lf l dn) (va i)))) (by omega) (by omega) (by rw [updF_n (by omega)]; exact hs) (fun k hk => by rw [updF_n (by omega)]; exact hT k hk) (fun k h1 h2 => by rw [updF_e rfl, upd_n (by omega)]; exact hV k (by omega) h2)
      refine ⟨F1, ?_, ?_, ?_, ?_⟩
      · intro ζ k
        rw [lm_Model_slide_3]
        rcases tr_v hs hri.1 hri.2 with ⟨e1, o, e2, e3, e4, e5⟩ | ⟨e1, e2⟩
        · have hend := adr_end (Z := gZ G) e3
          have hz := gZ_pos G o
          simp (disch := omega) only [q_o, q_0, q_1, q_2, q_3, q_4, q_5, q_6, q_7, q_8, q_9, q_10, q_11, q_12, q_13, q_14, q_15, q_16, q_17, q_18, q_19, q_20, q_21, q_22, q_23, q_24, q_25, q_26, q_27, q_28, q_29, q_30, q_31, q_32, q_33, q_34, q_35, q_36, q_37, q_38, q_39, q_40, q_41, q_42, q_43, q_44, q_45, q_46, q_47, q_48, q_49, q_50, q_51, q_52, q_53, q_63, q_64, q_126, q_128, q_255, q_512, q_1024, q_1026, q_2000, q_2048, q_2049, q_4095, q_4096, q_8192, q_16383, q_65535, q_65536, q_69632, q_131072, q_132000, q_262144, q_300000, q_1000000, q_lt_t, q_lt_f, q_le_t, q_le_f, q_eq_t, q_eq_f, q_cl, q_add, q_mul, q_sub, q_nle_f, q_nle_t, q_nlt_f, q_nlt_t, q_neq_f, eq_self, q_n1, q_n2, q_m1, q_m1', q_m2, q_m21, q_m0, q_ml, upd_e, upd_n, updL_e, updL_n, updF_e, updF_n, let_d, tk_s, bind_s, or_false, false_or, and_true, true_and, if_true, if_false, ite_true, ite_false, reduceIte, not_true, not_false_iff, Nat.zero_add, Nat.add_zero, Nat.sub_zero, h29.1, h29.2.1, h29.2.2, m_Model_isOn, lm_Model_slide_4, t1, t2, e1, e4, e5, r1]
        · simp (disch := omega) only [q_o, q_0, q_1, q_2, q_3, q_4, q_5, q_6, q_7, q_8, q_9, q_10, q_11, q_12, q_13, q_14, q_15, q_16, q_17, q_18, q_19, q_20, q_21, q_22, q_23, q_24, q_25, q_26, q_27, q_28, q_29, q_30, q_31, q_32, q_33, q_34, q_35, q_36, q_37, q_38, q_39, q_40, q_41, q_42, q_43, q_44, q_45, q_46, q_47, q_48, q_49, q_50, q_51, q_52, q_53, q_63, q_64, q_126, q_128, q_255, q_512, q_1024, q_1026, q_2000, q_2048, q_2049, q_4095, q_4096, q_8192, q_16383, q_65535, q_65536, q_69632, q_131072, q_132000, q_262144, q_300000, q_1000000, q_lt_t, q_lt_f, q_le_t, q_le_f, q_eq_t, q_eq_f, q_cl, q_add, q_mul, q_sub, q_nle_f, q_nle_t, q_nlt_f, q_nlt_t, q_neq_f, eq_self, q_n1, q_n2, q_m1, q_m1', q_m2, q_m21, q_m0, q_ml, upd_e, upd_n, updL_e, updL_n, updF_e, updF_n, let_d, tk_s, bind_s, or_false, false_or, and_true, true_and, if_true, if_false, ite_true, ite_false, reduceIte, not_true, not_false_iff, Nat.zero_add, Nat.add_zero, Nat.sub_zero, h29.1, h29.2.1, h29.2.2, m_Model_isOn, lm_Model_slide_4, t1, t2, e1, e2, r1]
      · intro k hk
        rw [r2 k hk, updF_n hk]
      · intro k h1 h2
        by_cases ek : k = i
        · subst ek
          rw [r4 k (by omega), updF_e rfl, upd_e rfl]
        · exact r3 k (by omega) h2
      · intro k hk
        rw [r4 k (by omega), updF_e rfl, upd_n (by omega)]
end RF
