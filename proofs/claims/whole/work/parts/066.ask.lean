/-! The engine asks for room -/
section AK
variable {G : Nat → GO} {l : List Nat} {nk : Nat → Nat} {nm nid : Nat} {N : Nat} {gg gs gc : Nat → AV} {t fr : Nat}
def hpE (nk : Nat → Nat) (nm nid : Nat) (G : Nat → GO) (l : List Nat) (gg : Nat → AV) (gu used old olt : Int32) (g c : Nat → Int64) (nC : Nat) : Prop :=
  wf nk nm nid G l ∧ used = nI (tot (gZ G) l) ∧ tot (gZ G) l ≤ nC ∧ heE G l c ∧ (∀ k, k < 2049 → g k = wE G l (gg k) ∧ okV nk nm l (gg k)) ∧ (∃ u, gu = nI u ∧ u ≤ 2048 ∧ ∀ k, u ≤ k → k < 2048 → gg k = vS (nI 0)) ∧
  (∃ l1 l2, l = l1 ++ l2 ∧ old = nI (tot (gZ G) l1) ∧ (olt = nI 0 → cls G l1))
def vlE (nk : Nat → Nat) (nm : Nat) (G : Nat → GO) (l : List Nat) (t : Nat) (gs : Nat → AV) (fr : Nat) (gc : Nat → AV) (va cl : Nat → Int64) : Prop :=
  (∀ k, k < t → va k = wE G l (gs k) ∧ okV nk nm l (gs k)) ∧ (∀ k, k < fr → cl k = wE G l (gc k) ∧ okV nk nm l (gc k))
/-- what making rows of a length has cost at the most -/
def pot (m n : Nat) : Nat := if n < m then 3 * n + min (9 * n) 9216 else 5 * m + 9366
theorem pot_0 {m : Nat} (h : 0 < m) : pot m 0 = 0 := by unfold pot; rw [if_pos h]; rfl
theorem pot_new {n m k : Nat} (h : n < m) (hk : k = m ∧ 512 ≤ m ∨ 2 * n ≤ k ∧ 32 ≤ k ∧ k < m) : k + 150 + pot m n ≤ pot m k := by
  unfold pot
  rw [if_pos h]
  rcases hk with ⟨rfl, hm⟩ | ⟨h1, h2, h3⟩
  · rw [if_neg (by omega)]
    omega
  · rw [if_pos h3]
    omega
theorem tk_0 {α : Type} (o : Option (α × Nat × Nat)) : dz_tk 0 0 o = o := by
  cases o with
  | none => rfl
  | some z => rfl
theorem tk_tk {α : Type} (a b c d : Nat) (o : Option (α × Nat × Nat)) : dz_tk a b (dz_tk c d o) = dz_tk (c + a) (d + b) o := by
  cases o with
  | none => rfl
  | some z => show some _ = some _; simp only [Nat.add_assoc]
theorem wf_cls (h : wf nk nm nid G l) : cls G l := by
  intro o ho i p h1 h2 h3
  have := (h.2 o ho).2.2.1 i h1 h2
  rw [h3] at this
  exact this
theorem hp_rch {R : Nat → Prop} (hG : wf nk nm nid G l) (hR : ∀ p, R p → p ∈ l) {o : Nat} (h : rch G R o) : o ∈ l := cls_rch (wf_cls hG) hR h
theorem okV_mem {v : AV} {p : Nat} (h : okV nk nm l v) (e : v = vO p) : p ∈ l := by rw [e] at h; exact h
theorem gath_E {c g va cl sp : Nat → Int64} {gu used old olt : Int32} {nC nSp nV nB : Nat} {l1 l2 : List Nat} (hN : 200000 ≤ N) (hn : nm < 134217728) (h : hpE nk nm nid G l gg gu used old olt g c nC) (hv : vlE nk nm G l t gs fr gc va cl) (hC : nC ≤ 131072) (hS : nSp ≤ 131072) (ht : t ≤ nV ∧ nV ≤ 65536 ∧ fr ≤ nB ∧ nB ≤ 8192) (hl : l = l1 ++ l2) (h1 : cls G l1) (hold : l1 ≠ [] → old = nI (tot (gZ G) l1)) :
    ∃ (c' g' cl' va' sp' : Nat → Int64) (l' : List Nat) (rG rA su : Int32) (nSp' cc ss : Nat), (∀ (H_used : Int32) (H_spareUsed : Int32) (H_limit : Int32) (H_every : Int32) (H_fresh : Int32) (H_made : Int32) (H_madeLimit : Int32) (H_reachedFromGlobals : Int32) (H_reachedInAll : Int32) (H_keptGlobalsUsed : Int32) (H_kept : Int32), ∀ (S_handlers : Int32), ∃ (old' olt' : Int32), m_Heap_gather N (nI t) (nI fr) S_handlers gu H_used H_spareUsed old olt H_limit H_every H_fresh H_made H_madeLimit H_reachedFromGlobals H_reachedInAll H_keptGlobalsUsed H_kept nV va nB cl 2049 g nC c nSp sp (nI (tot (gZ G) l1)) (nI 1) = some ((c', g', cl', va', nI 0, old', olt', rG, rA, su, nI (tot (gZ G) l'), nSp', sp'), cc, ss) ∧ hpE nk nm nid G l' gg gu (nI (tot (gZ G) l')) old' olt' g' c' nC) ∧
      vlE nk nm G l' t gs fr gc va' cl' ∧ (l1 = [] → ∀ o, o ∈ l' → rch G (rtA gg t gs fr gc) o) ∧ (nC ≤ nSp ∧ nSp' = nSp ∧ cc = 0 ∧ ss = 0 ∨ nSp < nC ∧ nSp' = nC ∧ cc = 1 ∧ ss = nC) := by
  obtain ⟨hG, hu, htot, hh, hg, ⟨u, hu1, hu2, hu3⟩, hold'⟩ := h
  subst hl
  obtain ⟨c', g', cl', va', sp', s0, e1, e2, nSp', cc, ss, a1, a2, a3, a4, a5, a6, a7, a8, a9, a10, a11, a12, a13⟩ := gatherE1 (N := N) (sp := sp) (gs := gs) (gc := gc) hN hG hn htot hC hS hh h1 hu2 hg hu3 (fun _ => ht) (fun _ => hv.1) (fun _ => hv.2)
  refine ⟨c', g', cl', va', sp', l1 ++ (s0 ++ e1 ++ e2), nI (tot (gZ G) (l1 ++ s0)), nI (tot (gZ G) (l1 ++ (s0 ++ e1))), nI (tot (gZ G) (l1 ++ (s0 ++ e1 ++ e2))), nSp', cc, ss, ?_, ⟨a8 rfl, a9 rfl⟩, ?_, a2⟩
  · intro H_used H_spareUsed H_limit H_every H_fresh H_made H_madeLimit H_reachedFromGlobals H_reachedInAll H_keptGlobalsUsed H_kept S_handlers
    obtain ⟨old', olt', b1, b2⟩ := a1 gu H_used H_spareUsed old olt H_limit H_every H_fresh H_made H_madeLimit H_reachedFromGlobals H_reachedInAll H_keptGlobalsUsed H_kept (nI t) (nI fr) S_handlers (fun _ => ⟨rfl, rfl⟩)
    refine ⟨old', olt', ?_, a3, rfl, Nat.le_trans a6 htot, a4, a7, ⟨u, hu1, hu2, hu3⟩, ?_⟩
    · rw [hu1]
      exact b2
    · rcases b1 with ⟨b1, b3⟩ | ⟨b0, b1, b3⟩
      · exact ⟨l1 ++ (s0 ++ e1 ++ e2), [], (List.append_nil _).symm, b1, fun _ => a5⟩
      · exact ⟨l1, s0 ++ e1 ++ e2, rfl, b1.trans (hold b0), fun _ => h1⟩
  · intro hl o ho
    subst hl
    exact a12 o ho
theorem ask1_E {c g va cl sp : Nat → Int64} {gu used old olt fresh rG rA su : Int32} {nC nSp nV nB n L : Nat} (hN : 200000 ≤ N) (hn : nm < 134217728) (h : hpE nk nm nid G l gg gu used old olt g c nC) (hv : vlE nk nm G l t gs fr gc va cl) (hC : nC ≤ 131072) (hS : nSp ≤ 131072) (ht : t ≤ nV ∧ nV ≤ 65536 ∧ fr ≤ nB ∧ nB ≤ 8192) (hnn : n ≤ 400000) (hL : L ≤ 131072) (S_handlers H_every H_made H_madeLimit H_keptGlobalsUsed H_kept : Int32) :
    ∃ (c' g' cl' va' sp' : Nat → Int64) (l' : List Nat) (fresh' old' olt' rG' rA' su' : Int32) (nSp' cc ss : Nat), (∀ (α : Type) (k : (Nat → Int64) → (Nat → Int64) → (Nat → Int64) → (Nat → Int64) → Int32 → Int32 → Int32 → Int32 → Int32 → Int32 → Int32 → Nat → (Nat → Int64) → Option (α × Nat × Nat)), lm_Heap_ask_1 N (nI t) (nI fr) S_handlers gu (nI L) H_every H_made H_madeLimit H_keptGlobalsUsed H_kept nV nB 2049 nC (nI n) k c g cl va fresh old olt rG rA su used nSp sp = dz_tk cc ss (k c' g' cl' va' fresh' old' olt' rG' rA' su' (nI (tot (gZ G) l')) nSp' sp')) ∧ hpE nk nm nid G l' gg gu (nI (tot (gZ G) l')) old' olt' g' c' nC ∧ vlE nk nm G l' t gs fr gc va' cl' ∧ (nSp' = nSp ∧ cc = 0 ∧ ss = 0 ∨ nSp < nC ∧ nSp' = nC ∧ cc = 1 ∧ ss = nC) := by
  have h' := h
  obtain ⟨hG, hu, htot, hh, hg, hgu, l1, l2, hl, hold, hcl⟩ := h'
  subst hu
  by_cases hdo : H_every ≤ fresh ∨ L < tot (gZ G) l + n
  · by_cases ho : olt = nI 0
    · obtain ⟨c', g', cl', va', sp', l', rG', rA', su', nSp', cc, ss, a1, a2, a3, a4⟩ := gath_E (N := N) (sp := sp) hN hn h hv hC hS ht hl (hcl ho) (fun _ => hold)
      obtain ⟨old', olt', b1, b2⟩ := a1 (nI (tot (gZ G) l)) su (nI L) H_every fresh H_made H_madeLimit rG rA H_keptGlobalsUsed H_kept S_handlers
      refine ⟨c', g', cl', va', sp', l', nI 0, old', olt', rG', rA', su', nSp', cc, ss, ?_, b2, a2, ?_⟩
      · intro α k
        rw [← hold, ho] at b1
        unfold lm_Heap_ask_1
        by_cases he : H_every ≤ fresh
        · simp (disch := omega) only [q_o, q_0, q_1, q_2, q_3, q_4, q_5, q_6, q_7, q_8, q_9, q_10, q_11, q_12, q_13, q_14, q_15, q_16, q_17, q_18, q_19, q_20, q_21, q_22, q_23, q_24, q_25, q_26, q_27, q_28, q_29, q_30, q_31, q_32, q_33, q_34, q_35, q_36, q_37, q_38, q_39, q_40, q_41, q_42, q_43, q_44, q_45, q_46, q_47, q_48, q_49, q_50, q_51, q_52, q_53, q_63, q_64, q_126, q_128, q_255, q_512, q_1024, q_1026, q_2000, q_2048, q_2049, q_4095, q_4096, q_8192, q_16383, q_65535, q_65536, q_69632, q_131072, q_132000, q_262144, q_300000, q_1000000, q_lt_t, q_lt_f, q_le_t, q_le_f, q_eq_t, q_eq_f, q_cl, q_add, q_mul, q_sub, q_nle_f, q_nle_t, q_nlt_f, q_nlt_t, q_neq_f, eq_self, q_n1, q_n2, q_m1, q_m1', q_m2, q_m21, q_m0, q_ml, upd_e, upd_n, updL_e, updL_n, updF_e, updF_n, let_d, tk_s, bind_s, or_false, false_or, and_true, true_and, if_true, if_false, ite_true, ite_false, reduceIte, not_true, not_false_iff, Nat.zero_add, Nat.add_zero, Nat.sub_zero, he, lm_Heap_ask_2, ho, b1]
        · have hLt := hdo.resolve_left he
          simp (disch := omega) only [q_o, q_0, q_1, q_2, q_3, q_4, q_5, q_6, q_7, q_8, q_9, q_10, q_11, q_12, q_13, q_14, q_15, q_16, q_17, q_18, q_19, q_20, q_21, q_22, q_23, q_24, q_25, q_26, q_27, q_28, q_29, q_30, q_31, q_32, q_33, q_34, q_35, q_36, q_37, q_38, q_39, q_40, q_41, q_42, q_43, q_44, q_45, q_46, q_47, q_48, q_49, q_50, q_51, q_52, q_53, q_63, q_64, q_126, q_128, q_255, q_512, q_1024, q_1026, q_2000, q_2048, q_2049, q_4095, q_4096, q_8192, q_16383, q_65535, q_65536, q_69632, q_131072, q_132000, q_262144, q_300000, q_1000000, q_lt_t, q_lt_f, q_le_t, q_le_f, q_eq_t, q_eq_f, q_cl, q_add, q_mul, q_sub, q_nle_f, q_nle_t, q_nlt_f, q_nlt_t, q_neq_f, eq_self, q_n1, q_n2, q_m1, q_m1', q_m2, q_m21, q_m0, q_ml, upd_e, upd_n, updL_e, updL_n, updF_e, updF_n, let_d, tk_s, bind_s, or_false, false_or, and_true, true_and, if_true, if_false, ite_true, ite_false, reduceIte, not_true, not_false_iff, Nat.zero_add, Nat.add_zero, Nat.sub_zero, he, lm_Heap_ask_3, ho, b1]
      · rcases a4 with a4 | a4
        · exact Or.inl ⟨a4.2.1, a4.2.2⟩
        · exact Or.inr a4
    · obtain ⟨c', g', cl', va', sp', l', rG', rA', su', nSp', cc, ss, a1, a2, a3, a4⟩ := gath_E (N := N) (sp := sp) (l1 := []) (l2 := l) hN hn h hv hC hS ht rfl (fun o ho => by cases ho) (fun h => absurd rfl h)
      obtain ⟨old', olt', b1, b2⟩ := a1 (nI (tot (gZ G) l)) su (nI L) H_every fresh H_made H_madeLimit rG rA H_keptGlobalsUsed H_kept S_handlers
      refine ⟨c', g', cl', va', sp', l', nI 0, old', olt', rG', rA', su', nSp', cc, ss, ?_, b2, a2, ?_⟩
      · intro α k
        have e0 : tot (gZ G) [] = 0 := rfl
        rw [e0] at b1
        unfold lm_Heap_ask_1
        by_cases he : H_every ≤ fresh
        · simp (disch := omega) only [q_o, q_0, q_1, q_2, q_3, q_4, q_5, q_6, q_7, q_8, q_9, q_10, q_11, q_12, q_13, q_14, q_15, q_16, q_17, q_18, q_19, q_20, q_21, q_22, q_23, q_24, q_25, q_26, q_27, q_28, q_29, q_30, q_31, q_32, q_33, q_34, q_35, q_36, q_37, q_38, q_39, q_40, q_41, q_42, q_43, q_44, q_45, q_46, q_47, q_48, q_49, q_50, q_51, q_52, q_53, q_63, q_64, q_126, q_128, q_255, q_512, q_1024, q_1026, q_2000, q_2048, q_2049, q_4095, q_4096, q_8192, q_16383, q_65535, q_65536, q_69632, q_131072, q_132000, q_262144, q_300000, q_1000000, q_lt_t, q_lt_f, q_le_t, q_le_f, q_eq_t, q_eq_f, q_cl, q_add, q_mul, q_sub, q_nle_f, q_nle_t, q_nlt_f, q_nlt_t, q_neq_f, eq_self, q_n1, q_n2, q_m1, q_m1', q_m2, q_m21, q_m0, q_ml, upd_e, upd_n, updL_e, updL_n, updF_e, updF_n, let_d, tk_s, bind_s, or_false, false_or, and_true, true_and, if_true, if_false, ite_true, ite_false, reduceIte, not_true, not_false_iff, Nat.zero_add, Nat.add_zero, Nat.sub_zero, he, lm_Heap_ask_2, ho, b1]
        · have hLt := hdo.resolve_left he
          simp (disch := omega) only [q_o, q_0, q_1, q_2, q_3, q_4, q_5, q_6, q_7, q_8, q_9, q_10, q_11, q_12, q_13, q_14, q_15, q_16, q_17, q_18, q_19, q_20, q_21, q_22, q_23, q_24, q_25, q_26, q_27, q_28, q_29, q_30, q_31, q_32, q_33, q_34, q_35, q_36, q_37, q_38, q_39, q_40, q_41, q_42, q_43, q_44, q_45, q_46, q_47, q_48, q_49, q_50, q_51, q_52, q_53, q_63, q_64, q_126, q_128, q_255, q_512, q_1024, q_1026, q_2000, q_2048, q_2049, q_4095, q_4096, q_8192, q_16383, q_65535, q_65536, q_69632, q_131072, q_132000, q_262144, q_300000, q_1000000, q_lt_t, q_lt_f, q_le_t, q_le_f, q_eq_t, q_eq_f, q_cl, q_add, q_mul, q_sub, q_nle_f, q_nle_t, q_nlt_f, q_nlt_t, q_neq_f, eq_self, q_n1, q_n2, q_m1, q_m1', q_m2, q_m21, q_m0, q_ml, upd_e, upd_n, updL_e, updL_n, updF_e, updF_n, let_d, tk_s, bind_s, or_false, false_or, and_true, true_and, if_true, if_false, ite_true, ite_false, reduceIte, not_true, not_false_iff, Nat.zero_add, Nat.add_zero, Nat.sub_zero, he, lm_Heap_ask_3, ho, b1]
      · rcases a4 with a4 | a4
        · exact Or.inl ⟨a4.2.1, a4.2.2⟩
        · exact Or.inr a4
  · refine ⟨c, g, cl, va, sp, l, fresh, old, olt, rG, rA, su, nSp, 0, 0, ?_, h, hv, Or.inl ⟨rfl, rfl, rfl⟩⟩
    intro α k
    have he : ¬ H_every ≤ fresh := fun h => hdo (Or.inl h)
    have hf : ¬ L < tot (gZ G) l + n := fun h => hdo (Or.inr h)
    rw [tk_0]
    unfold lm_Heap_ask_1
    simp (disch := omega) only [q_o, q_0, q_1, q_2, q_3, q_4, q_5, q_6, q_7, q_8, q_9, q_10, q_11, q_12, q_13, q_14, q_15, q_16, q_17, q_18, q_19, q_20, q_21, q_22, q_23, q_24, q_25, q_26, q_27, q_28, q_29, q_30, q_31, q_32, q_33, q_34, q_35, q_36, q_37, q_38, q_39, q_40, q_41, q_42, q_43, q_44, q_45, q_46, q_47, q_48, q_49, q_50, q_51, q_52, q_53, q_63, q_64, q_126, q_128, q_255, q_512, q_1024, q_1026, q_2000, q_2048, q_2049, q_4095, q_4096, q_8192, q_16383, q_65535, q_65536, q_69632, q_131072, q_132000, q_262144, q_300000, q_1000000, q_lt_t, q_lt_f, q_le_t, q_le_f, q_eq_t, q_eq_f, q_cl, q_add, q_mul, q_sub, q_nle_f, q_nle_t, q_nlt_f, q_nlt_t, q_neq_f, eq_self, q_n1, q_n2, q_m1, q_m1', q_m2, q_m21, q_m0, q_ml, upd_e, upd_n, updL_e, updL_n, updF_e, updF_n, let_d, tk_s, bind_s, or_false, false_or, and_true, true_and, if_true, if_false, ite_true, ite_false, reduceIte, not_true, not_false_iff, Nat.zero_add, Nat.add_zero, Nat.sub_zero, he]
theorem ask4_E {c g va cl sp : Nat → Int64} {gu used old olt fresh rG rA su : Int32} {nC nSp nV nB n L : Nat} (hN : 200000 ≤ N) (hn : nm < 134217728) (h : hpE nk nm nid G l gg gu used old olt g c nC) (hv : vlE nk nm G l t gs fr gc va cl) (hC : nC ≤ 131072) (hS : nSp ≤ 131072) (ht : t ≤ nV ∧ nV ≤ 65536 ∧ fr ≤ nB ∧ nB ≤ 8192) (hnn : n ≤ 400000) (hL : L ≤ 131072) (S_handlers H_every H_made H_madeLimit H_keptGlobalsUsed H_kept : Int32) :
    ∃ (c' g' cl' va' sp' : Nat → Int64) (l' : List Nat) (fresh' old' olt' rG' rA' su' : Int32) (nSp' cc ss : Nat), (∀ (α : Type) (k : (Nat → Int64) → (Nat → Int64) → (Nat → Int64) → (Nat → Int64) → Int32 → Int32 → Int32 → Int32 → Int32 → Int32 → Int32 → Nat → (Nat → Int64) → Option (α × Nat × Nat)), lm_Heap_ask_4 N (nI t) (nI fr) S_handlers gu (nI L) H_every H_made H_madeLimit H_keptGlobalsUsed H_kept nV nB 2049 nC (nI n) k c g cl va fresh old olt rG rA su used nSp sp = dz_tk cc ss (k c' g' cl' va' fresh' old' olt' rG' rA' su' (nI (tot (gZ G) l')) nSp' sp')) ∧ hpE nk nm nid G l' gg gu (nI (tot (gZ G) l')) old' olt' g' c' nC ∧ vlE nk nm G l' t gs fr gc va' cl' ∧ (nSp' = nSp ∧ cc = 0 ∧ ss = 0 ∨ nSp < nC ∧ nSp' = nC ∧ cc = 1 ∧ ss = nC) ∧ (tot (gZ G) l' + n ≤ L ∨ ∀ o, o ∈ l' → rch G (rtA gg t gs fr gc) o) := by
  have h' := h
  obtain ⟨hG, hu, htot, hh, hg, hgu, l1, l2, hl, hold, hcl⟩ := h'
  subst hu
  by_cases hdo : tot (gZ G) l + n ≤ L
  · refine ⟨c, g, cl, va, sp, l, fresh, old, olt, rG, rA, su, nSp, 0, 0, ?_, h, hv, Or.inl ⟨rfl, rfl, rfl⟩, Or.inl hdo⟩
    intro α k
    rw [tk_0]
    unfold lm_Heap_ask_4
    simp (disch := omega) only [q_o, q_0, q_1, q_2, q_3, q_4, q_5, q_6, q_7, q_8, q_9, q_10, q_11, q_12, q_13, q_14, q_15, q_16, q_17, q_18, q_19, q_20, q_21, q_22, q_23, q_24, q_25, q_26, q_27, q_28, q_29, q_30, q_31, q_32, q_33, q_34, q_35, q_36, q_37, q_38, q_39, q_40, q_41, q_42, q_43, q_44, q_45, q_46, q_47, q_48, q_49, q_50, q_51, q_52, q_53, q_63, q_64, q_126, q_128, q_255, q_512, q_1024, q_1026, q_2000, q_2048, q_2049, q_4095, q_4096, q_8192, q_16383, q_65535, q_65536, q_69632, q_131072, q_132000, q_262144, q_300000, q_1000000, q_lt_t, q_lt_f, q_le_t, q_le_f, q_eq_t, q_eq_f, q_cl, q_add, q_mul, q_sub, q_nle_f, q_nle_t, q_nlt_f, q_nlt_t, q_neq_f, eq_self, q_n1, q_n2, q_m1, q_m1', q_m2, q_m21, q_m0, q_ml, upd_e, upd_n, updL_e, updL_n, updF_e, updF_n, let_d, tk_s, bind_s, or_false, false_or, and_true, true_and, if_true, if_false, ite_true, ite_false, reduceIte, not_true, not_false_iff, Nat.zero_add, Nat.add_zero, Nat.sub_zero]
  · obtain ⟨c', g', cl', va', sp', l', rG', rA', su', nSp', cc, ss, a1, a2, a3, a4⟩ := gath_E (N := N) (sp := sp) (l1 := []) (l2 := l) hN hn h hv hC hS ht rfl (fun o ho => by cases ho) (fun h => absurd rfl h)
    obtain ⟨old', olt', b1, b2⟩ := a1 (nI (tot (gZ G) l)) su (nI L) H_every fresh H_made H_madeLimit rG rA H_keptGlobalsUsed H_kept S_handlers
    refine ⟨c', g', cl', va', sp', l', nI 0, old', olt', rG', rA', su', nSp', cc, ss, ?_, b2, a2, ?_, Or.inr (a3 rfl)⟩
    · intro α k
      have e0 : tot (gZ G) [] = 0 := rfl
      rw [e0] at b1
      unfold lm_Heap_ask_4
      simp (disch := omega) only [q_o, q_0, q_1, q_2, q_3, q_4, q_5, q_6, q_7, q_8, q_9, q_10, q_11, q_12, q_13, q_14, q_15, q_16, q_17, q_18, q_19, q_20, q_21, q_22, q_23, q_24, q_25, q_26, q_27, q_28, q_29, q_30, q_31, q_32, q_33, q_34, q_35, q_36, q_37, q_38, q_39, q_40, q_41, q_42, q_43, q_44, q_45, q_46, q_47, q_48, q_49, q_50, q_51, q_52, q_53, q_63, q_64, q_126, q_128, q_255, q_512, q_1024, q_1026, q_2000, q_2048, q_2049, q_4095, q_4096, q_8192, q_16383, q_65535, q_65536, q_69632, q_131072, q_132000, q_262144, q_300000, q_1000000, q_lt_t, q_lt_f, q_le_t, q_le_f, q_eq_t, q_eq_f, q_cl, q_add, q_mul, q_sub, q_nle_f, q_nle_t, q_nlt_f, q_nlt_t, q_neq_f, eq_self, q_n1, q_n2, q_m1, q_m1', q_m2, q_m21, q_m0, q_ml, upd_e, upd_n, updL_e, updL_n, updF_e, updF_n, let_d, tk_s, bind_s, or_false, false_or, and_true, true_and, if_true, if_false, ite_true, ite_false, reduceIte, not_true, not_false_iff, Nat.zero_add, Nat.add_zero, Nat.sub_zero, b1]
    · rcases a4 with a4 | a4
      · exact Or.inl ⟨a4.2.1, a4.2.2⟩
      · exact Or.inr a4
theorem ask5_E {c g va cl sp : Nat → Int64} {gu used old olt fresh rG rA su : Int32} {nC nSp nV nB n L : Nat} (hN : 200000 ≤ N) (hn : nm < 134217728) (h : hpE nk nm nid G l gg gu used old olt g c nC) (hv : vlE nk nm G l t gs fr gc va cl) (hC : nC ≤ 131072) (hS : nSp ≤ 131072) (ht : t ≤ nV ∧ nV ≤ 65536 ∧ fr ≤ nB ∧ nB ≤ 8192) (hnn : n ≤ 400000) (hL : L ≤ 131072) (S_handlers H_every H_made H_madeLimit H_keptGlobalsUsed H_kept : Int32) :
    ∃ (c' g' cl' va' sp' : Nat → Int64) (l' : List Nat) (fresh' old' olt' rG' rA' su' : Int32) (nSp' cc ss : Nat), (∀ (α : Type) (k : (Nat → Int64) → (Nat → Int64) → (Nat → Int64) → (Nat → Int64) → Int32 → Int32 → Int32 → Int32 → Int32 → Int32 → Int32 → Nat → (Nat → Int64) → Option (α × Nat × Nat)), lm_Heap_ask_5 N (nI t) (nI fr) S_handlers gu (nI L) H_every H_made H_madeLimit H_keptGlobalsUsed H_kept nV nB 2049 nC (nI n) k c g cl va fresh old olt rG rA su used nSp sp = dz_tk cc ss (k c' g' cl' va' fresh' old' olt' rG' rA' su' (nI (tot (gZ G) l')) nSp' sp')) ∧ hpE nk nm nid G l' gg gu (nI (tot (gZ G) l')) old' olt' g' c' nC ∧ vlE nk nm G l' t gs fr gc va' cl' ∧ (nSp' = nSp ∧ cc = 0 ∧ ss = 0 ∨ nSp < nC ∧ nSp' = nC ∧ cc = 1 ∧ ss = nC) := by
  have h' := h
  obtain ⟨hG, hu, htot, hh, hg, hgu, l1, l2, hl, hold, hcl⟩ := h'
  subst hu
  by_cases hdo : H_every ≤ fresh ∨ L < tot (gZ G) l + n
  · by_cases ho : olt = nI 0
    · obtain ⟨c', g', cl', va', sp', l', rG', rA', su', nSp', cc, ss, a1, a2, a3, a4⟩ := gath_E (N := N) (sp := sp) hN hn h hv hC hS ht hl (hcl ho) (fun _ => hold)
      obtain ⟨old', olt', b1, b2⟩ := a1 (nI (tot (gZ G) l)) su (nI L) H_every fresh H_made H_madeLimit rG rA H_keptGlobalsUsed H_kept S_handlers
      refine ⟨c', g', cl', va', sp', l', nI 0, old', olt', rG', rA', su', nSp', cc, ss, ?_, b2, a2, ?_⟩
      · intro α k
        rw [← hold, ho] at b1
        unfold lm_Heap_ask_5
        by_cases he : H_every ≤ fresh
        · simp (disch := omega) only [q_o, q_0, q_1, q_2, q_3, q_4, q_5, q_6, q_7, q_8, q_9, q_10, q_11, q_12, q_13, q_14, q_15, q_16, q_17, q_18, q_19, q_20, q_21, q_22, q_23, q_24, q_25, q_26, q_27, q_28, q_29, q_30, q_31, q_32, q_33, q_34, q_35, q_36, q_37, q_38, q_39, q_40, q_41, q_42, q_43, q_44, q_45, q_46, q_47, q_48, q_49, q_50, q_51, q_52, q_53, q_63, q_64, q_126, q_128, q_255, q_512, q_1024, q_1026, q_2000, q_2048, q_2049, q_4095, q_4096, q_8192, q_16383, q_65535, q_65536, q_69632, q_131072, q_132000, q_262144, q_300000, q_1000000, q_lt_t, q_lt_f, q_le_t, q_le_f, q_eq_t, q_eq_f, q_cl, q_add, q_mul, q_sub, q_nle_f, q_nle_t, q_nlt_f, q_nlt_t, q_neq_f, eq_self, q_n1, q_n2, q_m1, q_m1', q_m2, q_m21, q_m0, q_ml, upd_e, upd_n, updL_e, updL_n, updF_e, updF_n, let_d, tk_s, bind_s, or_false, false_or, and_true, true_and, if_true, if_false, ite_true, ite_false, reduceIte, not_true, not_false_iff, Nat.zero_add, Nat.add_zero, Nat.sub_zero, he, lm_Heap_ask_6, ho, b1]
        · have hLt := hdo.resolve_left he
          simp (disch := omega) only [q_o, q_0, q_1, q_2, q_3, q_4, q_5, q_6, q_7, q_8, q_9, q_10, q_11, q_12, q_13, q_14, q_15, q_16, q_17, q_18, q_19, q_20, q_21, q_22, q_23, q_24, q_25, q_26, q_27, q_28, q_29, q_30, q_31, q_32, q_33, q_34, q_35, q_36, q_37, q_38, q_39, q_40, q_41, q_42, q_43, q_44, q_45, q_46, q_47, q_48, q_49, q_50, q_51, q_52, q_53, q_63, q_64, q_126, q_128, q_255, q_512, q_1024, q_1026, q_2000, q_2048, q_2049, q_4095, q_4096, q_8192, q_16383, q_65535, q_65536, q_69632, q_131072, q_132000, q_262144, q_300000, q_1000000, q_lt_t, q_lt_f, q_le_t, q_le_f, q_eq_t, q_eq_f, q_cl, q_add, q_mul, q_sub, q_nle_f, q_nle_t, q_nlt_f, q_nlt_t, q_neq_f, eq_self, q_n1, q_n2, q_m1, q_m1', q_m2, q_m21, q_m0, q_ml, upd_e, upd_n, updL_e, updL_n, updF_e, updF_n, let_d, tk_s, bind_s, or_false, false_or, and_true, true_and, if_true, if_false, ite_true, ite_false, reduceIte, not_true, not_false_iff, Nat.zero_add, Nat.add_zero, Nat.sub_zero, he, lm_Heap_ask_7, ho, b1]
      · rcases a4 with a4 | a4
        · exact Or.inl ⟨a4.2.1, a4.2.2⟩
        · exact Or.inr a4
    · obtain ⟨c', g', cl', va', sp', l', rG', rA', su', nSp', cc, ss, a1, a2, a3, a4⟩ := gath_E (N := N) (sp := sp) (l1 := []) (l2 := l) hN hn h hv hC hS ht rfl (fun o ho => by cases ho) (fun h => absurd rfl h)
      obtain ⟨old', olt', b1, b2⟩ := a1 (nI (tot (gZ G) l)) su (nI L) H_every fresh H_made H_madeLimit rG rA H_keptGlobalsUsed H_kept S_handlers
      refine ⟨c', g', cl', va', sp', l', nI 0, old', olt', rG', rA', su', nSp', cc, ss, ?_, b2, a2, ?_⟩
      · intro α k
        have e0 : tot (gZ G) [] = 0 := rfl
        rw [e0] at b1
        unfold lm_Heap_ask_5
        by_cases he : H_every ≤ fresh
        · simp (disch := omega) only [q_o, q_0, q_1, q_2, q_3, q_4, q_5, q_6, q_7, q_8, q_9, q_10, q_11, q_12, q_13, q_14, q_15, q_16, q_17, q_18, q_19, q_20, q_21, q_22, q_23, q_24, q_25, q_26, q_27, q_28, q_29, q_30, q_31, q_32, q_33, q_34, q_35, q_36, q_37, q_38, q_39, q_40, q_41, q_42, q_43, q_44, q_45, q_46, q_47, q_48, q_49, q_50, q_51, q_52, q_53, q_63, q_64, q_126, q_128, q_255, q_512, q_1024, q_1026, q_2000, q_2048, q_2049, q_4095, q_4096, q_8192, q_16383, q_65535, q_65536, q_69632, q_131072, q_132000, q_262144, q_300000, q_1000000, q_lt_t, q_lt_f, q_le_t, q_le_f, q_eq_t, q_eq_f, q_cl, q_add, q_mul, q_sub, q_nle_f, q_nle_t, q_nlt_f, q_nlt_t, q_neq_f, eq_self, q_n1, q_n2, q_m1, q_m1', q_m2, q_m21, q_m0, q_ml, upd_e, upd_n, updL_e, updL_n, updF_e, updF_n, let_d, tk_s, bind_s, or_false, false_or, and_true, true_and, if_true, if_false, ite_true, ite_false, reduceIte, not_true, not_false_iff, Nat.zero_add, Nat.add_zero, Nat.sub_zero, he, lm_Heap_ask_6, ho, b1]
        · have hLt := hdo.resolve_left he
          simp (disch := omega) only [q_o, q_0, q_1, q_2, q_3, q_4, q_5, q_6, q_7, q_8, q_9, q_10, q_11, q_12, q_13, q_14, q_15, q_16, q_17, q_18, q_19, q_20, q_21, q_22, q_23, q_24, q_25, q_26, q_27, q_28, q_29, q_30, q_31, q_32, q_33, q_34, q_35, q_36, q_37, q_38, q_39, q_40, q_41, q_42, q_43, q_44, q_45, q_46, q_47, q_48, q_49, q_50, q_51, q_52, q_53, q_63, q_64, q_126, q_128, q_255, q_512, q_1024, q_1026, q_2000, q_2048, q_2049, q_4095, q_4096, q_8192, q_16383, q_65535, q_65536, q_69632, q_131072, q_132000, q_262144, q_300000, q_1000000, q_lt_t, q_lt_f, q_le_t, q_le_f, q_eq_t, q_eq_f, q_cl, q_add, q_mul, q_sub, q_nle_f, q_nle_t, q_nlt_f, q_nlt_t, q_neq_f, eq_self, q_n1, q_n2, q_m1, q_m1', q_m2, q_m21, q_m0, q_ml, upd_e, upd_n, updL_e, updL_n, updF_e, updF_n, let_d, tk_s, bind_s, or_false, false_or, and_true, true_and, if_true, if_false, ite_true, ite_false, reduceIte, not_true, not_false_iff, Nat.zero_add, Nat.add_zero, Nat.sub_zero, he, lm_Heap_ask_7, ho, b1]
      · rcases a4 with a4 | a4
        · exact Or.inl ⟨a4.2.1, a4.2.2⟩
        · exact Or.inr a4
  · refine ⟨c, g, cl, va, sp, l, fresh, old, olt, rG, rA, su, nSp, 0, 0, ?_, h, hv, Or.inl ⟨rfl, rfl, rfl⟩⟩
    intro α k
    have he : ¬ H_every ≤ fresh := fun h => hdo (Or.inl h)
    have hf : ¬ L < tot (gZ G) l + n := fun h => hdo (Or.inr h)
    rw [tk_0]
    unfold lm_Heap_ask_5
    simp (disch := omega) only [q_o, q_0, q_1, q_2, q_3, q_4, q_5, q_6, q_7, q_8, q_9, q_10, q_11, q_12, q_13, q_14, q_15, q_16, q_17, q_18, q_19, q_20, q_21, q_22, q_23, q_24, q_25, q_26, q_27, q_28, q_29, q_30, q_31, q_32, q_33, q_34, q_35, q_36, q_37, q_38, q_39, q_40, q_41, q_42, q_43, q_44, q_45, q_46, q_47, q_48, q_49, q_50, q_51, q_52, q_53, q_63, q_64, q_126, q_128, q_255, q_512, q_1024, q_1026, q_2000, q_2048, q_2049, q_4095, q_4096, q_8192, q_16383, q_65535, q_65536, q_69632, q_131072, q_132000, q_262144, q_300000, q_1000000, q_lt_t, q_lt_f, q_le_t, q_le_f, q_eq_t, q_eq_f, q_cl, q_add, q_mul, q_sub, q_nle_f, q_nle_t, q_nlt_f, q_nlt_t, q_neq_f, eq_self, q_n1, q_n2, q_m1, q_m1', q_m2, q_m21, q_m0, q_ml, upd_e, upd_n, updL_e, updL_n, updF_e, updF_n, let_d, tk_s, bind_s, or_false, false_or, and_true, true_and, if_true, if_false, ite_true, ite_false, reduceIte, not_true, not_false_iff, Nat.zero_add, Nat.add_zero, Nat.sub_zero, he]
theorem ask8_E {c g va cl sp : Nat → Int64} {gu used old olt fresh rG rA su : Int32} {nC nSp nV nB n L : Nat} (hN : 200000 ≤ N) (hn : nm < 134217728) (h : hpE nk nm nid G l gg gu used old olt g c nC) (hv : vlE nk nm G l t gs fr gc va cl) (hC : nC ≤ 131072) (hS : nSp ≤ 131072) (ht : t ≤ nV ∧ nV ≤ 65536 ∧ fr ≤ nB ∧ nB ≤ 8192) (hnn : n ≤ 400000) (hL : L ≤ 131072) (S_handlers H_every H_made H_madeLimit H_keptGlobalsUsed H_kept : Int32) :
    ∃ (c' g' cl' va' sp' : Nat → Int64) (l' : List Nat) (fresh' old' olt' rG' rA' su' : Int32) (nSp' cc ss : Nat), (∀ (α : Type) (k : (Nat → Int64) → (Nat → Int64) → (Nat → Int64) → (Nat → Int64) → Int32 → Int32 → Int32 → Int32 → Int32 → Int32 → Int32 → Nat → (Nat → Int64) → Option (α × Nat × Nat)), lm_Heap_ask_8 N (nI t) (nI fr) S_handlers gu (nI L) H_every H_made H_madeLimit H_keptGlobalsUsed H_kept nV nB 2049 nC (nI n) k c g cl va fresh old olt rG rA su used nSp sp = dz_tk cc ss (k c' g' cl' va' fresh' old' olt' rG' rA' su' (nI (tot (gZ G) l')) nSp' sp')) ∧ hpE nk nm nid G l' gg gu (nI (tot (gZ G) l')) old' olt' g' c' nC ∧ vlE nk nm G l' t gs fr gc va' cl' ∧ (nSp' = nSp ∧ cc = 0 ∧ ss = 0 ∨ nSp < nC ∧ nSp' = nC ∧ cc = 1 ∧ ss = nC) ∧ (tot (gZ G) l' + n ≤ L ∨ ∀ o, o ∈ l' → rch G (rtA gg t gs fr gc) o) := by
  have h' := h
  obtain ⟨hG, hu, htot, hh, hg, hgu, l1, l2, hl, hold, hcl⟩ := h'
  subst hu
  by_cases hdo : tot (gZ G) l + n ≤ L
  · refine ⟨c, g, cl, va, sp, l, fresh, old, olt, rG, rA, su, nSp, 0, 0, ?_, h, hv, Or.inl ⟨rfl, rfl, rfl⟩, Or.inl hdo⟩
    intro α k
    rw [tk_0]
    unfold lm_Heap_ask_8
    simp (disch := omega) only [q_o, q_0, q_1, q_2, q_3, q_4, q_5, q_6, q_7, q_8, q_9, q_10, q_11, q_12, q_13, q_14, q_15, q_16, q_17, q_18, q_19, q_20, q_21, q_22, q_23, q_24, q_25, q_26, q_27, q_28, q_29, q_30, q_31, q_32, q_33, q_34, q_35, q_36, q_37, q_38, q_39, q_40, q_41, q_42, q_43, q_44, q_45, q_46, q_47, q_48, q_49, q_50, q_51, q_52, q_53, q_63, q_64, q_126, q_128, q_255, q_512, q_1024, q_1026, q_2000, q_2048, q_2049, q_4095, q_4096, q_8192, q_16383, q_65535, q_65536, q_69632, q_131072, q_132000, q_262144, q_300000, q_1000000, q_lt_t, q_lt_f, q_le_t, q_le_f, q_eq_t, q_eq_f, q_cl, q_add, q_mul, q_sub, q_nle_f, q_nle_t, q_nlt_f, q_nlt_t, q_neq_f, eq_self, q_n1, q_n2, q_m1, q_m1', q_m2, q_m21, q_m0, q_ml, upd_e, upd_n, updL_e, updL_n, updF_e, updF_n, let_d, tk_s, bind_s, or_false, false_or, and_true, true_and, if_true, if_false, ite_true, ite_false, reduceIte, not_true, not_false_iff, Nat.zero_add, Nat.add_zero, Nat.sub_zero]
  · obtain ⟨c', g', cl', va', sp', l', rG', rA', su', nSp', cc, ss, a1, a2, a3, a4⟩ := gath_E (N := N) (sp := sp) (l1 := []) (l2 := l) hN hn h hv hC hS ht rfl (fun o ho => by cases ho) (fun h => absurd rfl h)
    obtain ⟨old', olt', b1, b2⟩ := a1 (nI (tot (gZ G) l)) su (nI L) H_every fresh H_made H_madeLimit rG rA H_keptGlobalsUsed H_kept S_handlers
    refine ⟨c', g', cl', va', sp', l', nI 0, old', olt', rG', rA', su', nSp', cc, ss, ?_, b2, a2, ?_, Or.inr (a3 rfl)⟩
    · intro α k
      have e0 : tot (gZ G) [] = 0 := rfl
      rw [e0] at b1
      unfold lm_Heap_ask_8
      simp (disch := omega) only [q_o, q_0, q_1, q_2, q_3, q_4, q_5, q_6, q_7, q_8, q_9, q_10, q_11, q_12, q_13, q_14, q_15, q_16, q_17, q_18, q_19, q_20, q_21, q_22, q_23, q_24, q_25, q_26, q_27, q_28, q_29, q_30, q_31, q_32, q_33, q_34, q_35, q_36, q_37, q_38, q_39, q_40, q_41, q_42, q_43, q_44, q_45, q_46, q_47, q_48, q_49, q_50, q_51, q_52, q_53, q_63, q_64, q_126, q_128, q_255, q_512, q_1024, q_1026, q_2000, q_2048, q_2049, q_4095, q_4096, q_8192, q_16383, q_65535, q_65536, q_69632, q_131072, q_132000, q_262144, q_300000, q_1000000, q_lt_t, q_lt_f, q_le_t, q_le_f, q_eq_t, q_eq_f, q_cl, q_add, q_mul, q_sub, q_nle_f, q_nle_t, q_nlt_f, q_nlt_t, q_neq_f, eq_self, q_n1, q_n2, q_m1, q_m1', q_m2, q_m21, q_m0, q_ml, upd_e, upd_n, updL_e, updL_n, updF_e, updF_n, let_d, tk_s, bind_s, or_false, false_or, and_true, true_and, if_true, if_false, ite_true, ite_false, reduceIte, not_true, not_false_iff, Nat.zero_add, Nat.add_zero, Nat.sub_zero, b1]
    · rcases a4 with a4 | a4
      · exact Or.inl ⟨a4.2.1, a4.2.2⟩
      · exact Or.inr a4
end AK
