/-! Part of an object becomes another value -/
section MUT
variable {N : Nat}
variable {nk : Nat → Nat} {nm : Nat} {nid : Nat} {G : Nat → GO} {lE : List Nat} {gg : Nat → AV} {t : Nat} {gs : Nat → AV} {fr : Nat} {gc : Nat → AV} {hn : Nat} {gb : Nat → Nat} {gf : Nat → Nat} {gr : Nat → Int32} {hF : Nat → Nat} {hH : Nat → Nat} {hP : Nat → Int32} {hD : Nat → Int32} {lR : List Nat} {P_size : Int32} {P_constants : Int32} {P_closed : Int32} {P_open : Int32} {O_size : Int32} {S_top : Int32} {S_frames : Int32} {S_handlers : Int32} {H_globalsUsed : Int32} {H_used : Int32} {H_spareUsed : Int32} {H_old : Int32} {H_oldLeadsToNew : Int32} {H_limit : Int32} {H_every : Int32} {H_fresh : Int32} {H_made : Int32} {H_madeLimit : Int32} {H_reachedFromGlobals : Int32} {H_reachedInAll : Int32} {H_keptGlobalsUsed : Int32} {H_kept : Int32} {B_names : Int32} {Q_size : Int32} {M_status : Int32} {M_place : Int32} {M_next : Int32} {M_fuel : Int32} {M_ticks : Int32} {M_depth : Int32} {M_depthLimit : Int32} {M_done : Int32} {n_P_words : Nat} {f_P_words : Nat → Int32} {n_P_bytes : Nat} {f_P_bytes : Nat → Int32} {n_P_ends : Nat} {f_P_ends : Nat → Int32} {n_O_bytes : Nat} {f_O_bytes : Nat → Int32} {n_S_values : Nat} {f_S_values : Nat → Int64} {n_S_bases : Nat} {f_S_bases : Nat → Int32} {n_S_floors : Nat} {f_S_floors : Nat → Int32} {n_S_returns : Nat} {f_S_returns : Nat → Int32} {n_S_closures : Nat} {f_S_closures : Nat → Int64} {n_S_handlerFrames : Nat} {f_S_handlerFrames : Nat → Int32} {n_S_handlerPlaces : Nat} {f_S_handlerPlaces : Nat → Int32} {n_S_handlerHeights : Nat} {f_S_handlerHeights : Nat → Int32} {n_S_handlerDepths : Nat} {f_S_handlerDepths : Nat → Int32} {n_H_globals : Nat} {f_H_globals : Nat → Int64} {n_H_cells : Nat} {f_H_cells : Nat → Int64} {n_H_spare : Nat} {f_H_spare : Nat → Int64} {n_Q_links : Nat} {f_Q_links : Nat → Int32} {n_Q_pairs : Nat} {f_Q_pairs : Nat → Int64} {I : Nat → Int32} {F : Nat → Nat → Int32}
def gset (G : Nat → GO) (o i : Nat) (v : AV) : Nat → GO := fun q => if q = o then ((G o).1, (G o).2.1, (G o).2.2.1, upA (G o).2.2.2.1 i v, (G o).2.2.2.2) else G q
variable {o i : Nat} {v : AV}
theorem gs_e {q : Nat} (h : q = o) : gset G o i v q = ((G o).1, (G o).2.1, (G o).2.2.1, upA (G o).2.2.2.1 i v, (G o).2.2.2.2) := if_pos h
theorem gs_n {q : Nat} (h : q ≠ o) : gset G o i v q = G q := if_neg h
theorem gK_s : gK (gset G o i v) = gK G := by
  funext q
  by_cases h : q = o
  · unfold gK; rw [gs_e h, h]
  · unfold gK; rw [gs_n h]
theorem gN_s : gN (gset G o i v) = gN G := by
  funext q
  by_cases h : q = o
  · unfold gN; rw [gs_e h, h]
  · unfold gN; rw [gs_n h]
theorem gC_s : gC (gset G o i v) = gC G := by
  funext q
  by_cases h : q = o
  · unfold gC; rw [gs_e h, h]
  · unfold gC; rw [gs_n h]
theorem gB_s : gB (gset G o i v) = gB G := by
  funext q
  by_cases h : q = o
  · unfold gB; rw [gs_e h, h]
  · unfold gB; rw [gs_n h]
theorem gZ_s : gZ (gset G o i v) = gZ G := by
  funext q
  unfold gZ
  rw [gK_s, gC_s]
theorem gNp_s : gNp (gset G o i v) = gNp G := by
  funext q
  unfold gNp
  rw [gK_s, gC_s]
theorem gP_e : gP (gset G o i v) o i = v := by
  unfold gP
  rw [gs_e rfl]
  exact upA_e rfl
theorem gP_n {q j : Nat} (h : ¬ (q = o ∧ j = i)) : gP (gset G o i v) q j = gP G q j := by
  unfold gP
  by_cases e : q = o
  · rw [gs_e e, e]
    exact upA_n (fun e2 => h ⟨e, e2⟩)
  · rw [gs_n e]
theorem wE_s {l : List Nat} (w : AV) : wE (gset G o i v) l w = wE G l w := by
  rcases w with n | ⟨k, j⟩ | q
  · rfl
  · rfl
  · show obW _ _ = obW _ _
    rw [gK_s, gZ_s]
theorem vR_s {l : List Nat} (w : AV) : vR (gset G o i v) l w = vR G l w := by
  rcases w with n | ⟨k, j⟩ | q
  · rfl
  · rfl
  · show nI _ = nI _
    rw [gZ_s]
theorem clR_s {l : List Nat} (w : AV) : clR (gset G o i v) l w = clR G l w := by
  rcases w with n | ⟨k, j⟩ | q
  · rfl
  · rfl
  · show nI _ = nI _
    rw [gZ_s]
theorem hE_s (q : Nat) : hE (gset G o i v) q = hE G q := by
  unfold hE
  rw [gK_s, gC_s, gN_s]
theorem thR_s (q : Nat) : thR (gset G o i v) q = thR G q := by
  unfold thR
  rw [gK_s, gC_s, gN_s]
theorem chR_s (q : Nat) : chR (gset G o i v) q = chR G q := by
  unfold chR
  rw [gK_s, gC_s, gN_s]
theorem okO_s {q : Nat} (h : okO nk nm G q) : okO nk nm (gset G o i v) q := by
  unfold okO
  rw [gK_s, gC_s, gN_s, gB_s]
  exact h
theorem wf_s {l : List Nat} (h : wf nk nm nid G l) (hv : okV nk nm l v) (hK : 3 < gK G o) : wf nk nm nid (gset G o i v) l := by
  refine ⟨h.1, fun q hq => ?_⟩
  obtain ⟨h1, h2, h3, h4⟩ := h.2 q hq
  refine ⟨h1, okO_s h2, fun j hj hjn => ?_, fun hk j p hj hjn hp => ?_⟩
  · rw [gNp_s] at hjn
    by_cases e : q = o ∧ j = i
    · obtain ⟨rfl, rfl⟩ := e; rw [gP_e]; exact hv
    · rw [gP_n e]; exact h3 j hj hjn
  · rw [gNp_s] at hjn
    rw [gK_s] at hk
    have e : ¬ (q = o ∧ j = i) := fun e => by rw [e.1] at hk; omega
    rw [gP_n e] at hp
    exact h4 hk j p hj hjn hp
theorem heE_s {l : List Nat} {c : Nat → Int64} (h : heE G l c) (ho : o ∈ l) (hi : 1 ≤ i) (hin : i ≤ gNp G o) : heE (gset G o i v) l (vp_updL c (adr (gZ G) l o + i) (wE G l v)) := by
  have hiz := (np_lt hin hi).1
  have h6 := (np_lt hin hi).2
  intro q hq
  have hzq := gZ_pos G q
  obtain ⟨a1, a2, a3⟩ := h q hq
  rw [gZ_s, hE_s, gK_s, gC_s, gB_s, gNp_s]
  refine ⟨?_, fun j hj hjn => ?_, fun e6 j hj => ?_⟩
  · rw [updL_n (fun e => by have := (adr_in (Z := gZ G) (i := 0) (j := i) hq ho (by omega) hiz (by omega)).2; omega)]
    exact a1
  · rw [wE_s]
    by_cases e : q = o ∧ j = i
    · obtain ⟨rfl, rfl⟩ := e
      rw [updL_e rfl, gP_e]
    · rw [updL_n (fun e2 => e (adr_in (Z := gZ G) hq ho (np_lt hjn hj).1 hiz e2)), gP_n e]
      exact a2 j hj hjn
  · have hz6 : gZ G q = 1 + (gC G q + 3) / 4 := by unfold gZ; rw [if_pos e6]
    rw [updL_n (fun e => by
      have := (adr_in (Z := gZ G) (i := 1 + j) (j := i) hq ho (by omega) hiz (by omega)).1
      exact h6 (this ▸ e6))]
    exact a3 e6 j hj
theorem heR_s {l : List Nat} {tg c : Nat → Int32} (h : heR G l tg c) (ho : o ∈ l) (hi : 1 ≤ i) (hin : i ≤ gNp G o) : heR (gset G o i v) l (upd tg (adr (gZ G) l o + i) (tR v)) (upd c (adr (gZ G) l o + i) (vR G l v)) := by
  have hiz := (np_lt hin hi).1
  have h6 := (np_lt hin hi).2
  intro q hq
  have hzq := gZ_pos G q
  obtain ⟨a1, a2, a3, a4⟩ := h q hq
  rw [gZ_s, thR_s, chR_s, gK_s, gC_s, gB_s, gNp_s]
  have hne : adr (gZ G) l q ≠ adr (gZ G) l o + i := fun e => by have := (adr_in (Z := gZ G) (i := 0) (j := i) hq ho (by omega) hiz (by omega)).2; omega
  refine ⟨?_, ?_, fun j hj hjn => ?_, fun e6 j hj => ?_⟩
  · rw [upd_n hne]; exact a1
  · rw [upd_n hne]; exact a2
  · rw [vR_s]
    by_cases e : q = o ∧ j = i
    · obtain ⟨rfl, rfl⟩ := e
      rw [upd_e rfl, upd_e rfl, gP_e]
      exact ⟨rfl, rfl⟩
    · have hne2 : adr (gZ G) l q + j ≠ adr (gZ G) l o + i := fun e2 => e (adr_in (Z := gZ G) hq ho (np_lt hjn hj).1 hiz e2)
      rw [upd_n hne2, upd_n hne2, gP_n e]
      exact a3 j hj hjn
  · have hz6 : gZ G q = 1 + (gC G q + 3) / 4 := by unfold gZ; rw [if_pos e6]
    rw [upd_n (fun e => by
      have := (adr_in (Z := gZ G) (i := 1 + j) (j := i) hq ho (by omega) hiz (by omega)).1
      exact h6 (this ▸ e6))]
    exact a4 e6 j hj
theorem eR_set {olt' : Int32} (h : eR nk nm nid G lE gg t gs fr gc hn gb gf gr hF hH hP hD S_top S_frames S_handlers n_S_values f_S_values n_S_bases f_S_bases n_S_floors f_S_floors n_S_returns f_S_returns n_S_closures f_S_closures n_S_handlerFrames f_S_handlerFrames n_S_handlerPlaces f_S_handlerPlaces n_S_handlerHeights f_S_handlerHeights n_S_handlerDepths f_S_handlerDepths H_globalsUsed H_used H_old H_oldLeadsToNew f_H_globals n_H_cells f_H_cells n_H_spare) (ho : o ∈ lE) (hK : 3 < gK G o) (hi : 1 ≤ i) (hin : i ≤ gNp G o) (hv : okV nk nm lE v)
    (hol : ∀ l1 l2, lE = l1 ++ l2 → H_old = nI (tot (gZ G) l1) → (H_oldLeadsToNew = nI 0 → cls G l1) → olt' = nI 0 → cls (gset G o i v) l1) : eR nk nm nid (gset G o i v) lE gg t gs fr gc hn gb gf gr hF hH hP hD S_top S_frames S_handlers n_S_values f_S_values n_S_bases f_S_bases n_S_floors f_S_floors n_S_returns f_S_returns n_S_closures f_S_closures n_S_handlerFrames f_S_handlerFrames n_S_handlerPlaces f_S_handlerPlaces n_S_handlerHeights f_S_handlerHeights n_S_handlerDepths f_S_handlerDepths H_globalsUsed H_used H_old olt' f_H_globals n_H_cells (vp_updL f_H_cells (adr (gZ G) lE o + i) (wE G lE v)) n_H_spare := by
  obtain ⟨h1, h2, h3, ⟨v1, v2⟩, ⟨g1, g2, g3, g4, g5, g6, l1, l2, g7, g8, g9⟩, h6, h7⟩ := h
  refine ⟨h1, h2, h3, ⟨fun k hk => by rw [wE_s]; exact v1 k hk, fun k hk => by rw [wE_s]; exact v2 k hk⟩, ⟨wf_s g1 hv hK, by rw [gZ_s]; exact g2, by rw [gZ_s]; exact g3, heE_s g4 ho hi hin, fun k hk => by rw [wE_s]; exact g5 k hk, g6, l1, l2, g7, by rw [gZ_s]; exact g8, hol l1 l2 g7 g8 g9⟩, fun k hk => ?_, h7⟩
  rw [gK_s]
  exact h6 k hk
theorem rR_set {F' : Nat → Nat → Int32} (h : rR nk nm nid G lR gg t gs fr gc hn gb gf gr hF hH hP hD I F) (ho : o ∈ lR) (hK : 3 < gK G o) (hi : 1 ≤ i) (hin : i ≤ gNp G o) (hv : okV nk nm lR v) (h0 : F' 0 = upd (F 0) (adr (gZ G) lR o + i) (tR v)) (h1 : F' 1 = upd (F 1) (adr (gZ G) lR o + i) (vR G lR v)) (hF' : ∀ j, j ≠ 0 → j ≠ 1 → F' j = F j) : rR nk nm nid (gset G o i v) lR gg t gs fr gc hn gb gf gr hF hH hP hD I F' := by
  obtain ⟨⟨a1, a2, a3, a4, a5, a6, a7, a8⟩, ⟨b1, b2⟩, ⟨c1, c2, c3, c4, c5, c6, c7, c8, c9, c10⟩⟩ := h
  refine ⟨⟨a1, a2, a3, ?_, ?_, ?_, a7, a8⟩, ⟨fun k hk => ?_, fun k hk => ?_⟩, ⟨wf_s c1 hv hK, c2, by rw [gZ_s]; exact c3, by rw [gZ_s]; exact c4, ?_, ?_, c7, fun k hk => ?_, c9, by rw [vR_s]; exact c10⟩⟩
  · rw [hF' 24 (by omega) (by omega), hF' 25 (by omega) (by omega)]; exact a4
  · rw [hF' 26 (by omega) (by omega)]; exact a5
  · rw [hF' 31 (by omega) (by omega), hF' 32 (by omega) (by omega), hF' 33 (by omega) (by omega), hF' 34 (by omega) (by omega)]; exact a6
  · rw [hF' 27 (by omega) (by omega), hF' 28 (by omega) (by omega), vR_s]; exact b1 k hk
  · rw [hF' 23 (by omega) (by omega), clR_s]; exact b2 k hk
  · rw [h0, h1]; exact heR_s c5 ho hi hin
  · rw [hF' 2 (by omega) (by omega)]; exact c6
  · rw [hF' 5 (by omega) (by omega), hF' 6 (by omega) (by omega), vR_s]; exact c8 k hk
/-- change: the cell, and whether the old lead to the new -/
theorem change_E (h : eR nk nm nid G lE gg t gs fr gc hn gb gf gr hF hH hP hD S_top S_frames S_handlers n_S_values f_S_values n_S_bases f_S_bases n_S_floors f_S_floors n_S_returns f_S_returns n_S_closures f_S_closures n_S_handlerFrames f_S_handlerFrames n_S_handlerPlaces f_S_handlerPlaces n_S_handlerHeights f_S_handlerHeights n_S_handlerDepths f_S_handlerDepths H_globalsUsed H_used H_old H_oldLeadsToNew f_H_globals n_H_cells f_H_cells n_H_spare) (ho : o ∈ lE) (hi : 1 ≤ i) (hin : i ≤ gNp G o) (hv : okV nk nm lE v) :
    ∃ olt' : Int32, (∀ (H_globalsUsed : Int32) (H_used : Int32) (H_spareUsed : Int32) (H_limit : Int32) (H_every : Int32) (H_fresh : Int32) (H_made : Int32) (H_madeLimit : Int32) (H_reachedFromGlobals : Int32) (H_reachedInAll : Int32) (H_keptGlobalsUsed : Int32) (H_kept : Int32), m_Heap_change N H_globalsUsed H_used H_spareUsed H_old H_oldLeadsToNew H_limit H_every H_fresh H_made H_madeLimit H_reachedFromGlobals H_reachedInAll H_keptGlobalsUsed H_kept n_H_cells f_H_cells (nI (adr (gZ G) lE o + i)) (wE G lE v) = some (vp_updL f_H_cells (adr (gZ G) lE o + i) (wE G lE v), olt')) ∧ (∀ l1 l2, lE = l1 ++ l2 → H_old = nI (tot (gZ G) l1) → (H_oldLeadsToNew = nI 0 → cls G l1) → olt' = nI 0 → cls (gset G o i v) l1) := by
  obtain ⟨hG, hT, hC, hH', hnn⟩ := eR_hp h
  have hkd := kd_E (N := N) hG hv
  have hnu := nu_E (N := N) hG hv hnn (by omega)
  have hk8 := kV_8 hG hv
  have hend := adr_end (Z := gZ G) ho
  have hiz := (np_lt hin hi).1
  obtain ⟨l1, l2, g7, g8, g9⟩ := h.2.2.2.2.1.2.2.2.2.2.2
  have htl : tot (gZ G) l1 ≤ tot (gZ G) lE := by rw [g7, tot_append]; omega
  have key : ∀ m1 m2, lE = m1 ++ m2 → tot (gZ G) m1 = tot (gZ G) l1 → (cls G m1) → ((adr (gZ G) lE o + i < tot (gZ G) l1) → ∀ p, v = vO p → adr (gZ G) lE p < tot (gZ G) l1) → cls (gset G o i v) m1 := by
    intro m1 m2 e1 e2 hc hp q hq j p hj hjn hpp
    rw [gNp_s] at hjn
    by_cases e : q = o ∧ j = i
    · obtain ⟨rfl, rfl⟩ := e
      rw [gP_e] at hpp
      have hqa := adr_end (Z := gZ G) hq
      have e3 : adr (gZ G) lE q = adr (gZ G) m1 q := by rw [e1]; exact adr_l hq
      have h4 := hp (by omega) p hpp
      by_cases hpm : p ∈ m1
      · exact hpm
      · rw [e1, adr_r hpm] at h4
        omega
    · rw [gP_n e] at hpp
      exact hc q hq j p hj hjn hpp
  have hm : ∀ m1 : List Nat, tot (gZ G) m1 ≤ 131072 → H_old = nI (tot (gZ G) m1) → tot (gZ G) m1 = tot (gZ G) l1 := by
    intro m1 hb e
    rw [g8] at e
    exact ((nI_eq (by omega) (by omega)).mp e).symm
  by_cases h1 : tot (gZ G) l1 ≤ adr (gZ G) lE o + i
  · refine ⟨H_oldLeadsToNew, ?_, fun m1 m2 e1 e2 hc h0 => ?_⟩
    · intros
      unfold m_Heap_change
      simp (disch := omega) only [q_o, q_0, q_1, q_2, q_3, q_4, q_5, q_6, q_7, q_8, q_9, q_10, q_11, q_12, q_13, q_14, q_15, q_16, q_17, q_18, q_19, q_20, q_21, q_22, q_23, q_24, q_25, q_26, q_27, q_28, q_29, q_30, q_31, q_32, q_33, q_34, q_35, q_36, q_37, q_38, q_39, q_40, q_41, q_42, q_43, q_44, q_45, q_46, q_47, q_48, q_49, q_50, q_51, q_52, q_53, q_63, q_64, q_126, q_128, q_255, q_512, q_1024, q_1026, q_2000, q_2048, q_2049, q_4095, q_4096, q_8192, q_16383, q_65535, q_65536, q_69632, q_131072, q_132000, q_262144, q_300000, q_1000000, q_lt_t, q_lt_f, q_le_t, q_le_f, q_eq_t, q_eq_f, q_cl, q_add, q_mul, q_sub, q_nle_f, q_nle_t, q_nlt_f, q_nlt_t, q_neq_f, eq_self, q_n1, q_n2, q_m1, q_m1', q_m2, q_m21, q_m0, q_ml, upd_e, upd_n, updL_e, updL_n, updF_e, updF_n, let_d, tk_s, bind_s, or_false, false_or, and_true, true_and, if_true, if_false, ite_true, ite_false, reduceIte, not_true, not_false_iff, Nat.zero_add, Nat.add_zero, Nat.sub_zero, g8]
    · have hb : tot (gZ G) m1 ≤ tot (gZ G) lE := by rw [e1, tot_append]; omega
      exact key m1 m2 e1 (hm m1 (by omega) e2) (hc h0) (fun h => absurd h (by omega))
  · by_cases h2 : kV G v < 2
    · refine ⟨H_oldLeadsToNew, ?_, fun m1 m2 e1 e2 hc h0 => ?_⟩
      · intros
        unfold m_Heap_change
        simp (disch := omega) only [q_o, q_0, q_1, q_2, q_3, q_4, q_5, q_6, q_7, q_8, q_9, q_10, q_11, q_12, q_13, q_14, q_15, q_16, q_17, q_18, q_19, q_20, q_21, q_22, q_23, q_24, q_25, q_26, q_27, q_28, q_29, q_30, q_31, q_32, q_33, q_34, q_35, q_36, q_37, q_38, q_39, q_40, q_41, q_42, q_43, q_44, q_45, q_46, q_47, q_48, q_49, q_50, q_51, q_52, q_53, q_63, q_64, q_126, q_128, q_255, q_512, q_1024, q_1026, q_2000, q_2048, q_2049, q_4095, q_4096, q_8192, q_16383, q_65535, q_65536, q_69632, q_131072, q_132000, q_262144, q_300000, q_1000000, q_lt_t, q_lt_f, q_le_t, q_le_f, q_eq_t, q_eq_f, q_cl, q_add, q_mul, q_sub, q_nle_f, q_nle_t, q_nlt_f, q_nlt_t, q_neq_f, eq_self, q_n1, q_n2, q_m1, q_m1', q_m2, q_m21, q_m0, q_ml, upd_e, upd_n, updL_e, updL_n, updF_e, updF_n, let_d, tk_s, bind_s, or_false, false_or, and_true, true_and, if_true, if_false, ite_true, ite_false, reduceIte, not_true, not_false_iff, Nat.zero_add, Nat.add_zero, Nat.sub_zero, g8, hkd]
      · have hb : tot (gZ G) m1 ≤ tot (gZ G) lE := by rw [e1, tot_append]; omega
        exact key m1 m2 e1 (hm m1 (by omega) e2) (hc h0) (fun _ p hp => by
          rw [hp] at h2 hv
          have h2 : gK G p < 2 := h2
          have := (okO_K (hG.2 p hv).2.1).1
          omega)
    · obtain ⟨p, hp, hKp⟩ := kV_obj (v := v) (G := G) (by omega)
      rw [hp] at hnu hkd
      have hnu : m_Value_number N (wE G lE (vO p)) = some (nI (adr (gZ G) lE p)) := hnu
      have hpl : p ∈ lE := by rw [hp] at hv; exact hv
      have hpe := adr_end (Z := gZ G) hpl
      have hkd : m_Value_kind N (wE G lE (vO p)) = some (nI (gK G p)) := hkd
      by_cases h3 : adr (gZ G) lE p < tot (gZ G) l1
      · refine ⟨H_oldLeadsToNew, ?_, fun m1 m2 e1 e2 hc h0 => ?_⟩
        · intros
          rw [hp]
          unfold m_Heap_change
          simp (disch := omega) only [q_o, q_0, q_1, q_2, q_3, q_4, q_5, q_6, q_7, q_8, q_9, q_10, q_11, q_12, q_13, q_14, q_15, q_16, q_17, q_18, q_19, q_20, q_21, q_22, q_23, q_24, q_25, q_26, q_27, q_28, q_29, q_30, q_31, q_32, q_33, q_34, q_35, q_36, q_37, q_38, q_39, q_40, q_41, q_42, q_43, q_44, q_45, q_46, q_47, q_48, q_49, q_50, q_51, q_52, q_53, q_63, q_64, q_126, q_128, q_255, q_512, q_1024, q_1026, q_2000, q_2048, q_2049, q_4095, q_4096, q_8192, q_16383, q_65535, q_65536, q_69632, q_131072, q_132000, q_262144, q_300000, q_1000000, q_lt_t, q_lt_f, q_le_t, q_le_f, q_eq_t, q_eq_f, q_cl, q_add, q_mul, q_sub, q_nle_f, q_nle_t, q_nlt_f, q_nlt_t, q_neq_f, eq_self, q_n1, q_n2, q_m1, q_m1', q_m2, q_m21, q_m0, q_ml, upd_e, upd_n, updL_e, updL_n, updF_e, updF_n, let_d, tk_s, bind_s, or_false, false_or, and_true, true_and, if_true, if_false, ite_true, ite_false, reduceIte, not_true, not_false_iff, Nat.zero_add, Nat.add_zero, Nat.sub_zero, g8, hkd, hnu]
        · have hb : tot (gZ G) m1 ≤ tot (gZ G) lE := by rw [e1, tot_append]; omega
          exact key m1 m2 e1 (hm m1 (by omega) e2) (hc h0) (fun _ p' hp' => by
            rw [hp] at hp'
            cases hp'
            exact h3)
      · refine ⟨nI 1, ?_, fun m1 m2 e1 e2 hc h0 => ?_⟩
        · intros
          rw [hp]
          unfold m_Heap_change
          simp (disch := omega) only [q_o, q_0, q_1, q_2, q_3, q_4, q_5, q_6, q_7, q_8, q_9, q_10, q_11, q_12, q_13, q_14, q_15, q_16, q_17, q_18, q_19, q_20, q_21, q_22, q_23, q_24, q_25, q_26, q_27, q_28, q_29, q_30, q_31, q_32, q_33, q_34, q_35, q_36, q_37, q_38, q_39, q_40, q_41, q_42, q_43, q_44, q_45, q_46, q_47, q_48, q_49, q_50, q_51, q_52, q_53, q_63, q_64, q_126, q_128, q_255, q_512, q_1024, q_1026, q_2000, q_2048, q_2049, q_4095, q_4096, q_8192, q_16383, q_65535, q_65536, q_69632, q_131072, q_132000, q_262144, q_300000, q_1000000, q_lt_t, q_lt_f, q_le_t, q_le_f, q_eq_t, q_eq_f, q_cl, q_add, q_mul, q_sub, q_nle_f, q_nle_t, q_nlt_f, q_nlt_t, q_neq_f, eq_self, q_n1, q_n2, q_m1, q_m1', q_m2, q_m21, q_m0, q_ml, upd_e, upd_n, updL_e, updL_n, updF_e, updF_n, let_d, tk_s, bind_s, or_false, false_or, and_true, true_and, if_true, if_false, ite_true, ite_false, reduceIte, not_true, not_false_iff, Nat.zero_add, Nat.add_zero, Nat.sub_zero, g8, hkd, hnu]
        · rw [q_eq_f (by omega) (by omega) (by omega)] at h0
          exact h0.elim
end MUT
