/-! Instruction 34 on scalars: primitives 0 to 26 -/
section PR
variable {N : Nat}
variable {nk : Nat → Nat} {nm : Nat} {nid : Nat} {G : Nat → GO} {lE : List Nat} {gg : Nat → AV} {t : Nat} {gs : Nat → AV} {fr : Nat} {gc : Nat → AV} {hn : Nat} {gb : Nat → Nat} {gf : Nat → Nat} {gr : Nat → Int32} {hF : Nat → Nat} {hH : Nat → Nat} {hP : Nat → Int32} {hD : Nat → Int32} {lR : List Nat} {P_size : Int32} {P_constants : Int32} {P_closed : Int32} {P_open : Int32} {O_size : Int32} {S_top : Int32} {S_frames : Int32} {S_handlers : Int32} {H_globalsUsed : Int32} {H_used : Int32} {H_spareUsed : Int32} {H_old : Int32} {H_oldLeadsToNew : Int32} {H_limit : Int32} {H_every : Int32} {H_fresh : Int32} {H_made : Int32} {H_madeLimit : Int32} {H_reachedFromGlobals : Int32} {H_reachedInAll : Int32} {H_keptGlobalsUsed : Int32} {H_kept : Int32} {B_names : Int32} {Q_size : Int32} {M_status : Int32} {M_place : Int32} {M_next : Int32} {M_fuel : Int32} {M_ticks : Int32} {M_depth : Int32} {M_depthLimit : Int32} {M_done : Int32} {n_P_words : Nat} {f_P_words : Nat → Int32} {n_P_bytes : Nat} {f_P_bytes : Nat → Int32} {n_P_ends : Nat} {f_P_ends : Nat → Int32} {n_O_bytes : Nat} {f_O_bytes : Nat → Int32} {n_S_values : Nat} {f_S_values : Nat → Int64} {n_S_bases : Nat} {f_S_bases : Nat → Int32} {n_S_floors : Nat} {f_S_floors : Nat → Int32} {n_S_returns : Nat} {f_S_returns : Nat → Int32} {n_S_closures : Nat} {f_S_closures : Nat → Int64} {n_S_handlerFrames : Nat} {f_S_handlerFrames : Nat → Int32} {n_S_handlerPlaces : Nat} {f_S_handlerPlaces : Nat → Int32} {n_S_handlerHeights : Nat} {f_S_handlerHeights : Nat → Int32} {n_S_handlerDepths : Nat} {f_S_handlerDepths : Nat → Int32} {n_H_globals : Nat} {f_H_globals : Nat → Int64} {n_H_cells : Nat} {f_H_cells : Nat → Int64} {n_H_spare : Nat} {f_H_spare : Nat → Int64} {n_Q_links : Nat} {f_Q_links : Nat → Int32} {n_Q_pairs : Nat} {f_Q_pairs : Nat → Int64} {I : Nat → Int32} {F : Nat → Nat → Int32}
theorem tR_nm {v : AV} {l : List Nat} (hG : wf nk nm nid G l) (hv : okV nk nm l v) : (tR v &&& nI 255 = nI 1) ↔ kV G v = 1 := by
  rcases v with n | ⟨k, i⟩ | o
  · have e : tR (vS n) &&& nI 255 = nI 0 := r_and 0 (by omega)
    rw [e]
    exact ⟨fun h => absurd h (by rw [q_eq_f (by omega) (by omega) (by omega)]; exact id), fun h => absurd (show (0 : Nat) = 1 from h) (by omega)⟩
  · have hk := hv.1
    have e : tR (vN k i) &&& nI 255 = nI ((1 + 256 * k) % 256) := r_and _ (by omega)
    rw [e, show (1 + 256 * k) % 256 = 1 by omega]
    exact ⟨fun _ => rfl, fun _ => rfl⟩
  · have e : tR (vO o) &&& nI 255 = nI 2 := r_and 2 (by omega)
    have hk := (okO_K (hG.2 o hv).2.1).1
    rw [e]
    exact ⟨fun h => absurd h (by rw [q_eq_f (by omega) (by omega) (by omega)]; exact id), fun h => by have h : gK G o = 1 := h; omega⟩
theorem prG_op {pf rs} {g q p : Nat} (he : eR nk nm nid G lE gg t gs fr gc hn gb gf gr hF hH hP hD S_top S_frames S_handlers n_S_values f_S_values n_S_bases f_S_bases n_S_floors f_S_floors n_S_returns f_S_returns n_S_closures f_S_closures n_S_handlerFrames f_S_handlerFrames n_S_handlerPlaces f_S_handlerPlaces n_S_handlerHeights f_S_handlerHeights n_S_handlerDepths f_S_handlerDepths H_globalsUsed H_used H_old H_oldLeadsToNew f_H_globals n_H_cells f_H_cells n_H_spare) (hr : rR nk nm nid G lR gg t gs fr gc hn gb gf gr hF hH hP hD I F) (hx : xR nm M_fuel M_ticks H_made M_depth B_names O_size n_O_bytes f_O_bytes n_Q_links f_Q_links n_Q_pairs n_H_cells I F) (h35 : I 35 = nI p) (hq : q < 42) (hg : g < 16) (hkt : gf (fr - 1) + tkn q ≤ t)
    (hp : pf = (m_Machine_settle N S_top S_frames S_handlers H_globalsUsed H_used H_spareUsed H_old H_oldLeadsToNew H_limit H_every H_fresh H_made H_madeLimit H_reachedFromGlobals H_reachedInAll H_keptGlobalsUsed H_kept M_status M_place (nI (p + 2)) M_fuel M_ticks M_depth M_depthLimit M_done n_S_values f_S_values n_S_bases f_S_bases n_S_floors f_S_floors n_S_handlerFrames f_S_handlerFrames n_S_handlerPlaces f_S_handlerPlaces n_S_handlerHeights f_S_handlerHeights n_S_handlerDepths f_S_handlerDepths 2049 f_H_globals (nI q) (nI (16 + g))).bind fun (z50_1, z50_2, z50_3, z50_4, z50_5, z50_6, z50_7, z50_8) => some ((z50_1, z50_2, Q_size, H_fresh, H_globalsUsed, H_made, H_old, H_oldLeadsToNew, H_reachedFromGlobals, H_reachedInAll, H_spareUsed, H_used, z50_4, M_fuel, z50_5, M_ticks, B_names, O_size, z50_6, z50_7, z50_8, n_Q_links, f_Q_links, n_Q_pairs, f_Q_pairs, n_H_cells, f_H_cells, n_H_spare, f_H_spare, n_O_bytes, f_O_bytes, n_S_bases, f_S_bases, n_S_closures, f_S_closures, n_S_floors, f_S_floors, n_S_handlerDepths, f_S_handlerDepths, n_S_handlerFrames, f_S_handlerFrames, n_S_handlerHeights, f_S_handlerHeights, n_S_handlerPlaces, f_S_handlerPlaces, n_S_returns, f_S_returns, n_S_values, z50_3), 0, 0))
    (hq2 : rs = m_Model_raiseGlobal N I F (nI (tkn q)) (nI g)) :
    opR nm n_H_cells I F (potE n_S_values n_S_bases n_S_handlerFrames n_H_cells n_H_spare n_Q_links n_Q_pairs n_O_bytes) pf rs := by
  obtain ⟨c3, c4, c5, c6, c7⟩ := tk3 q hq
  obtain ⟨hG, hT', hC, hH', hnn⟩ := eR_hp he
  obtain ⟨g1, g2, g3, g4, g5, g6⟩ := he.2.2.2.2.1
  obtain ⟨g5a, g5b⟩ := g5 g (by omega)
  have hkd := kd_E (N := N) hG g5b
  have hk8 := kV_8 hG g5b
  obtain ⟨r1, r2, r3, r4, r5, r6, r7, r8, r9⟩ := hr.2.2
  have r8a := r8 g (by omega)
  have r7a := r7 g (by omega)
  have htn := tR_nm r1 r7a
  have hsg := settle_g (N := N) (H_globalsUsed := H_globalsUsed) (H_used := H_used) (H_spareUsed := H_spareUsed) (H_old := H_old) (H_oldLeadsToNew := H_oldLeadsToNew) (H_limit := H_limit) (H_every := H_every) (H_fresh := H_fresh) (H_made := H_made) (H_madeLimit := H_madeLimit) (H_reachedFromGlobals := H_reachedFromGlobals) (H_reachedInAll := H_reachedInAll) (H_keptGlobalsUsed := H_keptGlobalsUsed) (H_kept := H_kept) (M_status := M_status) (M_place := M_place) (M_next := nI (p + 2)) (M_fuel := M_fuel) (M_ticks := M_ticks) (M_depth := M_depth) (M_depthLimit := M_depthLimit) (M_done := M_done) (S_top := S_top) (S_frames := S_frames) (S_handlers := S_handlers) (n_S_values := n_S_values) (f_S_values := f_S_values) (n_S_bases := n_S_bases) (f_S_bases := f_S_bases) (n_S_floors := n_S_floors) (f_S_floors := f_S_floors) (n_S_handlerFrames := n_S_handlerFrames) (f_S_handlerFrames := f_S_handlerFrames) (n_S_handlerPlaces := n_S_handlerPlaces) (f_S_handlerPlaces := f_S_handlerPlaces) (n_S_handlerHeights := n_S_handlerHeights) (f_S_handlerHeights := f_S_handlerHeights) (n_S_handlerDepths := n_S_handlerDepths) (f_S_handlerDepths := f_S_handlerDepths) hq hg g5a hkd hk8
  have hrg := rg_R (N := N) (I := I) (F := F) (T := tkn q) hg r8a.1 r8a.2
  rw [hsg] at hp
  rw [hrg] at hq2
  by_cases hk : kV G (gg g) = 1
  · rw [if_pos hk] at hp
    rw [if_pos (htn.mpr hk)] at hq2
    refine raise_op (N := N) (f_Q_pairs := f_Q_pairs) (f_H_spare := f_H_spare) (Q_size := Q_size) (H_fresh := H_fresh) (H_reachedFromGlobals := H_reachedFromGlobals) (H_reachedInAll := H_reachedInAll) (H_spareUsed := H_spareUsed) (H_limit := H_limit) (H_every := H_every) (H_madeLimit := H_madeLimit) (H_keptGlobalsUsed := H_keptGlobalsUsed) (H_kept := H_kept) (M_status := M_status) (M_place := M_place) (M_depthLimit := M_depthLimit) (M_done := M_done) (v := gg g) (k := tkn q) (W := 2) he hr hx h35 (by omega) hkt g5b r7a ?_ ?_
    · intro st g' va' dp nx sf sh tp h
      rw [hp, h]
      rfl
    · intro st F' I' h
      rw [hq2, h]
  · rw [if_neg hk] at hp
    rw [if_neg (fun h => hk (htn.mp h))] at hq2
    exact opR_same (M_next := nI (p + 2)) (st := 4) (by omega) he hr hx hp hq2
theorem oN_g {q g : Nat} {v w : Int32} (h : oN q v w = .inl g) : g < 16 := by
  unfold oN at h
  by_cases c : w = nI 0 ∧ (q = 5 ∨ q = 6 ∨ q = 14 ∨ q = 15)
  · rw [if_pos c] at h
    have := Sum.inl.inj h
    omega
  · rw [if_neg c] at h
    unfold chk at h
    by_cases c2 : rr q v w = (rr q v w).toInt32.toInt64
    · rw [if_pos c2] at h
      cases h
    · rw [if_neg c2] at h
      have := Sum.inl.inj h
      omega
set_option maxRecDepth 4000 in
set_option maxHeartbeats 4000000 in
theorem pr_num {p L q : Nat} {wd : Int32} (hN : 400000 ≤ N) (he : eR nk nm nid G lE gg t gs fr gc hn gb gf gr hF hH hP hD S_top S_frames S_handlers n_S_values f_S_values n_S_bases f_S_bases n_S_floors f_S_floors n_S_returns f_S_returns n_S_closures f_S_closures n_S_handlerFrames f_S_handlerFrames n_S_handlerPlaces f_S_handlerPlaces n_S_handlerHeights f_S_handlerHeights n_S_handlerDepths f_S_handlerDepths H_globalsUsed H_used H_old H_oldLeadsToNew f_H_globals n_H_cells f_H_cells n_H_spare) (hr : rR nk nm nid G lR gg t gs fr gc hn gb gf gr hF hH hP hD I F) (hx : xR nm M_fuel M_ticks H_made M_depth B_names O_size n_O_bytes f_O_bytes n_Q_links f_Q_links n_Q_pairs n_H_cells I F) (h35 : I 35 = nI p) (hp : p < 262144) (hq : q < 27) (hkt : gf (fr - 1) + tkn q ≤ t) (hsw : sw N I F (nI q) wd = m_Model_primitive N I F (nI q)) :
    opR nm n_H_cells I F (potE n_S_values n_S_bases n_S_handlerFrames n_H_cells n_H_spare n_Q_links n_Q_pairs n_O_bytes) (m_Machine_perform N P_size P_constants P_closed P_open O_size S_top S_frames S_handlers H_globalsUsed H_used H_spareUsed H_old H_oldLeadsToNew (nI L) H_every H_fresh H_made (I 44) H_reachedFromGlobals H_reachedInAll H_keptGlobalsUsed H_kept B_names Q_size M_status (nI p) (nI (p + 2)) M_fuel M_ticks M_depth (I 45) M_done n_P_words f_P_words n_P_bytes f_P_bytes n_P_ends f_P_ends n_O_bytes f_O_bytes n_S_values f_S_values n_S_bases f_S_bases n_S_floors f_S_floors n_S_returns f_S_returns n_S_closures f_S_closures n_S_handlerFrames f_S_handlerFrames n_S_handlerPlaces f_S_handlerPlaces n_S_handlerHeights f_S_handlerHeights n_S_handlerDepths f_S_handlerDepths 2049 f_H_globals n_H_cells f_H_cells n_H_spare f_H_spare n_Q_links f_Q_links n_Q_pairs f_Q_pairs (nI 34) (nI q)) (sw N I F (nI q) wd) := by
  have he0 := he
  obtain ⟨q1, q2, q3, qt, qs, qh, qb, qf, q4, q5, q6, q7, q8, q9, qx, qy, qz⟩ := frE he
  obtain ⟨y1, y2, y3, y4, y5⟩ := frR hr q1
  subst qt qs qh
  obtain ⟨hG, hT', hC, hH', hnn⟩ := eR_hp he
  obtain ⟨c3, c4, c5, c6, c7⟩ := tk3 q (by omega)
  obtain ⟨d1, d2, d3⟩ := tkn_1 q hq
  have hgR := rR_height (N := N) hr he.1
  have hfit := fits_E (N := N) (q := q) he (by omega) (by omega) hN hkt
  have p1 : lm_Model_primitive_1 N (nI q) = fun (k : Int32 → Option (Int32 × (Nat → Nat → Int32) × (Nat → Int32))) => k (nI (if tk1 q then 1 else 0)) := by
    funext k
    unfold lm_Model_primitive_1
    by_cases h1 : q = 3
    · subst h1; rfl
    · by_cases h2 : q = 4
      · subst h2; rfl
      · by_cases h3 : q = 23
        · subst h3; rfl
        · by_cases h4 : q = 26
          · subst h4; rfl
          · rw [if_neg (show ¬ tk1 q by omega)]
            simp (disch := omega) only [q_o, q_0, q_1, q_2, q_3, q_4, q_5, q_6, q_7, q_8, q_9, q_10, q_11, q_12, q_13, q_14, q_15, q_16, q_17, q_18, q_19, q_20, q_21, q_22, q_23, q_24, q_25, q_26, q_27, q_28, q_29, q_30, q_31, q_32, q_33, q_34, q_35, q_36, q_37, q_38, q_39, q_40, q_41, q_42, q_43, q_44, q_45, q_46, q_47, q_48, q_49, q_50, q_51, q_52, q_53, q_63, q_64, q_126, q_128, q_255, q_512, q_1024, q_1026, q_2000, q_2048, q_2049, q_4095, q_4096, q_8192, q_16383, q_65535, q_65536, q_69632, q_131072, q_132000, q_262144, q_300000, q_1000000, q_lt_t, q_lt_f, q_le_t, q_le_f, q_eq_t, q_eq_f, q_cl, q_add, q_mul, q_sub, q_nle_f, q_nle_t, q_nlt_f, q_nlt_t, q_neq_f, eq_self, q_n1, q_n2, q_m1, q_m1', q_m2, q_m21, q_m0, q_ml, upd_e, upd_n, updL_e, updL_n, updF_e, updF_n, let_d, tk_s, bind_s, or_false, false_or, and_true, true_and, if_true, if_false, ite_true, ite_false, reduceIte, not_true, not_false_iff, Nat.zero_add, Nat.add_zero, Nat.sub_zero]
  have hRT : m_Model_primitive N I F (nI q) = (m_Model_isScalar N I F (nI 1)).bind fun z => if z = nI 0 then some (nI 4, F, I) else if tk1 q then m_Model_numbers N I F (nI q) (nI 1) else (m_Model_isScalar N I F (nI 2)).bind fun z => if z = nI 0 then some (nI 4, F, I) else m_Model_numbers N I F (nI q) (nI 0) := by
    unfold m_Model_primitive
    by_cases h1 : tk1 q
    · have := d1 h1
      rw [if_pos h1] at p1
      simp (disch := omega) only [q_o, q_0, q_1, q_2, q_3, q_4, q_5, q_6, q_7, q_8, q_9, q_10, q_11, q_12, q_13, q_14, q_15, q_16, q_17, q_18, q_19, q_20, q_21, q_22, q_23, q_24, q_25, q_26, q_27, q_28, q_29, q_30, q_31, q_32, q_33, q_34, q_35, q_36, q_37, q_38, q_39, q_40, q_41, q_42, q_43, q_44, q_45, q_46, q_47, q_48, q_49, q_50, q_51, q_52, q_53, q_63, q_64, q_126, q_128, q_255, q_512, q_1024, q_1026, q_2000, q_2048, q_2049, q_4095, q_4096, q_8192, q_16383, q_65535, q_65536, q_69632, q_131072, q_132000, q_262144, q_300000, q_1000000, q_lt_t, q_lt_f, q_le_t, q_le_f, q_eq_t, q_eq_f, q_cl, q_add, q_mul, q_sub, q_nle_f, q_nle_t, q_nlt_f, q_nlt_t, q_neq_f, eq_self, q_n1, q_n2, q_m1, q_m1', q_m2, q_m21, q_m0, q_ml, upd_e, upd_n, updL_e, updL_n, updF_e, updF_n, let_d, tk_s, bind_s, or_false, false_or, and_true, true_and, if_true, if_false, ite_true, ite_false, reduceIte, not_true, not_false_iff, Nat.zero_add, Nat.add_zero, Nat.sub_zero, p1, lm_Model_primitive_2, hgR, h1, bind_3]
    · have := d2 h1
      rw [if_neg h1] at p1
      simp (disch := omega) only [q_o, q_0, q_1, q_2, q_3, q_4, q_5, q_6, q_7, q_8, q_9, q_10, q_11, q_12, q_13, q_14, q_15, q_16, q_17, q_18, q_19, q_20, q_21, q_22, q_23, q_24, q_25, q_26, q_27, q_28, q_29, q_30, q_31, q_32, q_33, q_34, q_35, q_36, q_37, q_38, q_39, q_40, q_41, q_42, q_43, q_44, q_45, q_46, q_47, q_48, q_49, q_50, q_51, q_52, q_53, q_63, q_64, q_126, q_128, q_255, q_512, q_1024, q_1026, q_2000, q_2048, q_2049, q_4095, q_4096, q_8192, q_16383, q_65535, q_65536, q_69632, q_131072, q_132000, q_262144, q_300000, q_1000000, q_lt_t, q_lt_f, q_le_t, q_le_f, q_eq_t, q_eq_f, q_cl, q_add, q_mul, q_sub, q_nle_f, q_nle_t, q_nlt_f, q_nlt_t, q_neq_f, eq_self, q_n1, q_n2, q_m1, q_m1', q_m2, q_m21, q_m0, q_ml, upd_e, upd_n, updL_e, updL_n, updF_e, updF_n, let_d, tk_s, bind_s, or_false, false_or, and_true, true_and, if_true, if_false, ite_true, ite_false, reduceIte, not_true, not_false_iff, Nat.zero_add, Nat.add_zero, Nat.sub_zero, p1, lm_Model_primitive_2, hgR, h1, bind_3]
  have hi1 := isSc_K (N := N) (d := 1) hr (by omega) (by omega) q3
  by_cases hk : kds G gs t q 0
  · have hk1 := hk (tkn q - 1) (by omega) (by omega)
    rw [d3, if_neg (by omega), show t - tkn q + (tkn q - 1) = t - 1 by omega] at hk1
    have hkT := hk 0 (by omega) (by omega)
    rw [d3, if_neg (by omega), Nat.add_zero] at hkT
    obtain ⟨w, hw⟩ := kV_sc hG (vE he (k := t - 1) (by omega)).2 hk1
    obtain ⟨v, hv⟩ := kV_sc hG (vE he (k := t - tkn q) (by omega)).2 hkT
    have hfit := hfit.1 hk
    have hpk0 := eR_peek (N := N) (k := 0) he (by omega)
    rw [Nat.sub_zero, hw] at hpk0
    have hpkT := eR_peek (N := N) (k := tkn q - 1) he (by omega)
    rw [show t - 1 - (tkn q - 1) = t - tkn q by omega, hv, ← q_sub (show 1 ≤ tkn q by omega)] at hpkT
    have hap := apply_E (N := N) (q := q) (v := v) (w := w) hq hpk0 hpkT
    have hs1 := scalar_R (N := N) (d := 1) hr (by omega) (by omega) q3
    rw [hw] at hs1
    have hs1 : m_Model_scalar N I F (nI 1) = some w := hs1
    have hs2 : ¬ tk1 q → m_Model_scalar N I F (nI 2) = some v := by
      intro h
      have h2 := d2 h
      have := scalar_R (N := N) (d := 2) hr (by omega) (by omega) q3
      rw [← h2, hv] at this
      rw [← h2]
      exact this
    have hvw : tk1 q → v = w := by
      intro h
      rw [d1 h, hw] at hv
      exact (Sum.inl.inj hv).symm
    have hnum := nums_R (N := N) (I := I) (F := F) hq hs1 hs2 hvw
    have hR : m_Model_primitive N I F (nI q) = m_Model_numbers N I F (nI q) (nI (if tk1 q then 1 else 0)) := by
      rw [hRT, hi1, if_pos hk1, bind_s, if_neg (show ¬ nI 1 = nI 0 by decide)]
      by_cases h1 : tk1 q
      · rw [if_pos h1, if_pos h1]
      · have h2 := d2 h1
        have hi2 := isSc_K (N := N) (d := 2) hr (by omega) (by omega) q3
        rw [h2] at hkT
        rw [if_neg h1, if_neg h1, hi2, if_pos hkT, bind_s, if_neg (show ¬ nI 1 = nI 0 by decide)]
    rw [hnum] at hR
    have e27 : ¬ (27 : Int32) ≤ nI q := by rw [show (27 : Int32) = nI 27 from rfl, q_le_f (by omega) (by omega)]; exact id
    have e42 : ¬ (nI q < 0 ∨ 42 ≤ (nI q).toNatClampNeg) := by
      rw [q_cl (by omega)]
      exact fun h => h.elim (nI_pos (by omega)) (by omega)
    have hPF : m_Machine_perform N P_size P_constants P_closed P_open O_size (nI t) (nI fr) (nI hn) H_globalsUsed H_used H_spareUsed H_old H_oldLeadsToNew (nI L) H_every H_fresh H_made (I 44) H_reachedFromGlobals H_reachedInAll H_keptGlobalsUsed H_kept B_names Q_size M_status (nI p) (nI (p + 2)) M_fuel M_ticks M_depth (I 45) M_done n_P_words f_P_words n_P_bytes f_P_bytes n_P_ends f_P_ends n_O_bytes f_O_bytes n_S_values f_S_values n_S_bases f_S_bases n_S_floors f_S_floors n_S_returns f_S_returns n_S_closures f_S_closures n_S_handlerFrames f_S_handlerFrames n_S_handlerPlaces f_S_handlerPlaces n_S_handlerHeights f_S_handlerHeights n_S_handlerDepths f_S_handlerDepths 2049 f_H_globals n_H_cells f_H_cells n_H_spare f_H_spare n_Q_links f_Q_links n_Q_pairs f_Q_pairs (nI 34) (nI q) = (m_Numbers_apply N (nI t) (nI fr) (nI hn) n_S_values f_S_values (nI q) (nI (tkn q))).bind fun (z49_1, z49_2, z49_3) => (m_Machine_settle N z49_3 (nI fr) (nI hn) H_globalsUsed H_used H_spareUsed H_old H_oldLeadsToNew (nI L) H_every H_fresh H_made (I 44) H_reachedFromGlobals H_reachedInAll H_keptGlobalsUsed H_kept M_status (nI p) (nI (p + 2)) M_fuel M_ticks M_depth (I 45) M_done n_S_values z49_2 n_S_bases f_S_bases n_S_floors f_S_floors n_S_handlerFrames f_S_handlerFrames n_S_handlerPlaces f_S_handlerPlaces n_S_handlerHeights f_S_handlerHeights n_S_handlerDepths f_S_handlerDepths 2049 f_H_globals (nI q) z49_1).bind fun (z50_1, z50_2, z50_3, z50_4, z50_5, z50_6, z50_7, z50_8) => some ((z50_1, z50_2, Q_size, H_fresh, H_globalsUsed, H_made, H_old, H_oldLeadsToNew, H_reachedFromGlobals, H_reachedInAll, H_spareUsed, H_used, z50_4, M_fuel, z50_5, M_ticks, B_names, O_size, z50_6, z50_7, z50_8, n_Q_links, f_Q_links, n_Q_pairs, f_Q_pairs, n_H_cells, f_H_cells, n_H_spare, f_H_spare, n_O_bytes, f_O_bytes, n_S_bases, f_S_bases, n_S_closures, f_S_closures, n_S_floors, f_S_floors, n_S_handlerDepths, f_S_handlerDepths, n_S_handlerFrames, f_S_handlerFrames, n_S_handlerHeights, f_S_handlerHeights, n_S_handlerPlaces, f_S_handlerPlaces, n_S_returns, f_S_returns, n_S_values, z50_3), 0, 0) := by
      clear he hr hx he0
      rw [pf_34, hfit, bind_s, if_neg (show ¬ nI 1 = 0 by decide), if_neg e27, if_neg e42, q_cl (by omega), c3]
    rw [hap] at hPF
    generalize hoN : oN q v w = o at hPF hR
    rcases o with g | x
    · have hg := oN_g hoN
      refine prG_op (N := N) (f_Q_pairs := f_Q_pairs) (f_H_spare := f_H_spare) (Q_size := Q_size) (H_fresh := H_fresh) (H_reachedFromGlobals := H_reachedFromGlobals) (H_reachedInAll := H_reachedInAll) (H_spareUsed := H_spareUsed) (H_limit := nI L) (H_every := H_every) (H_madeLimit := I 44) (H_keptGlobalsUsed := H_keptGlobalsUsed) (H_kept := H_kept) (M_status := M_status) (M_place := nI p) (M_depthLimit := I 45) (M_done := M_done) (g := g) (q := q) he hr hx h35 (by omega) hg hkt ?_ ?_
      · rw [hPF]
        rfl
      · rw [hsw, hR]
        rfl
    · refine repl_op (N := N) (f_Q_pairs := f_Q_pairs) (f_H_spare := f_H_spare) (Q_size := Q_size) (H_fresh := H_fresh) (H_reachedFromGlobals := H_reachedFromGlobals) (H_reachedInAll := H_reachedInAll) (H_spareUsed := H_spareUsed) (v := vS x) (k := tkn q) (W := 2) (x := nI (p + 2)) he hr hx (by omega) hkt trivial trivial ?_ ?_ (by rw [h35, q_add])
      · intro h
        have h : m_Stacks_replace N (nI t) (nI fr) (nI hn) n_S_values f_S_values (nI (tkn q)) (scW x) = _ := h
        clear he hr hx he0
        rw [hPF, show Sum.elim (fun g => some (nI (16 + g), f_S_values, nI t)) (fun x => m_Stacks_replace N (nI t) (nI fr) (nI hn) n_S_values f_S_values (nI (tkn q)) (scW x)) (Sum.inr x : Nat ⊕ Int32) = _ from h, bind_s]
        dsimp only
        rw [settle_n (by omega), bind_s]
      · intro F' I' h
        have h : m_Model_give N I F (nI (tkn q)) (nI 0) x = _ := h
        clear he hr hx he0
        rw [hsw, hR]
        show gvR N I F (tkn q) x = _
        unfold gvR
        rw [h, bind_s]
        dsimp only
        rw [next_5, bind_s]
  · refine opR_same (f_Q_pairs := f_Q_pairs) (f_H_spare := f_H_spare) (Q_size := Q_size) (H_fresh := H_fresh) (H_reachedFromGlobals := H_reachedFromGlobals) (H_reachedInAll := H_reachedInAll) (H_spareUsed := H_spareUsed) (M_next := nI (p + 2)) (st := 4) (by omega) he hr hx ?_ ?_
    · exact pf34_F (W := 2) (hfit.2 hk M_status (nI p) (nI (p + 2)) M_fuel M_ticks M_depth (I 45) M_done)
    · rw [hsw, hRT, hi1]
      by_cases h1 : kV G (gs (t - 1)) = 0
      · rw [if_pos h1, bind_s, if_neg (show ¬ nI 1 = nI 0 by decide)]
        by_cases h3 : tk1 q
        · have h4 := d1 h3
          refine absurd (fun j _ hj => ?_) hk
          rw [d3, if_neg (by omega), show t - tkn q + j = t - 1 by omega]
          exact h1
        · have h4 := d2 h3
          have hi2 := isSc_K (N := N) (d := 2) hr (by omega) (by omega) q3
          have h5 : ¬ kV G (gs (t - 2)) = 0 := by
            intro h5
            refine hk (fun j _ hj => ?_)
            rw [d3, if_neg (by omega), h4]
            by_cases ej : j = 0
            · rw [ej]; exact h5
            · rw [show t - 2 + j = t - 1 by omega]; exact h1
          rw [if_neg h3, hi2, if_neg h5, bind_s, if_pos rfl]
      · rw [if_neg h1, bind_s, if_pos rfl]
end PR
