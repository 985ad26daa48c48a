/-! reached, save, restore: both sides -/
section KP
variable {N : Nat}
variable {nk : Nat → Nat} {nm : Nat} {nid : Nat} {G : Nat → GO} {lE : List Nat} {gg : Nat → AV} {t : Nat} {gs : Nat → AV} {fr : Nat} {gc : Nat → AV} {hn : Nat} {gb : Nat → Nat} {gf : Nat → Nat} {gr : Nat → Int32} {hF : Nat → Nat} {hH : Nat → Nat} {hP : Nat → Int32} {hD : Nat → Int32} {lR : List Nat} {P_size : Int32} {P_constants : Int32} {P_closed : Int32} {P_open : Int32} {O_size : Int32} {S_top : Int32} {S_frames : Int32} {S_handlers : Int32} {H_globalsUsed : Int32} {H_used : Int32} {H_spareUsed : Int32} {H_old : Int32} {H_oldLeadsToNew : Int32} {H_limit : Int32} {H_every : Int32} {H_fresh : Int32} {H_made : Int32} {H_madeLimit : Int32} {H_reachedFromGlobals : Int32} {H_reachedInAll : Int32} {H_keptGlobalsUsed : Int32} {H_kept : Int32} {B_names : Int32} {Q_size : Int32} {M_status : Int32} {M_place : Int32} {M_next : Int32} {M_fuel : Int32} {M_ticks : Int32} {M_depth : Int32} {M_depthLimit : Int32} {M_done : Int32} {n_P_words : Nat} {f_P_words : Nat → Int32} {n_P_bytes : Nat} {f_P_bytes : Nat → Int32} {n_P_ends : Nat} {f_P_ends : Nat → Int32} {n_O_bytes : Nat} {f_O_bytes : Nat → Int32} {n_S_values : Nat} {f_S_values : Nat → Int64} {n_S_bases : Nat} {f_S_bases : Nat → Int32} {n_S_floors : Nat} {f_S_floors : Nat → Int32} {n_S_returns : Nat} {f_S_returns : Nat → Int32} {n_S_closures : Nat} {f_S_closures : Nat → Int64} {n_S_handlerFrames : Nat} {f_S_handlerFrames : Nat → Int32} {n_S_handlerPlaces : Nat} {f_S_handlerPlaces : Nat → Int32} {n_S_handlerHeights : Nat} {f_S_handlerHeights : Nat → Int32} {n_S_handlerDepths : Nat} {f_S_handlerDepths : Nat → Int32} {n_H_globals : Nat} {f_H_globals : Nat → Int64} {n_H_cells : Nat} {f_H_cells : Nat → Int64} {n_H_spare : Nat} {f_H_spare : Nat → Int64} {n_Q_links : Nat} {f_Q_links : Nat → Int32} {n_Q_pairs : Nat} {f_Q_pairs : Nat → Int64} {I : Nat → Int32} {F : Nat → Nat → Int32}
theorem spare_pot {nC nSp nSp' cc ss : Nat} (h5 : 512 ≤ nC) (hC : nC ≤ 131072) (h2 : nSp ≤ 131072) (h : nSp = 0 ∨ nSp = nC ∨ 2 * nSp ≤ nC ∨ nC = 131072) (hs : nC ≤ nSp ∧ nSp' = nSp ∧ cc = 0 ∧ ss = 0 ∨ nSp < nC ∧ nSp' = nC ∧ cc = 1 ∧ ss = nC) : ss + 150 * cc + pot 131072 nSp ≤ pot 131072 nSp' ∧ nSp' ≤ 131072 ∧ (nSp' = 0 ∨ nSp' = nC ∨ 2 * nSp' ≤ nC ∨ nC = 131072) := by
  rcases hs with ⟨a, rfl, rfl, rfl⟩ | ⟨a, rfl, rfl, rfl⟩
  · exact ⟨by omega, h2, h⟩
  · refine ⟨?_, hC, Or.inr (Or.inl rfl)⟩
    have hp := pot_new (n := nSp) (m := 131072) (k := ss) (by omega) (by omega)
    omega
def potK (n : Nat) : Nat := if n < 131072 then 3 * n + min (310 * n) 46650 else 702160
theorem potK_new {n k : Nat} (h : n < 131072) (hk : k = 131072 ∨ 2 * n ≤ k ∧ 1 ≤ k ∧ k < 131072) : k + 150 + potK n ≤ potK k := by
  unfold potK
  rw [if_pos h]
  rcases hk with rfl | ⟨h1, h2, h3⟩
  · rw [if_neg (by omega)]
    omega
  · rw [if_pos h3]
    omega
theorem rR_m {I' : Nat → Int32} {F' : Nat → Nat → Int32} (h : rR nk nm nid G lR gg t gs fr gc hn gb gf gr hF hH hP hD I F) (qI : sameI I I') (qF : sameF F F') (hp : hpR nk nm nid G lR gg I' F') : rR nk nm nid G lR gg t gs fr gc hn gb gf gr hF hH hP hD I' F' := by
  obtain ⟨⟨p1, p2, p3, p4, p5, p6, p7, p8⟩, ⟨v1, v2⟩, _⟩ := h
  refine ⟨⟨?_, ?_, ?_, ?_, ?_, ?_, ?_, ?_⟩, ⟨?_, ?_⟩, hp⟩
  · rw [qI 29 (by omega) (by omega)]; exact p1
  · rw [qI 22 (by omega) (by omega)]; exact p2
  · rw [qI 30 (by omega) (by omega)]; exact p3
  · rw [qF 24 (by omega), qF 25 (by omega)]; exact p4
  · rw [qF 26 (by omega)]; exact p5
  · rw [qF 31 (by omega), qF 32 (by omega), qF 33 (by omega), qF 34 (by omega)]; exact p6
  · rw [qI 20 (by omega) (by omega)]; exact p7
  · rw [qI 21 (by omega) (by omega)]; exact p8
  · rw [qF 27 (by omega), qF 28 (by omega)]; exact v1
  · rw [qF 23 (by omega)]; exact v2
theorem cls_nil : cls G [] := fun o ho => by cases ho
theorem lnE_sp {nV nB nF nR nC nHF nHP nHH nHD nCl nSp nSp' : Nat} (h : lnE nV nB nF nR nC nHF nHP nHH nHD nCl nSp) (h1 : nSp' ≤ 131072) (h2 : nSp' = 0 ∨ nSp' = nCl ∨ 2 * nSp' ≤ nCl ∨ nCl = 131072) : lnE nV nB nF nR nC nHF nHP nHH nHD nCl nSp' := by
  obtain ⟨l1, l2, l3, l4, l5, l6, l7, l8, l9, l10, l11, l12, l13, l14, l15, l16⟩ := h
  exact ⟨l1, l2, l3, l4, l5, l6, l7, l8, l9, l10, l11, l12, l13, l14, h1, h2⟩
set_option maxRecDepth 4000 in
theorem reached_ER (hN : 400000 ≤ N) (hnm : nm < 134217728) (hb : baseR nm f_H_globals Q_size H_fresh H_globalsUsed H_made H_old H_oldLeadsToNew H_reachedFromGlobals H_reachedInAll H_spareUsed H_used M_depth M_done M_fuel M_next M_place M_status M_ticks B_names O_size S_frames S_handlers S_top n_Q_links f_Q_links n_Q_pairs f_Q_pairs n_H_cells f_H_cells n_H_spare f_H_spare n_O_bytes f_O_bytes n_S_bases f_S_bases n_S_closures f_S_closures n_S_floors f_S_floors n_S_handlerDepths f_S_handlerDepths n_S_handlerFrames f_S_handlerFrames n_S_handlerHeights f_S_handlerHeights n_S_handlerPlaces f_S_handlerPlaces n_S_returns f_S_returns n_S_values f_S_values I F) : ∃ (r : Int32) (c' g' cl' va' : Nat → Int64) (fresh' old' olt' rG' rA' su' us' : Int32) (nSp' : Nat) (sp' : Nat → Int64) (cc ss : Nat) (F' : Nat → Nat → Int32) (I' : Nat → Int32), m_Engine_reached N S_top S_frames S_handlers H_globalsUsed H_used H_spareUsed H_old H_oldLeadsToNew H_limit H_every H_fresh H_made H_madeLimit H_reachedFromGlobals H_reachedInAll H_keptGlobalsUsed H_kept M_status M_place M_next M_fuel M_ticks M_depth M_depthLimit M_done n_S_values f_S_values n_S_closures f_S_closures 2049 f_H_globals n_H_cells f_H_cells n_H_spare f_H_spare = some ((r, c', g', cl', va', fresh', old', olt', rG', rA', su', us', nSp', sp'), cc, ss) ∧ m_Model_reached N I F = some (r, F', I') ∧
    baseR nm g' Q_size fresh' H_globalsUsed H_made old' olt' rG' rA' su' us' M_depth M_done M_fuel M_next M_place M_status M_ticks B_names O_size S_frames S_handlers S_top n_Q_links f_Q_links n_Q_pairs f_Q_pairs n_H_cells c' nSp' sp' n_O_bytes f_O_bytes n_S_bases f_S_bases n_S_closures cl' n_S_floors f_S_floors n_S_handlerDepths f_S_handlerDepths n_S_handlerFrames f_S_handlerFrames n_S_handlerHeights f_S_handlerHeights n_S_handlerPlaces f_S_handlerPlaces n_S_returns f_S_returns n_S_values va' I' F' ∧ frL I F I' F' ∧ ss + 150 * cc + pot 131072 n_H_spare ≤ pot 131072 nSp' := by
  obtain ⟨nk, nid, G, lE, lR, gg, a1, a2, a3, a4, ⟨i1, i2, i3, i4, i5⟩, a10⟩ := hb
  obtain ⟨F', I', dn, r1, r2, r3, r4, r5, r6⟩ := reached_R (N := N) (by omega) hnm a2
  have a3' := a3
  obtain ⟨l1, l2, l3, l4, l5, l6, l7, l8, l9, l10, l11, l12, l13, l14, l15, l16⟩ := a3'
  have a1' := a1
  obtain ⟨hG, hu, htot, hh, hg, ⟨u, hu1, hu2, hu3⟩, hold⟩ := a1'
  have hfr : frL I F I' F' := ⟨fun j hj => r3 j (by omega), fun j hj => r4 j (by omega) (by omega)⟩
  have hx' : xR nm M_fuel M_ticks H_made M_depth B_names O_size n_O_bytes f_O_bytes n_Q_links f_Q_links n_Q_pairs n_H_cells I' F' := xR_c a4 (fun j hj => r4 j (by omega) (by omega)) (r3 41 (by omega))
  have hI : S_top = I' 29 ∧ S_frames = I' 22 ∧ S_handlers = I' 30 ∧ M_place = I' 35 ∧ M_done = I' 40 := by
    rw [r4 29 (by omega) (by omega), r4 22 (by omega) (by omega), r4 30 (by omega) (by omega), r4 35 (by omega) (by omega), r4 40 (by omega) (by omega)]
    exact ⟨i1, i2, i3, i4, i5⟩
  have h20 : I' 20 = I 20 := r4 20 (by omega) (by omega)
  have h21 : I' 21 = I 21 := r4 21 (by omega) (by omega)
  by_cases hs : M_status = 5
  · obtain ⟨hst, hbg, t, gs, fr, gc, hn, gb, gf, gr, hF, hH, hP, hD, he, hr⟩ : M_status = I 21 ∧ ¬ I 20 = nI 0 ∧ ∃ (t : Nat) (gs : Nat → AV) (fr : Nat) (gc : Nat → AV) (hn : Nat) (gb : Nat → Nat) (gf : Nat → Nat) (gr : Nat → Int32) (hF : Nat → Nat) (hH : Nat → Nat) (hP : Nat → Int32) (hD : Nat → Int32), eR nk nm nid G lE gg t gs fr gc hn gb gf gr hF hH hP hD S_top S_frames S_handlers n_S_values f_S_values n_S_bases f_S_bases n_S_floors f_S_floors n_S_returns f_S_returns n_S_closures f_S_closures n_S_handlerFrames f_S_handlerFrames n_S_handlerPlaces f_S_handlerPlaces n_S_handlerHeights f_S_handlerHeights n_S_handlerDepths f_S_handlerDepths H_globalsUsed H_used H_old H_oldLeadsToNew f_H_globals n_H_cells f_H_cells n_H_spare ∧ rR nk nm nid G lR gg t gs fr gc hn gb gf gr hF hH hP hD I F := by
      rcases a10 with ⟨h, _⟩ | ⟨h1, h2, h3⟩
      · exact absurd (hs.symm.trans h) (by decide)
      · refine ⟨h1, h2, ?_⟩
        rcases h3 with ⟨_, h⟩ | h | h | h | h | h
        · exact h
        · exact absurd (hs.symm.trans h) (by decide)
        · exact absurd (hs.symm.trans h) (by decide)
        · exact absurd (hs.symm.trans h) (by decide)
        · exact absurd (hs.symm.trans h) (by decide)
        · exact absurd (hs.symm.trans h) (by decide)
    have he' := he
    obtain ⟨e1, e2, e3, e4, e5, e6, e7⟩ := he'
    obtain ⟨c', g', cl', va', sp', s0, x1, x2, nSp', cc, ss, q1, q2, q3, q4, q5, q6, q7, q8, q9, q10, q11, q12, q13, q14, q15, q16, q17, q18⟩ := gatherE1 (N := N) (l1 := []) (l2 := lE) (sp := f_H_spare) (gg := gg) (gs := gs) (gc := gc) (tp := t) (fr := fr) (nV := n_S_values) (nB := n_S_closures) (va := f_S_values) (cl := f_S_closures) (g := f_H_globals) (c0 := f_H_cells) (nC := n_H_cells) (nSp := n_H_spare) (by omega) hG hnm htot l14 l15 hh cls_nil hu2 hg hu3 (fun _ => ⟨e3.2.2.2.1, l2, by have := e3.2.2.2.2.1; omega, by omega⟩) (fun _ => e4.1) (fun _ => e4.2)
    obtain ⟨old', olt', o1, o2⟩ := q1 H_globalsUsed H_used H_spareUsed H_old H_oldLeadsToNew H_limit H_every H_fresh H_made H_madeLimit H_reachedFromGlobals H_reachedInAll H_keptGlobalsUsed H_kept S_top S_frames S_handlers (fun _ => ⟨e3.1, e3.2.1⟩)
    simp only [List.nil_append] at o1 o2 q3 q4 q5 q6 q7 q8 q9 q11 q14 q16
    rw [← hu1] at o2
    obtain ⟨z1, z2, z3⟩ := spare_pot l13 l14 l15 l16 q2
    have hnd := q3.1
    have hq : tot (gZ G) (s0 ++ x1) = tot (gZ G) dn := tot_same (List.nodup_append.mp hnd).1 r5 (fun o => ⟨fun ho => (r6 o).mpr (q11 o ho), fun ho => cls_rch q14 q16 ((r6 o).mp ho)⟩)
    rw [← hq] at r1
    have hpE' : hpE nk nm nid G (s0 ++ x1 ++ x2) gg H_globalsUsed (nI (tot (gZ G) (s0 ++ x1 ++ x2))) old' olt' g' c' n_H_cells := by
      refine ⟨q3, rfl, Nat.le_trans q6 htot, q4, q7, ⟨u, hu1, hu2, hu3⟩, ?_⟩
      rcases o1 with ⟨b1, b3⟩ | ⟨b0, _⟩
      · exact ⟨s0 ++ x1 ++ x2, [], (List.append_nil _).symm, b1, fun _ => q5⟩
      · exact absurd rfl b0
    refine ⟨nI (tot (gZ G) (s0 ++ x1)), c', g', cl', va', nI 0, old', olt', nI (tot (gZ G) s0), nI (tot (gZ G) (s0 ++ x1)), nI (tot (gZ G) (s0 ++ x1 ++ x2)), nI (tot (gZ G) (s0 ++ x1 ++ x2)), nSp', sp', cc, ss, F', I', ?_, r1, ⟨nk, nid, G, s0 ++ x1 ++ x2, lR, gg, hpE', r2, lnE_sp a3 z2 z3, hx', hI, Or.inr ⟨by rw [h21]; exact hst, by rw [h20]; exact hbg, Or.inl ⟨hs, t, gs, fr, gc, hn, gb, gf, gr, hF, hH, hP, hD, ⟨e1, lnE_sp e2 z2 z3, e3, ⟨q8 trivial, q9 trivial⟩, hpE', e6, e7⟩, rR_m hr r4 r3 r2⟩⟩⟩, hfr, z1⟩
    unfold m_Engine_reached
    rw [if_pos hs]
    have o2 := o2
    rw [show nI (tot (gZ G) []) = 0 from rfl, show nI 1 = 1 from rfl] at o2
    rw [o2, bind_s]
    dsimp only
    rw [tk_s, Nat.zero_add, Nat.zero_add]
  · obtain ⟨c', g', cl', va', sp', s0, x1, x2, nSp', cc, ss, q1, q2, q3, q4, q5, q6, q7, q8, q9, q10, q11, q12, q13, q14, q15, q16, q17, q18⟩ := gatherE0 (N := N) (l1 := []) (l2 := lE) (sp := f_H_spare) (gg := gg) (gs := fun _ => vS (nI 0)) (gc := fun _ => vS (nI 0)) (tp := 0) (fr := 0) (nV := n_S_values) (nB := n_S_closures) (va := f_S_values) (cl := f_S_closures) (g := f_H_globals) (c0 := f_H_cells) (nC := n_H_cells) (nSp := n_H_spare) (by omega) hG hnm htot l14 l15 hh cls_nil hu2 hg hu3 (fun h => absurd h (by decide)) (fun h => absurd h (by decide)) (fun h => absurd h (by decide))
    obtain ⟨y1, -, -⟩ := q17 rfl
    subst y1
    obtain ⟨old', olt', o1, o2⟩ := q1 H_globalsUsed H_used H_spareUsed H_old H_oldLeadsToNew H_limit H_every H_fresh H_made H_madeLimit H_reachedFromGlobals H_reachedInAll H_keptGlobalsUsed H_kept S_top S_frames S_handlers (fun h => absurd h (by decide))
    simp only [List.nil_append, List.append_nil] at o1 o2 q3 q4 q5 q6 q7 q11 q14 q16
    rw [← hu1] at o2
    obtain ⟨z1, z2, z3⟩ := spare_pot l13 l14 l15 l16 q2
    have hq : tot (gZ G) (s0 ++ x1) = tot (gZ G) dn := tot_same q3.1 r5 (fun o => ⟨fun ho => (r6 o).mpr (q11 o ho), fun ho => cls_rch q14 q16 ((r6 o).mp ho)⟩)
    rw [← hq] at r1
    have hpE' : hpE nk nm nid G (s0 ++ x1) gg H_globalsUsed (nI (tot (gZ G) (s0 ++ x1))) old' olt' g' c' n_H_cells := by
      refine ⟨q3, rfl, Nat.le_trans q6 htot, q4, q7, ⟨u, hu1, hu2, hu3⟩, ?_⟩
      rcases o1 with ⟨b1, b3⟩ | ⟨b0, _⟩
      · exact ⟨s0 ++ x1, [], (List.append_nil _).symm, b1, fun _ => q5⟩
      · exact absurd rfl b0
    refine ⟨nI (tot (gZ G) (s0 ++ x1)), c', g', cl', va', nI 0, old', olt', nI (tot (gZ G) s0), nI (tot (gZ G) (s0 ++ x1)), nI (tot (gZ G) (s0 ++ x1)), nI (tot (gZ G) (s0 ++ x1)), nSp', sp', cc, ss, F', I', ?_, r1, ⟨nk, nid, G, s0 ++ x1, lR, gg, hpE', r2, lnE_sp a3 z2 z3, hx', hI, ?_⟩, hfr, z1⟩
    · unfold m_Engine_reached
      rw [if_neg hs]
      rw [show nI (tot (gZ G) []) = 0 from rfl, show nI 0 = 0 from rfl] at o2
      rw [o2, bind_s]
      dsimp only
      rw [tk_s, Nat.zero_add, Nat.zero_add]
      rfl
    · rw [h20, h21]
      rcases a10 with h | ⟨h1, h2, h3⟩
      · exact Or.inl h
      · rcases h3 with ⟨h, _⟩ | h
        · exact absurd h hs
        · exact Or.inr ⟨h1, h2, Or.inr h⟩
/-- what was saved -/
def svR (nm nC nKC : Nat) (kp kgu : Int32) (kc kg : Nat → Int64) (I : Nat → Int32) (F : Nat → Nat → Int32) : Prop :=
  ∃ (nk : Nat → Nat) (nid : Nat) (G : Nat → GO) (lE lR : List Nat) (gg : Nat → AV),
   (wf nk nm nid G lE ∧ kp = nI (tot (gZ G) lE) ∧ tot (gZ G) lE ≤ nKC ∧ tot (gZ G) lE ≤ nC ∧ heE G lE kc ∧ (∀ k, k < 2048 → kg k = wE G lE (gg k) ∧ okV nk nm lE (gg k)) ∧ (∃ u, kgu = nI u ∧ u ≤ 2048 ∧ ∀ k, u ≤ k → k < 2048 → gg k = vS (nI 0))) ∧
   (wf nk nm nid G lR ∧ srt lR ∧ I 11 = nI (tot (gZ G) lR) ∧ tot (gZ G) lR ≤ 131072 ∧ heR G lR (F 9) (F 10) ∧ (∀ k, k < 2048 → okV nk nm lR (gg k) ∧ F 12 k = tR (gg k) ∧ F 13 k = vR G lR (gg k))) ∧ tot (gZ G) lE = tot (gZ G) lR ∧ nKC ≤ 131072
theorem okV_nm {l : List Nat} {v : AV} {nm' : Nat} (h : nm ≤ nm') (hv : okV nk nm l v) : okV nk nm' l v := by
  rcases v with n | ⟨k, i⟩ | o
  · exact hv
  · exact ⟨hv.1, hv.2.1, Nat.le_trans hv.2.2.1 h, hv.2.2.2⟩
  · exact hv
theorem okO_nm {o nm' : Nat} (h : nm ≤ nm') (hO : okO nk nm G o) : okO nk nm' G o := by
  rcases hO with q | q | q | q | q | ⟨q, k, q1, q2, q3, q4, q5⟩
  · exact Or.inl q
  · exact Or.inr (Or.inl q)
  · exact Or.inr (Or.inr (Or.inl q))
  · exact Or.inr (Or.inr (Or.inr (Or.inl q)))
  · exact Or.inr (Or.inr (Or.inr (Or.inr (Or.inl q))))
  · exact Or.inr (Or.inr (Or.inr (Or.inr (Or.inr ⟨q, k, q1, q2, q3, Nat.le_trans q4 h, q5⟩))))
theorem wf_nm {l : List Nat} {nm' : Nat} (h : nm ≤ nm') (hG : wf nk nm nid G l) : wf nk nm' nid G l :=
  ⟨hG.1, fun o ho => ⟨(hG.2 o ho).1, okO_nm h (hG.2 o ho).2.1, fun i h1 h2 => okV_nm h ((hG.2 o ho).2.2.1 i h1 h2), (hG.2 o ho).2.2.2⟩⟩
theorem sv_mono {nC nC' nKC nm' : Nat} {kp kgu : Int32} {kc kg : Nat → Int64} {I' : Nat → Int32} {F' : Nat → Nat → Int32} (h : svR nm nC nKC kp kgu kc kg I F) (h1 : nm ≤ nm') (h2 : nC ≤ nC') (h11 : I' 11 = I 11) (hF : ∀ j, j = 9 ∨ j = 10 ∨ j = 12 ∨ j = 13 → F' j = F j) : svR nm' nC' nKC kp kgu kc kg I' F' := by
  obtain ⟨nk, nid, G, lE, lR, gg, ⟨a1, a2, a3, a4, a5, a6, a7⟩, ⟨b1, b2, b3, b4, b5, b6⟩, c1, c2⟩ := h
  refine ⟨nk, nid, G, lE, lR, gg, ⟨wf_nm h1 a1, a2, a3, Nat.le_trans a4 h2, a5, fun k hk => ⟨(a6 k hk).1, okV_nm h1 (a6 k hk).2⟩, a7⟩, ⟨wf_nm h1 b1, b2, ?_, b4, ?_, fun k hk => ⟨okV_nm h1 (b6 k hk).1, ?_⟩⟩, c1, c2⟩
  · rw [h11]; exact b3
  · rw [hF 9 (by omega), hF 10 (by omega)]; exact b5
  · rw [hF 12 (by omega), hF 13 (by omega)]; exact (b6 k hk).2
theorem keep1_E {K nKC : Nat} {f : Nat → Int64} (hK : K ≤ 131072) (h : nKC ≤ 131072) : ∃ (nK' : Nat) (f' : Nat → Int64) (cc ss : Nat), (∀ (α : Type) (k : Nat → (Nat → Int64) → Option (α × Nat × Nat)), lm_Heap_keep_1 N (nI K) k nKC f = dz_tk cc ss (k nK' f')) ∧ K ≤ nK' ∧ nK' ≤ 131072 ∧ ss + 150 * cc + potK nKC ≤ potK nK' := by
  by_cases h1 : K ≤ nKC
  · refine ⟨nKC, f, 0, 0, fun α k => ?_, h1, h, by omega⟩
    unfold lm_Heap_keep_1
    rw [q_o, if_pos (show nI K ≤ nI nKC by rw [q_le_t (by omega) (by omega)]; exact True.intro)]
    exact (tk_0 _).symm
  · have hl := longer_E (N := N) (n := nKC) (need := K) (m := 131072) (by omega) (by omega) (by omega)
    have hp := potK_new (n := nKC) (k := min 131072 (max K (2 * nKC))) (by omega) (by omega)
    refine ⟨min 131072 (max K (2 * nKC)), fun _ => 0, 1, min 131072 (max K (2 * nKC)), fun α k => ?_, by omega, by omega, by omega⟩
    unfold lm_Heap_keep_1
    rw [q_o, if_neg (show ¬ nI K ≤ nI nKC by rw [q_le_f (by omega) (by omega)]; exact id), show m_Engine_longer N (nI nKC) (nI K) 131072 = _ from hl, bind_s, q_cl (by omega), if_neg (fun h => h.elim (nI_pos (by omega)) (by omega))]
set_option maxRecDepth 4000 in
theorem save_ER {n_H_keptCells : Nat} {f_H_keptCells f_H_keptGlobals : Nat → Int64} (hN : 400000 ≤ N) (hnm : nm < 134217728) (hkc : n_H_keptCells ≤ 131072) (hb : baseR nm f_H_globals Q_size H_fresh H_globalsUsed H_made H_old H_oldLeadsToNew H_reachedFromGlobals H_reachedInAll H_spareUsed H_used M_depth M_done M_fuel M_next M_place M_status M_ticks B_names O_size S_frames S_handlers S_top n_Q_links f_Q_links n_Q_pairs f_Q_pairs n_H_cells f_H_cells n_H_spare f_H_spare n_O_bytes f_O_bytes n_S_bases f_S_bases n_S_closures f_S_closures n_S_floors f_S_floors n_S_handlerDepths f_S_handlerDepths n_S_handlerFrames f_S_handlerFrames n_S_handlerHeights f_S_handlerHeights n_S_handlerPlaces f_S_handlerPlaces n_S_returns f_S_returns n_S_values f_S_values I F) : ∃ (r : Int32) (c' g' kg' cl' va' : Nat → Int64) (fresh' kp' kgu' old' olt' rG' rA' su' us' : Int32) (nK' : Nat) (kc' : Nat → Int64) (nSp' : Nat) (sp' : Nat → Int64) (cc ss : Nat) (F' : Nat → Nat → Int32) (I' : Nat → Int32), m_Engine_save N S_top S_frames S_handlers H_globalsUsed H_used H_spareUsed H_old H_oldLeadsToNew H_limit H_every H_fresh H_made H_madeLimit H_reachedFromGlobals H_reachedInAll H_keptGlobalsUsed H_kept M_status M_place M_next M_fuel M_ticks M_depth M_depthLimit M_done n_S_values f_S_values n_S_closures f_S_closures 2049 f_H_globals n_H_cells f_H_cells n_H_spare f_H_spare 2048 f_H_keptGlobals n_H_keptCells f_H_keptCells = some ((r, c', g', kg', cl', va', fresh', kp', kgu', old', olt', rG', rA', su', us', -1, 0, 0, 0, nK', kc', nSp', sp'), cc, ss) ∧ m_Model_save N I F = some (r, F', I') ∧
    baseR nm g' Q_size fresh' H_globalsUsed H_made old' olt' rG' rA' su' us' M_depth M_done M_fuel M_next M_place (-1) M_ticks B_names O_size 0 0 0 n_Q_links f_Q_links n_Q_pairs f_Q_pairs n_H_cells c' nSp' sp' n_O_bytes f_O_bytes n_S_bases f_S_bases n_S_closures cl' n_S_floors f_S_floors n_S_handlerDepths f_S_handlerDepths n_S_handlerFrames f_S_handlerFrames n_S_handlerHeights f_S_handlerHeights n_S_handlerPlaces f_S_handlerPlaces n_S_returns f_S_returns n_S_values va' I' F' ∧ svR nm n_H_cells nK' kp' kgu' kc' kg' I' F' ∧ ((∀ j, j = 14 ∨ j = 16 ∨ j = 17 → F' j = F j) ∧ (∀ j, j = 15 ∨ j = 18 ∨ j = 19 ∨ j = 43 ∨ j = 44 ∨ j = 45 → I' j = I j)) ∧ ss + 150 * cc + (pot 131072 n_H_spare + potK n_H_keptCells) ≤ pot 131072 nSp' + potK nK' := by
  obtain ⟨nk, nid, G, lE, lR, gg, a1, a2, a3, a4, ⟨i1, i2, i3, i4, i5⟩, a10⟩ := hb
  obtain ⟨F', I', m, r1, r2, ⟨j20, j22, j29, j30, j11⟩, r4, r3, w1, w2, w3, w4, w5, w6⟩ := save_R (N := N) (by omega) hnm a2
  have a3' := a3
  obtain ⟨l1, l2, l3, l4, l5, l6, l7, l8, l9, l10, l11, l12, l13, l14, l15, l16⟩ := a3'
  have a1' := a1
  obtain ⟨hG, hu, htot, hh, hg, ⟨u, hu1, hu2, hu3⟩, hold⟩ := a1'
  have hx' : xR nm M_fuel M_ticks H_made M_depth B_names O_size n_O_bytes f_O_bytes n_Q_links f_Q_links n_Q_pairs n_H_cells I' F' := xR_c a4 (fun j hj => r4 j (by omega) (by omega) (by omega) (by omega) (by omega) (by omega) (by omega)) (r3 41 (by omega) (by omega) (by omega) (by omega) (by omega))
  obtain ⟨c', g', cl', va', sp', s0, x1, x2, nSp', cc, ss, q1, q2, q3, q4, q5, q6, q7, q8, q9, q10, q11, q12, q13, q14, q15, q16, q17, q18⟩ := gatherE0 (N := N) (l1 := []) (l2 := lE) (sp := f_H_spare) (gg := gg) (gs := fun _ => vS (nI 0)) (gc := fun _ => vS (nI 0)) (tp := 0) (fr := 0) (nV := n_S_values) (nB := n_S_closures) (va := f_S_values) (cl := f_S_closures) (g := f_H_globals) (c0 := f_H_cells) (nC := n_H_cells) (nSp := n_H_spare) (by omega) hG hnm htot l14 l15 hh cls_nil hu2 hg hu3 (fun h => absurd h (by decide)) (fun h => absurd h (by decide)) (fun h => absurd h (by decide))
  obtain ⟨y1, -, -⟩ := q17 rfl
  subst y1
  obtain ⟨old', olt', o1, o2⟩ := q1 H_globalsUsed H_used H_spareUsed H_old H_oldLeadsToNew H_limit H_every H_fresh H_made H_madeLimit H_reachedFromGlobals H_reachedInAll H_keptGlobalsUsed H_kept 0 0 0 (fun h => absurd h (by decide))
  simp only [List.nil_append, List.append_nil] at o1 o2 q3 q4 q5 q6 q7 q10 q11 q13 q14 q15 q16
  rw [← hu1] at o2
  obtain ⟨z1, z2, z3⟩ := spare_pot l13 l14 l15 l16 q2
  have hnd := List.nodup_append.mp q3.1
  have hq : tot (gZ G) s0 = tot (gZ G) m := tot_same hnd.1 w1.1 (fun o => ⟨fun ho => (w6 o).mpr (q10 o ho), fun ho => cls_rch q13 q15 ((w6 o).mp ho)⟩)
  have hpE' : hpE nk nm nid G (s0 ++ x1) gg H_globalsUsed (nI (tot (gZ G) (s0 ++ x1))) old' olt' g' c' n_H_cells := by
    refine ⟨q3, rfl, Nat.le_trans q6 htot, q4, q7, ⟨u, hu1, hu2, hu3⟩, ?_⟩
    rcases o1 with ⟨b1, b3⟩ | ⟨b0, _⟩
    · exact ⟨s0 ++ x1, [], (List.append_nil _).symm, b1, fun _ => q5⟩
    · exact absurd rfl b0
  have hts : tot (gZ G) (s0 ++ x1) = tot (gZ G) s0 + tot (gZ G) x1 := tot_append ..
  obtain ⟨nK', f', cc2, ss2, k1, k2, k3, k4⟩ := keep1_E (N := N) (K := tot (gZ G) s0) (nKC := n_H_keptCells) (f := f_H_keptCells) (by omega) hkc
  have okd : ∀ v, okV nk nm (s0 ++ x1) v → (∀ p, v = vO p → p ∈ s0) → okV nk nm s0 v := by
    intro v hv hp
    rcases v with n | ⟨k, j⟩ | q
    · exact hv
    · exact hv
    · exact hp q rfl
  refine ⟨nI (tot (gZ G) s0), c', g', va_cpy g' f_H_keptGlobals 0 0 2048, cl', va', nI 0, nI (tot (gZ G) s0), H_globalsUsed, old', olt', nI (tot (gZ G) s0), nI (tot (gZ G) (s0 ++ x1)), nI (tot (gZ G) (s0 ++ x1)), nI (tot (gZ G) (s0 ++ x1)), nK', va_cpy c' f' 0 0 (tot (gZ G) s0), nSp', sp', cc2 + cc, ss2 + ss, F', I', ?_, by rw [hq]; exact r1, ⟨nk, nid, G, s0 ++ x1, lR, gg, hpE', r2, lnE_sp a3 z2 z3, hx', ⟨j29.symm, j22.symm, j30.symm, ?_, ?_⟩, Or.inl ⟨rfl, j20⟩⟩, ⟨nk, nid, G, s0, m, gg, ⟨⟨hnd.1, fun o ho => ?_⟩, rfl, k2, by omega, fun o ho => ?_, fun k hk => ?_, ⟨u, hu1, hu2, hu3⟩⟩, ⟨w1, w2, j11, w4, w3, w5⟩, hq, k3⟩, ⟨fun j hj => r3 j (by omega) (by omega) (by omega) (by omega) (by omega), fun j hj => r4 j (by omega) (by omega) (by omega) (by omega) (by omega) (by omega) (by omega)⟩, by omega⟩
  · have b1 : ¬ ((0 : Int32) < 0 ∨ (0 : Int32) < 0 ∨ nI (tot (gZ G) s0) < 0 ∨ n_H_cells < (0 : Int32).toNatClampNeg + (nI (tot (gZ G) s0)).toNatClampNeg ∨ nK' < (0 : Int32).toNatClampNeg + (nI (tot (gZ G) s0)).toNatClampNeg) := by
      rw [q_cl (by omega), show (0 : Int32).toNatClampNeg = 0 from rfl]
      intro h
      rcases h with h | h | h | h | h
      · exact absurd h (by decide)
      · exact absurd h (by decide)
      · exact nI_pos (by omega) h
      · omega
      · omega
    unfold m_Engine_save m_Machine_forget m_Stacks_clear m_Heap_keep
    rw [bind_s]
    dsimp only
    rw [bind_s]
    dsimp only
    rw [show nI (tot (gZ G) []) = 0 from rfl, show nI 0 = 0 from rfl] at o2
    rw [o2, bind_s]
    dsimp only
    rw [k1, if_neg b1, if_neg (show ¬ ((0 : Int32) < 0 ∨ (0 : Int32) < 0 ∨ (2048 : Int32) < 0 ∨ 2049 < (0 : Int32).toNatClampNeg + (2048 : Int32).toNatClampNeg ∨ 2048 < (0 : Int32).toNatClampNeg + (2048 : Int32).toNatClampNeg) by decide), tk_s, tk_s, bind_s]
    dsimp only
    rw [tk_s, q_cl (by omega), show (0 : Int32).toNatClampNeg = 0 from rfl, show (2048 : Int32).toNatClampNeg = 2048 by decide]
    simp only [Nat.zero_add]
    rfl
  · rw [r4 35 (by omega) (by omega) (by omega) (by omega) (by omega) (by omega) (by omega)]; exact i4
  · rw [r4 40 (by omega) (by omega) (by omega) (by omega) (by omega) (by omega) (by omega)]; exact i5
  · obtain ⟨y1, y2, y3, y4⟩ := q3.2 o (List.mem_append_left _ ho)
    exact ⟨y1, y2, fun i h1 h2 => okd _ (y3 i h1 h2) (fun p hp => q13 o ho i p h1 h2 hp), y4⟩
  · obtain ⟨y1, y2, y3⟩ := q4 o (List.mem_append_left _ ho)
    have hend := adr_end (Z := gZ G) ho
    have hz := gZ_pos G o
    rw [adr_l ho] at y1 y2 y3
    refine ⟨by rw [cpy_lt (by omega)]; exact y1, fun i h1 h2 => ?_, fun h6 j hj => ?_⟩
    · have := (np_lt h2 h1).1
      rw [cpy_lt (by omega), y2 i h1 h2, wE_l (fun p hp => q13 o ho i p h1 h2 hp)]
    · have hz6 : gZ G o = 1 + (gC G o + 3) / 4 := by unfold gZ; rw [if_pos h6]
      rw [cpy_lt (by omega)]
      exact y3 h6 j hj
  · have hrt : ∀ p, gg k = vO p → p ∈ s0 := fun p hp => q15 p ⟨k, hk, hp⟩
    rw [cpy_lt hk, (q7 k (by omega)).1, wE_l hrt]
    exact ⟨rfl, okd _ (q7 k (by omega)).2 hrt⟩
set_option maxRecDepth 4000 in
theorem rest_ER {n_H_keptCells : Nat} {f_H_keptCells f_H_keptGlobals : Nat → Int64} (hN : 400000 ≤ N) (hnm : nm < 134217728) (hsv : svR nm n_H_cells n_H_keptCells H_kept H_keptGlobalsUsed f_H_keptCells f_H_keptGlobals I F) (hb : baseR nm f_H_globals Q_size H_fresh H_globalsUsed H_made H_old H_oldLeadsToNew H_reachedFromGlobals H_reachedInAll H_spareUsed H_used M_depth M_done M_fuel M_next M_place M_status M_ticks B_names O_size S_frames S_handlers S_top n_Q_links f_Q_links n_Q_pairs f_Q_pairs n_H_cells f_H_cells n_H_spare f_H_spare n_O_bytes f_O_bytes n_S_bases f_S_bases n_S_closures f_S_closures n_S_floors f_S_floors n_S_handlerDepths f_S_handlerDepths n_S_handlerFrames f_S_handlerFrames n_S_handlerHeights f_S_handlerHeights n_S_handlerPlaces f_S_handlerPlaces n_S_returns f_S_returns n_S_values f_S_values I F) : ∃ (r : Int32) (c' g' : Nat → Int64) (F' : Nat → Nat → Int32) (I' : Nat → Int32), m_Engine_restore N S_top S_frames S_handlers H_globalsUsed H_used H_spareUsed H_old H_oldLeadsToNew H_limit H_every H_fresh H_made H_madeLimit H_reachedFromGlobals H_reachedInAll H_keptGlobalsUsed H_kept M_status M_place M_next M_fuel M_ticks M_depth M_depthLimit M_done 2049 f_H_globals n_H_cells f_H_cells 2048 f_H_keptGlobals n_H_keptCells f_H_keptCells = some (r, c', g', 0, H_keptGlobalsUsed, H_kept, 0, H_kept, -1, 0, 0, 0) ∧ m_Model_restore N I F = some (r, F', I') ∧
    baseR nm g' Q_size 0 H_keptGlobalsUsed H_made H_kept 0 H_reachedFromGlobals H_reachedInAll H_spareUsed H_kept M_depth M_done M_fuel M_next M_place (-1) M_ticks B_names O_size 0 0 0 n_Q_links f_Q_links n_Q_pairs f_Q_pairs n_H_cells c' n_H_spare f_H_spare n_O_bytes f_O_bytes n_S_bases f_S_bases n_S_closures f_S_closures n_S_floors f_S_floors n_S_handlerDepths f_S_handlerDepths n_S_handlerFrames f_S_handlerFrames n_S_handlerHeights f_S_handlerHeights n_S_handlerPlaces f_S_handlerPlaces n_S_returns f_S_returns n_S_values f_S_values I' F' ∧ frL I F I' F' := by
  obtain ⟨_, _, _, _, _, _, x1, x2, a3, a4, ⟨i1, i2, i3, i4, i5⟩, a10⟩ := hb
  obtain ⟨nk, nid, G, lE, lR, gg, ⟨b1, b2, b3, b4, b5, b6, ⟨u, hu1, hu2, hu3⟩⟩, ⟨d1, d2, d3, d4, d5, d6⟩, e1, e2⟩ := hsv
  obtain ⟨F', I', r1, r2, ⟨j20, j22, j29, j30⟩, r4, r3⟩ := restore_R (N := N) (by omega) d1 d2 d3 d4 d5 x2.2.2.2.2.2.1 d6
  have a3' := a3
  obtain ⟨l1, l2, l3, l4, l5, l6, l7, l8, l9, l10, l11, l12, l13, l14, l15, l16⟩ := a3'
  have hx' : xR nm M_fuel M_ticks H_made M_depth B_names O_size n_O_bytes f_O_bytes n_Q_links f_Q_links n_Q_pairs n_H_cells I' F' := xR_c a4 (fun j hj => r4 j (by omega) (by omega) (by omega) (by omega) (by omega) (by omega) (by omega)) (r3 41 (by omega) (by omega) (by omega) (by omega))
  refine ⟨H_kept, va_cpy f_H_keptCells f_H_cells 0 0 (tot (gZ G) lE), vp_updL (va_cpy f_H_keptGlobals f_H_globals 0 0 2048) 2048 0, F', I', ?_, by rw [b2, e1]; exact r1, ⟨nk, nid, G, lE, lR, upA gg 2048 (vS (nI 0)), ⟨b1, b2, b4, ?_, fun k hk => ?_, ⟨u, hu1, hu2, fun k h1 h2 => ?_⟩, ⟨lE, [], (List.append_nil _).symm, b2, fun _ => wf_cls b1⟩⟩, r2, a3, hx', ⟨j29.symm, j22.symm, j30.symm, ?_, ?_⟩, Or.inl ⟨rfl, j20⟩⟩, ⟨fun j hj => r3 j (by omega) (by omega) (by omega) (by omega), fun j hj => r4 j (by omega) (by omega) (by omega) (by omega) (by omega) (by omega) (by omega)⟩⟩
  · have c1 : ¬ ((0 : Int32) < 0 ∨ (0 : Int32) < 0 ∨ nI (tot (gZ G) lE) < 0 ∨ n_H_keptCells < (0 : Int32).toNatClampNeg + (nI (tot (gZ G) lE)).toNatClampNeg ∨ n_H_cells < (0 : Int32).toNatClampNeg + (nI (tot (gZ G) lE)).toNatClampNeg) := by
      rw [q_cl (by omega), show (0 : Int32).toNatClampNeg = 0 from rfl]
      intro h
      rcases h with h | h | h | h | h
      · exact absurd h (by decide)
      · exact absurd h (by decide)
      · exact nI_pos (by omega) h
      · omega
      · omega
    unfold m_Engine_restore m_Machine_forget m_Stacks_clear m_Heap_bringBack
    rw [bind_s]
    dsimp only
    rw [bind_s]
    dsimp only
    rw [if_neg (show ¬ ((0 : Int32) < 0 ∨ (0 : Int32) < 0 ∨ (2048 : Int32) < 0 ∨ 2048 < (0 : Int32).toNatClampNeg + (2048 : Int32).toNatClampNeg ∨ 2049 < (0 : Int32).toNatClampNeg + (2048 : Int32).toNatClampNeg) by decide), if_neg (show ¬ ((2048 : Int32) < 0 ∨ 2049 ≤ (2048 : Int32).toNatClampNeg) by decide), let_d, b2, if_neg c1, bind_s, q_cl (by omega), show (0 : Int32).toNatClampNeg = 0 from rfl, show (2048 : Int32).toNatClampNeg = 2048 by decide]
  · exact heE_c b5 (fun a ha => cpy_lt ha)
  · by_cases e : k = 2048
    · rw [updL_e e, upA_e e]
      exact ⟨scW_0.symm, trivial⟩
    · rw [updL_n e, upA_n e, cpy_lt (by omega)]
      exact b6 k (by omega)
  · rw [upA_n (by omega)]; exact hu3 k h1 h2
  · rw [r4 35 (by omega) (by omega) (by omega) (by omega) (by omega) (by omega) (by omega)]; exact i4
  · rw [r4 40 (by omega) (by omega) (by omega) (by omega) (by omega) (by omega) (by omega)]; exact i5
end KP
