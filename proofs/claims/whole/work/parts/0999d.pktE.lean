/-! packet: the engine's -/
section PK
variable {N : Nat}
variable {nk : Nat → Nat} {nm : Nat} {nid : Nat} {G : Nat → GO} {lE : List Nat} {gg : Nat → AV} {t : Nat} {gs : Nat → AV} {fr : Nat} {gc : Nat → AV} {hn : Nat} {gb : Nat → Nat} {gf : Nat → Nat} {gr : Nat → Int32} {hF : Nat → Nat} {hH : Nat → Nat} {hP : Nat → Int32} {hD : Nat → Int32} {lR : List Nat} {P_size : Int32} {P_constants : Int32} {P_closed : Int32} {P_open : Int32} {O_size : Int32} {S_top : Int32} {S_frames : Int32} {S_handlers : Int32} {H_globalsUsed : Int32} {H_used : Int32} {H_spareUsed : Int32} {H_old : Int32} {H_oldLeadsToNew : Int32} {H_limit : Int32} {H_every : Int32} {H_fresh : Int32} {H_made : Int32} {H_madeLimit : Int32} {H_reachedFromGlobals : Int32} {H_reachedInAll : Int32} {H_keptGlobalsUsed : Int32} {H_kept : Int32} {B_names : Int32} {Q_size : Int32} {M_status : Int32} {M_place : Int32} {M_next : Int32} {M_fuel : Int32} {M_ticks : Int32} {M_depth : Int32} {M_depthLimit : Int32} {M_done : Int32} {n_P_words : Nat} {f_P_words : Nat → Int32} {n_P_bytes : Nat} {f_P_bytes : Nat → Int32} {n_P_ends : Nat} {f_P_ends : Nat → Int32} {n_O_bytes : Nat} {f_O_bytes : Nat → Int32} {n_S_values : Nat} {f_S_values : Nat → Int64} {n_S_bases : Nat} {f_S_bases : Nat → Int32} {n_S_floors : Nat} {f_S_floors : Nat → Int32} {n_S_returns : Nat} {f_S_returns : Nat → Int32} {n_S_closures : Nat} {f_S_closures : Nat → Int64} {n_S_handlerFrames : Nat} {f_S_handlerFrames : Nat → Int32} {n_S_handlerPlaces : Nat} {f_S_handlerPlaces : Nat → Int32} {n_S_handlerHeights : Nat} {f_S_handlerHeights : Nat → Int32} {n_S_handlerDepths : Nat} {f_S_handlerDepths : Nat → Int32} {n_H_globals : Nat} {f_H_globals : Nat → Int64} {n_H_cells : Nat} {f_H_cells : Nat → Int64} {n_H_spare : Nat} {f_H_spare : Nat → Int64} {n_Q_links : Nat} {f_Q_links : Nat → Int32} {n_Q_pairs : Nat} {f_Q_pairs : Nat → Int64} {I : Nat → Int32} {F : Nat → Nat → Int32}
set_option maxHeartbeats 2000000 in
theorem pkt_E {k i L : Nat} (hN : 400000 ≤ N) (he : eR nk nm nid G lE gg t gs fr gc hn gb gf gr hF hH hP hD S_top S_frames S_handlers n_S_values f_S_values n_S_bases f_S_bases n_S_floors f_S_floors n_S_returns f_S_returns n_S_closures f_S_closures n_S_handlerFrames f_S_handlerFrames n_S_handlerPlaces f_S_handlerPlaces n_S_handlerHeights f_S_handlerHeights n_S_handlerDepths f_S_handlerDepths H_globalsUsed H_used H_old H_oldLeadsToNew f_H_globals n_H_cells f_H_cells n_H_spare) (hh : gf (fr - 1) + 2 ≤ t) (hv : gs (t - 2) = vN k i) (hL : L ≤ 131072) :
    ∃ (st : Int32) (l' : List Nat) (g' cl' va' c' sp' : Nat → Int64) (fresh' old' olt' rG' rA' su' used' top' : Int32) (nC' nSp' cc ss : Nat), m_Objects_packet N S_top S_frames S_handlers H_globalsUsed H_used H_spareUsed H_old H_oldLeadsToNew (nI L) H_every H_fresh H_made H_madeLimit H_reachedFromGlobals H_reachedInAll H_keptGlobalsUsed H_kept B_names n_S_values f_S_values n_S_closures f_S_closures 2049 f_H_globals n_H_cells f_H_cells n_H_spare f_H_spare = some ((st, g', cl', va', fresh', H_made, old', olt', rG', rA', su', used', top', nC', c', nSp', sp'), cc, ss) ∧
      ((st = nI 5 ∧ fits' G (rtA gg t gs fr gc) 2 L ∧ eR nk nm (nid + 1) (gnew G nid (pkt k i (gs (t - 1)))) (l' ++ [nid]) gg (t - 2 + 1) (upA gs (t - 2) (vO nid)) fr gc hn gb gf gr hF hH hP hD top' S_frames S_handlers n_S_values va' n_S_bases f_S_bases n_S_floors f_S_floors n_S_returns f_S_returns n_S_closures cl' n_S_handlerFrames f_S_handlerFrames n_S_handlerPlaces f_S_handlerPlaces n_S_handlerHeights f_S_handlerHeights n_S_handlerDepths f_S_handlerDepths H_globalsUsed used' old' olt' g' nC' c' nSp') ∨
       (st = nI 3 ∧ ¬ fits' G (rtA gg t gs fr gc) 2 L ∧ eR nk nm nid G l' gg t gs fr gc hn gb gf gr hF hH hP hD top' S_frames S_handlers n_S_values va' n_S_bases f_S_bases n_S_floors f_S_floors n_S_returns f_S_returns n_S_closures cl' n_S_handlerFrames f_S_handlerFrames n_S_handlerPlaces f_S_handlerPlaces n_S_handlerHeights f_S_handlerHeights n_S_handlerDepths f_S_handlerDepths H_globalsUsed used' old' olt' g' nC' c' nSp')) ∧ (nC' = n_H_cells ∨ 2 * n_H_cells ≤ nC' ∨ nC' = 131072) ∧ n_H_cells ≤ nC' ∧ ss + 150 * cc + pot 131072 n_H_cells + pot 131072 n_H_spare ≤ pot 131072 nC' + pot 131072 nSp' := by
  obtain ⟨q1, q2, q3, qt, qs, qh, qb, qf, q4, q5, q6, q7, q8, q9, qx, qy, qz⟩ := frE he
  obtain ⟨b, l', g', cl', va', c', sp', fresh', made', old', olt', rG', rA', su', nC', nSp', cc, ss, a1, a2, a3, a4, a5, a6⟩ := ask_E0 (N := N) (H_spareUsed := H_spareUsed) (H_every := H_every) (H_fresh := H_fresh) (H_made := H_made) (H_madeLimit := H_madeLimit) (H_reachedFromGlobals := H_reachedFromGlobals) (H_reachedInAll := H_reachedInAll) (H_keptGlobalsUsed := H_keptGlobalsUsed) (H_kept := H_kept) (f_H_spare := f_H_spare) (n := 2) (cnt := 0) hN he (by omega) (by omega) hL rfl trivial
  subst qt qs qh
  have hbC := (eR_hp a2).2.2.1
  have hGE := (eR_hp he).1
  have hpk0 := eR_peek (N := N) (k := 1) he (by omega)
  rw [show t - 1 - 1 = t - 2 by omega, hv] at hpk0
  have hokE : okV nk nm lE (vN k i) := by
    have := (he.2.2.2.1.1 (t - 2) (by omega)).2
    rw [hv] at this
    exact this
  have hkd := kd_E (N := N) hGE hokE
  have hkd : m_Value_kind N (wE G lE (vN k i)) = some (nI 1) := by
    rw [hkd]
    rfl
  have hok := (a2.2.2.2.1.1 (t - 2) (by omega)).2
  rw [hv] at hok
  obtain ⟨k1, k2, k3, k4⟩ := hok
  have hnn := a2.2.2.2.2.2.2
  rcases a3 with ⟨rfl, f1, f2, f3, rfl⟩ | ⟨rfl, f1, rfl⟩
  · rw [i_add0] at a1
    have hp1 := eR_peek (N := N) (k := 1) a2 (by omega)
    rw [show t - 1 - 1 = t - 2 by omega, hv] at hp1
    have hp1 : m_Stacks_peek N (nI t) (nI fr) (nI hn) n_S_values va' (nI 1) = some (nmW k i) := by
      rw [hp1]
      rfl
    have hp0 := eR_peek (N := N) (k := 0) a2 (by omega)
    rw [Nat.sub_zero] at hp0
    have hvv := a2.2.2.2.1.1 (t - 1) (by omega)
    have hGl := a2.2.2.2.2.1.1
    obtain ⟨hnew, w2⟩ := eR_pkt (k := k) (i := i) a2 hh (okO_pkt k1 k2 k3 k4) f3 rfl
    obtain ⟨p1, p2⟩ := eR_repl (N := N) (v := vO nid) (k := 2) hnew (by omega) hh (List.mem_append_right _ (List.mem_singleton.mpr rfl))
    rw [w2] at p1 p2
    rw [show nI (tot (gZ G) l' + 2) = nI (tot (gZ G) l') + 2 from (nI_add _ 2).symm] at p2
    refine ⟨nI 5, l', g', cl', _, _, sp', fresh' + 2, old', olt', rG', rA', su', nI (tot (gZ G) l') + 2, nI (t - 2 + 1), nC', nSp', cc, ss, ?_, Or.inl ⟨rfl, f1, p2⟩, a4, a5, by omega⟩
    have hwk : m_Value_withKind N (nmW k i) 7 = some (hdW 7 (nI k) i) := by
      unfold m_Value_withKind
      exact congrArg some (wk_nm (by omega) (by omega))
    have hob : m_Value_object N 7 (nI (tot (gZ G) l')) = some (obW 7 (tot (gZ G) l')) := ob_E (K := 7) (by omega) (by omega)
    exact packet_ev1 hpk0 hkd a1 hp1 hwk rfl (by omega) hbC hp0 hob p1
  · refine ⟨nI 3, l', g', cl', va', c', sp', fresh', old', olt', rG', rA', su', nI (tot (gZ G) l'), nI t, nC', nSp', cc, ss, ?_, Or.inr ⟨rfl, f1, a2⟩, a4, a5, by omega⟩
    exact packet_ev0 hpk0 hkd a1
end PK
