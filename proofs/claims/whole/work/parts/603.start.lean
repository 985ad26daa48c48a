/-! A run begins -/
section ST
variable {N : Nat}
variable {nk : Nat → Nat} {nm : Nat} {nid : Nat} {G : Nat → GO} {lE : List Nat} {gg : Nat → AV} {t : Nat} {gs : Nat → AV} {fr : Nat} {gc : Nat → AV} {hn : Nat} {gb : Nat → Nat} {gf : Nat → Nat} {gr : Nat → Int32} {hF : Nat → Nat} {hH : Nat → Nat} {hP : Nat → Int32} {hD : Nat → Int32} {lR : List Nat} {P_size : Int32} {P_constants : Int32} {P_closed : Int32} {P_open : Int32} {O_size : Int32} {S_top : Int32} {S_frames : Int32} {S_handlers : Int32} {H_globalsUsed : Int32} {H_used : Int32} {H_spareUsed : Int32} {H_old : Int32} {H_oldLeadsToNew : Int32} {H_limit : Int32} {H_every : Int32} {H_fresh : Int32} {H_made : Int32} {H_madeLimit : Int32} {H_reachedFromGlobals : Int32} {H_reachedInAll : Int32} {H_keptGlobalsUsed : Int32} {H_kept : Int32} {B_names : Int32} {Q_size : Int32} {M_status : Int32} {M_place : Int32} {M_next : Int32} {M_fuel : Int32} {M_ticks : Int32} {M_depth : Int32} {M_depthLimit : Int32} {M_done : Int32} {n_P_words : Nat} {f_P_words : Nat → Int32} {n_P_bytes : Nat} {f_P_bytes : Nat → Int32} {n_P_ends : Nat} {f_P_ends : Nat → Int32} {n_O_bytes : Nat} {f_O_bytes : Nat → Int32} {n_S_values : Nat} {f_S_values : Nat → Int64} {n_S_bases : Nat} {f_S_bases : Nat → Int32} {n_S_floors : Nat} {f_S_floors : Nat → Int32} {n_S_returns : Nat} {f_S_returns : Nat → Int32} {n_S_closures : Nat} {f_S_closures : Nat → Int64} {n_S_handlerFrames : Nat} {f_S_handlerFrames : Nat → Int32} {n_S_handlerPlaces : Nat} {f_S_handlerPlaces : Nat → Int32} {n_S_handlerHeights : Nat} {f_S_handlerHeights : Nat → Int32} {n_S_handlerDepths : Nat} {f_S_handlerDepths : Nat → Int32} {n_H_globals : Nat} {f_H_globals : Nat → Int64} {n_H_cells : Nat} {f_H_cells : Nat → Int64} {n_H_spare : Nat} {f_H_spare : Nat → Int64} {n_Q_links : Nat} {f_Q_links : Nat → Int32} {n_Q_pairs : Nat} {f_Q_pairs : Nat → Int64} {I : Nat → Int32} {F : Nat → Nat → Int32}
/-- what program, limits and saved state need -/
def frL (I : Nat → Int32) (F : Nat → Nat → Int32) (I' : Nat → Int32) (F' : Nat → Nat → Int32) : Prop :=
  (∀ j, j = 9 ∨ j = 10 ∨ j = 12 ∨ j = 13 ∨ j = 14 ∨ j = 16 ∨ j = 17 → F' j = F j) ∧ (∀ j, j = 11 ∨ j = 15 ∨ j = 18 ∨ j = 19 ∨ j = 43 ∨ j = 44 ∨ j = 45 → I' j = I j)
theorem start_ER {p0 p1 : Int32} (hnm : nm < 134217728) (hb : baseR nm f_H_globals Q_size H_fresh H_globalsUsed H_made H_old H_oldLeadsToNew H_reachedFromGlobals H_reachedInAll H_spareUsed H_used M_depth M_done M_fuel M_next M_place M_status M_ticks B_names O_size S_frames S_handlers S_top n_Q_links f_Q_links n_Q_pairs f_Q_pairs n_H_cells f_H_cells n_H_spare f_H_spare n_O_bytes f_O_bytes n_S_bases f_S_bases n_S_closures f_S_closures n_S_floors f_S_floors n_S_handlerDepths f_S_handlerDepths n_S_handlerFrames f_S_handlerFrames n_S_handlerHeights f_S_handlerHeights n_S_handlerPlaces f_S_handlerPlaces n_S_returns f_S_returns n_S_values f_S_values I F) :
    ∃ (r : Int32) (g' : Nat → Int64) (b' : Nat → Int32) (cl' : Nat → Int64) (fl' rt' : Nat → Int32) (made' dp' dn' fu' pl' st' ti' os' sf' sh' tp' : Int32) (F' : Nat → Nat → Int32) (I' : Nat → Int32), m_Engine_start N O_size S_top S_frames S_handlers H_globalsUsed H_used H_spareUsed H_old H_oldLeadsToNew H_limit H_every H_fresh H_made H_madeLimit H_reachedFromGlobals H_reachedInAll H_keptGlobalsUsed H_kept M_status M_place M_next M_fuel M_ticks M_depth M_depthLimit M_done n_S_bases f_S_bases n_S_floors f_S_floors n_S_returns f_S_returns n_S_closures f_S_closures 2049 f_H_globals p0 p1 = some (r, g', b', cl', fl', rt', made', dp', dn', fu', pl', st', ti', os', sf', sh', tp') ∧ m_Model_start N I F p0 p1 = some (r, F', I') ∧ baseR nm g' Q_size H_fresh H_globalsUsed made' H_old H_oldLeadsToNew H_reachedFromGlobals H_reachedInAll H_spareUsed H_used dp' dn' fu' M_next pl' st' ti' B_names os' sf' sh' tp' n_Q_links f_Q_links n_Q_pairs f_Q_pairs n_H_cells f_H_cells n_H_spare f_H_spare n_O_bytes f_O_bytes n_S_bases b' n_S_closures cl' n_S_floors fl' n_S_handlerDepths f_S_handlerDepths n_S_handlerFrames f_S_handlerFrames n_S_handlerHeights f_S_handlerHeights n_S_handlerPlaces f_S_handlerPlaces n_S_returns rt' n_S_values f_S_values I' F' ∧ frL I F I' F' := by
  by_cases c0 : p0 < 0
  · exact ⟨0, f_H_globals, f_S_bases, f_S_closures, f_S_floors, f_S_returns, H_made, M_depth, M_done, M_fuel, M_place, M_status, M_ticks, O_size, S_frames, S_handlers, S_top, F, I, by unfold m_Engine_start; rw [if_pos c0], by unfold m_Model_start; rw [if_pos c0], hb, ⟨fun _ _ => rfl, fun _ _ => rfl⟩⟩
  · by_cases c1 : p1 < 0
    · exact ⟨0, f_H_globals, f_S_bases, f_S_closures, f_S_floors, f_S_returns, H_made, M_depth, M_done, M_fuel, M_place, M_status, M_ticks, O_size, S_frames, S_handlers, S_top, F, I, by unfold m_Engine_start; rw [if_neg c0, if_pos c1], by unfold m_Model_start; rw [if_neg c0, if_pos c1], hb, ⟨fun _ _ => rfl, fun _ _ => rfl⟩⟩
    · by_cases c2 : p1 ≤ 1000000
      · obtain ⟨nk, nid, G, lE, lR, gg, a1, a2, a3, a4, a5, a10⟩ := hb
        have a3' := a3
        obtain ⟨l1, l2, l3, l4, l5, l6, l7, l8, l9, l10, l11, l12, l13, l14, l15, l16⟩ := a3'
        have zi : ∀ n : Nat, 0 < n → ¬ ((0 : Int32) < 0 ∨ n ≤ (0 : Int32).toNatClampNeg) := fun n hn h => h.elim (by decide) (fun h => by have h : n ≤ 0 := h; omega)
        have hR : m_Model_start N I F p0 p1 = some (1, updF (updF (updF F 23 (upd (F 23) 0 (-1))) 24 (upd (F 24) 0 0)) 25 (upd (F 25) 0 0), upd (upd (upd (upd (upd (upd (upd (upd (upd (upd (upd (upd (upd (upd I 20 1) 21 5) 22 1) 29 0) 30 0) 35 p0) 36 p1) 37 0) 38 0) 39 0) 40 0) 42 0) 7 0) 8 0) := by
          unfold m_Model_start
          rw [if_neg c0, if_neg c1, if_pos c2]
          simp only [let_d, if_neg (zi 8192 (by omega))]
          rfl
        have hE : m_Engine_start N O_size S_top S_frames S_handlers H_globalsUsed H_used H_spareUsed H_old H_oldLeadsToNew H_limit H_every H_fresh H_made H_madeLimit H_reachedFromGlobals H_reachedInAll H_keptGlobalsUsed H_kept M_status M_place M_next M_fuel M_ticks M_depth M_depthLimit M_done n_S_bases f_S_bases n_S_floors f_S_floors n_S_returns f_S_returns n_S_closures f_S_closures 2049 f_H_globals p0 p1 = some (1, vp_updL f_H_globals 2048 0, upd f_S_bases 0 0, vp_updL f_S_closures 0 0, upd f_S_floors 0 0, upd f_S_returns 0 0, 0, 0, 0, p1, p0, 5, 0, 0, 1, 0, 0) := by
          unfold m_Engine_start m_Machine_begin m_Stacks_begin m_Stacks_clear
          rw [if_neg c0, if_neg c1, if_pos c2, if_neg (show ¬ ((2048 : Int32) < 0 ∨ 2049 ≤ (2048 : Int32).toNatClampNeg) by decide), bind_s]
          dsimp only
          rw [if_neg (zi n_S_bases (by omega)), if_neg (zi n_S_floors (by omega)), if_neg (zi n_S_returns (by omega)), if_neg (zi n_S_closures (by omega)), bind_s]
          rfl
        refine ⟨1, vp_updL f_H_globals 2048 0, upd f_S_bases 0 0, vp_updL f_S_closures 0 0, upd f_S_floors 0 0, upd f_S_returns 0 0, 0, 0, 0, p1, p0, 5, 0, 0, 1, 0, 0, _, _, hE, hR, ?_, ⟨fun j hj => ?_, fun j hj => ?_⟩⟩
        · obtain ⟨u, u1, u2, u3⟩ := a1.2.2.2.2.2.1
          have hpE' := hpE_set (k := 2048) (v := vS (nI 0)) (gu' := H_globalsUsed) a1 trivial ⟨u, u1, u2, fun h => absurd h (by omega), u3⟩
          rw [show wE G lE (vS (nI 0)) = 0 from scW_0] at hpE'
          obtain ⟨x1, x2, x3, x4, x5, x6, x7, ⟨w, x8, x9, x10, x11⟩, x12⟩ := a4
          obtain ⟨d1, d2, d3, d4, d5, d6, d7, d8, d9, d10⟩ := a2
          have hpR' : hpR nk nm nid G lR (upA gg 2048 (vS (nI 0))) (upd (upd (upd (upd (upd (upd (upd (upd (upd (upd (upd (upd (upd (upd I 20 1) 21 5) 22 1) 29 0) 30 0) 35 p0) 36 p1) 37 0) 38 0) 39 0) 40 0) 42 0) 7 0) 8 0) (updF (updF (updF F 23 (upd (F 23) 0 (-1))) 24 (upd (F 24) 0 0)) 25 (upd (F 25) 0 0)) := by
            refine ⟨d1, d2, ?_, d4, ?_, ?_, fun k hk => ?_, fun k hk => ?_, ?_, ?_⟩
            · simp (disch := omega) only [upd_n]
              exact d3
            · simp (disch := omega) only [updF_n]
              exact d5
            · simp (disch := omega) only [updF_n]
              exact d6
            · by_cases e : k = 2048
              · rw [upA_e e]; trivial
              · rw [upA_n e]; exact d7 k hk
            · rw [upA_n (by omega)]
              simp (disch := omega) only [updF_n]
              exact d8 k hk
            · rw [upd_n (by omega), upd_e rfl, upA_e rfl]
              rfl
            · rw [upd_e rfl, upA_e rfl]
              rfl
          refine ⟨nk, nid, G, lE, lR, upA gg 2048 (vS (nI 0)), hpE', hpR', a3, ⟨x1, ?_, ?_, ?_, ?_, ?_, ?_, ⟨0, rfl, ?_, by omega, fun k hk => absurd hk (by omega)⟩, x12⟩, ⟨?_, ?_, ?_, ?_, ?_⟩, Or.inr ⟨?_, ?_, Or.inl ⟨rfl, 0, fun _ => vS (nI 0), 1, fun _ => vS (nI 0), 0, fun _ => 0, fun _ => 0, fun _ => 0, fun _ => 0, fun _ => 0, fun _ => 0, fun _ => 0, ?_, ?_⟩⟩⟩
          · simp (disch := omega) only [upd_n]; exact x2
          · simp (disch := omega) only [upd_n, upd_e]
          · simp (disch := omega) only [upd_n, upd_e]
          · simp (disch := omega) only [upd_n, upd_e]
          · simp (disch := omega) only [upd_n, upd_e]
          · simp (disch := omega) only [upd_n]; exact x7
          · simp (disch := omega) only [upd_n, upd_e]; rfl
          · simp (disch := omega) only [upd_n, upd_e]
          · simp (disch := omega) only [upd_n, upd_e]
          · simp (disch := omega) only [upd_n, upd_e]
          · simp (disch := omega) only [upd_n, upd_e]
          · simp (disch := omega) only [upd_n, upd_e]
          · simp (disch := omega) only [upd_n, upd_e]
          · simp (disch := omega) only [upd_n, upd_e]; decide
          · refine ⟨⟨by omega, by omega, by omega, by omega, Nat.zero_le _, fun k hk => Nat.le_refl _, fun i j h1 h2 => by omega, fun j hj => absurd hj (by omega), fun i j h1 h2 => by omega⟩, a3, ⟨rfl, rfl, rfl, by omega, by omega, by omega, fun k hk => ?_, fun k h1 h2 => by omega, fun j hj => absurd hj (by omega)⟩, ⟨fun k hk => absurd hk (by omega), fun k hk => ?_⟩, hpE', fun k hk => Or.inl rfl, hnm⟩
            · rw [upd_e (by omega), upd_e (by omega)]
              exact ⟨rfl, rfl⟩
            · rw [updL_e (by omega)]
              exact ⟨scW_0.symm, trivial⟩
          · refine ⟨⟨?_, ?_, ?_, fun k hk => ?_, fun k h1 h2 => by omega, fun j hj => absurd hj (by omega), ?_, ?_⟩, ⟨fun k hk => absurd hk (by omega), fun k hk => ⟨trivial, ?_⟩⟩, hpR'⟩
            · simp (disch := omega) only [upd_n, upd_e]; rfl
            · simp (disch := omega) only [upd_n, upd_e]; rfl
            · simp (disch := omega) only [upd_n, upd_e]; rfl
            · have hk0 : k = 0 := by omega
              subst hk0
              rw [updF_n (by omega), updF_e rfl, updF_e rfl, upd_e rfl, upd_e rfl]
              exact ⟨rfl, rfl⟩
            · simp (disch := omega) only [upd_n, upd_e]; decide
            · simp (disch := omega) only [upd_n, upd_e]; rfl
            · rw [updF_n (by omega), updF_n (by omega), updF_e rfl, upd_e (by omega)]
              rfl
        · rw [updF_n (by omega), updF_n (by omega), updF_n (by omega)]
        · simp (disch := omega) only [upd_n]
      · exact ⟨0, f_H_globals, f_S_bases, f_S_closures, f_S_floors, f_S_returns, H_made, M_depth, M_done, M_fuel, M_place, M_status, M_ticks, O_size, S_frames, S_handlers, S_top, F, I, by unfold m_Engine_start; rw [if_neg c0, if_neg c1, if_neg c2], by unfold m_Model_start; rw [if_neg c0, if_neg c1, if_neg c2], hb, ⟨fun _ _ => rfl, fun _ _ => rfl⟩⟩
end ST
