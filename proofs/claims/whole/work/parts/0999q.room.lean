/-! Room for what a primitive makes, on both sides -/
section RM
variable {N : Nat}
variable {nk : Nat → Nat} {nm : Nat} {nid : Nat} {G : Nat → GO} {lE : List Nat} {gg : Nat → AV} {t : Nat} {gs : Nat → AV} {fr : Nat} {gc : Nat → AV} {hn : Nat} {gb : Nat → Nat} {gf : Nat → Nat} {gr : Nat → Int32} {hF : Nat → Nat} {hH : Nat → Nat} {hP : Nat → Int32} {hD : Nat → Int32} {lR : List Nat} {P_size : Int32} {P_constants : Int32} {P_closed : Int32} {P_open : Int32} {O_size : Int32} {S_top : Int32} {S_frames : Int32} {S_handlers : Int32} {H_globalsUsed : Int32} {H_used : Int32} {H_spareUsed : Int32} {H_old : Int32} {H_oldLeadsToNew : Int32} {H_limit : Int32} {H_every : Int32} {H_fresh : Int32} {H_made : Int32} {H_madeLimit : Int32} {H_reachedFromGlobals : Int32} {H_reachedInAll : Int32} {H_keptGlobalsUsed : Int32} {H_kept : Int32} {B_names : Int32} {Q_size : Int32} {M_status : Int32} {M_place : Int32} {M_next : Int32} {M_fuel : Int32} {M_ticks : Int32} {M_depth : Int32} {M_depthLimit : Int32} {M_done : Int32} {n_P_words : Nat} {f_P_words : Nat → Int32} {n_P_bytes : Nat} {f_P_bytes : Nat → Int32} {n_P_ends : Nat} {f_P_ends : Nat → Int32} {n_O_bytes : Nat} {f_O_bytes : Nat → Int32} {n_S_values : Nat} {f_S_values : Nat → Int64} {n_S_bases : Nat} {f_S_bases : Nat → Int32} {n_S_floors : Nat} {f_S_floors : Nat → Int32} {n_S_returns : Nat} {f_S_returns : Nat → Int32} {n_S_closures : Nat} {f_S_closures : Nat → Int64} {n_S_handlerFrames : Nat} {f_S_handlerFrames : Nat → Int32} {n_S_handlerPlaces : Nat} {f_S_handlerPlaces : Nat → Int32} {n_S_handlerHeights : Nat} {f_S_handlerHeights : Nat → Int32} {n_S_handlerDepths : Nat} {f_S_handlerDepths : Nat → Int32} {n_H_globals : Nat} {f_H_globals : Nat → Int64} {n_H_cells : Nat} {f_H_cells : Nat → Int64} {n_H_spare : Nat} {f_H_spare : Nat → Int64} {n_Q_links : Nat} {f_Q_links : Nat → Int32} {n_Q_pairs : Nat} {f_Q_pairs : Nat → Int64} {I : Nat → Int32} {F : Nat → Nat → Int32}
theorem ask_F {n : Nat} (hn6 : 0 < n) (hn2 : n ≤ 400000) (h : ¬ lg_cmp (H_made.toInt64 + (nI n).toInt64) H_madeLimit.toInt64 ≤ nI 0) : m_Heap_ask N S_top S_frames S_handlers H_globalsUsed H_used H_spareUsed H_old H_oldLeadsToNew H_limit H_every H_fresh H_made H_madeLimit H_reachedFromGlobals H_reachedInAll H_keptGlobalsUsed H_kept n_S_values f_S_values n_S_closures f_S_closures n_H_globals f_H_globals n_H_cells f_H_cells n_H_spare f_H_spare (nI n) (nI n) = some ((0, f_H_globals, f_S_closures, f_S_values, H_fresh, H_made, H_old, H_oldLeadsToNew, H_reachedFromGlobals, H_reachedInAll, H_spareUsed, H_used, n_H_cells, f_H_cells, n_H_spare, f_H_spare), 0, 0) := by
  have e1 : ¬ nI n ≤ 0 := by rw [show (0 : Int32) = nI 0 from rfl, q_le_f (by omega) (by omega)]; exact id
  unfold m_Heap_ask
  rw [if_neg e1, if_neg (show ¬ lg_cmp (H_made.toInt64 + (nI n).toInt64) H_madeLimit.toInt64 ≤ 0 from h)]
theorem makes_F {x : Int32} (h : ¬ lg_cmp ((I 38).toInt64 + x.toInt64) (I 44).toInt64 ≤ nI 0) : m_Model_makes N I F x = some (nI 0, F, I) := by
  have h1 : (0 : Int32) < lg_cmp ((I 38).toInt64 + x.toInt64) (I 44).toInt64 := Int32.not_le.mp h
  unfold m_Model_makes
  rw [if_pos h1]
  rfl
theorem makes_0 {x : Int32} {F' : Nat → Nat → Int32} {I' : Nat → Int32} (h : lg_cmp ((I 38).toInt64 + x.toInt64) (I 44).toInt64 ≤ nI 0) (h2 : m_Model_hasRoom N I F x = some (nI 0, F', I')) : m_Model_makes N I F x = some (nI 0, F', I') := by
  have h1 : ¬ (0 : Int32) < lg_cmp ((I 38).toInt64 + x.toInt64) (I 44).toInt64 := Int32.not_lt.mpr h
  unfold m_Model_makes
  rw [if_neg h1, h2, bind_s]
  dsimp only
  rw [if_pos (show nI 0 = 0 from rfl)]
  rfl
theorem makes_1 {x : Int32} {F' : Nat → Nat → Int32} {I' : Nat → Int32} (h : lg_cmp ((I 38).toInt64 + x.toInt64) (I 44).toInt64 ≤ nI 0) (h2 : m_Model_hasRoom N I F x = some (nI 1, F', I')) : m_Model_makes N I F x = some (nI 1, F', upd I' 38 (I' 38 + x)) := by
  have h1 : ¬ (0 : Int32) < lg_cmp ((I 38).toInt64 + x.toInt64) (I 44).toInt64 := Int32.not_lt.mpr h
  unfold m_Model_makes
  rw [if_neg h1, h2, bind_s]
  dsimp only
  rw [if_neg (show ¬ nI 1 = 0 by decide), let_d]
  rfl
/-- the number of what was made plays no part in the relation -/
theorem rR_38 {x : Int32} (hr : rR nk nm nid G lR gg t gs fr gc hn gb gf gr hF hH hP hD I F) : rR nk nm nid G lR gg t gs fr gc hn gb gf gr hF hH hP hD (upd I 38 x) F := by
  obtain ⟨⟨a1, a2, a3, a4, a5, a6, a7, a8⟩, b, ⟨c1, c2, c3, c4, c5, c6, c7, c8, c9, c10⟩⟩ := hr
  refine ⟨⟨?_, ?_, ?_, a4, a5, a6, ?_, ?_⟩, b, ⟨c1, c2, ?_, c4, c5, c6, c7, c8, ?_, ?_⟩⟩
  · rw [upd_n (by omega)]; exact a1
  · rw [upd_n (by omega)]; exact a2
  · rw [upd_n (by omega)]; exact a3
  · rw [upd_n (by omega)]; exact a7
  · rw [upd_n (by omega)]; exact a8
  · rw [upd_n (by omega)]; exact c3
  · rw [upd_n (by omega)]; exact c9
  · rw [upd_n (by omega)]; exact c10
/-- what asking leaves of the reference -/
def frA (I : Nat → Int32) (F : Nat → Nat → Int32) (I' : Nat → Int32) (F' : Nat → Nat → Int32) : Prop := (∀ j, j ≠ 3 → j ≠ 8 → j ≠ 29 → j ≠ 38 → j ≠ 50 → j ≠ 51 → I' j = I j) ∧ (∀ j, j ≠ 0 → j ≠ 1 → j ≠ 2 → j ≠ 6 → j ≠ 23 → j ≠ 27 → j ≠ 28 → F' j = F j)
theorem frm_A {I' : Nat → Int32} {F' : Nat → Nat → Int32} (h : frA I F I' F') : frm I F I' F' :=
  ⟨fun j hj => h.2 j (by omega) (by omega) (by omega) (by omega) (by omega) (by omega) (by omega), fun j hj => h.1 j (by omega) (by omega) (by omega) (by omega) (by omega) (by omega)⟩
theorem xR_A {I' : Nat → Int32} {F' : Nat → Nat → Int32} {nC' : Nat} {made' : Int32} (hx : xR nm M_fuel M_ticks H_made M_depth B_names O_size n_O_bytes f_O_bytes n_Q_links f_Q_links n_Q_pairs n_H_cells I F) (h : frA I F I' F') (hm : made' = I' 38) (hC : nC' = n_H_cells ∨ 2 * n_H_cells ≤ nC' ∨ nC' = 131072) (hC2 : n_H_cells ≤ nC') : xR nm M_fuel M_ticks made' M_depth B_names O_size n_O_bytes f_O_bytes n_Q_links f_Q_links n_Q_pairs nC' I' F' := by
  obtain ⟨qI, qF⟩ := h
  obtain ⟨a1, a2, a3, a4, a5, a6, a7, ⟨w, a8, a9, a10, a11⟩, a12, ⟨b1, b2, b3⟩, a13⟩ := hx
  refine ⟨a1, ?_, ?_, ?_, hm, ?_, ?_, ⟨w, a8, ?_, a10, ?_⟩, a12, ⟨b1, by omega, b3⟩, a13⟩
  · rw [qI 4 (by omega) (by omega) (by omega) (by omega) (by omega) (by omega)]; exact a2
  · rw [qI 36 (by omega) (by omega) (by omega) (by omega) (by omega) (by omega)]; exact a3
  · rw [qI 37 (by omega) (by omega) (by omega) (by omega) (by omega) (by omega)]; exact a4
  · rw [qI 39 (by omega) (by omega) (by omega) (by omega) (by omega) (by omega)]; exact a6
  · rw [qI 49 (by omega) (by omega) (by omega) (by omega) (by omega) (by omega)]; exact a7
  · rw [qI 42 (by omega) (by omega) (by omega) (by omega) (by omega) (by omega)]; exact a9
  · rw [qF 41 (by omega) (by omega) (by omega) (by omega) (by omega) (by omega) (by omega)]; exact a11
set_option maxRecDepth 4000 in
set_option maxHeartbeats 4000000 in
theorem room_ER {n L : Nat} (hN : 400000 ≤ N) (he : eR nk nm nid G lE gg t gs fr gc hn gb gf gr hF hH hP hD S_top S_frames S_handlers n_S_values f_S_values n_S_bases f_S_bases n_S_floors f_S_floors n_S_returns f_S_returns n_S_closures f_S_closures n_S_handlerFrames f_S_handlerFrames n_S_handlerPlaces f_S_handlerPlaces n_S_handlerHeights f_S_handlerHeights n_S_handlerDepths f_S_handlerDepths H_globalsUsed H_used H_old H_oldLeadsToNew f_H_globals n_H_cells f_H_cells n_H_spare) (hr : rR nk nm nid G lR gg t gs fr gc hn gb gf gr hF hH hP hD I F) (hx : xR nm M_fuel M_ticks H_made M_depth B_names O_size n_O_bytes f_O_bytes n_Q_links f_Q_links n_Q_pairs n_H_cells I F) (h43 : I 43 = nI L) (hL : L ≤ 131072) (hn6 : 0 < n) (hn2 : n ≤ 400000) :
    ∃ (b : Nat) (l' l2 : List Nat) (g' cl' va' c' sp' : Nat → Int64) (fresh' made' old' olt' rG' rA' su' : Int32) (nC' nSp' cc ss : Nat) (I' : Nat → Int32) (F' : Nat → Nat → Int32),
      m_Heap_ask N S_top S_frames S_handlers H_globalsUsed H_used H_spareUsed H_old H_oldLeadsToNew (nI L) H_every H_fresh H_made (I 44) H_reachedFromGlobals H_reachedInAll H_keptGlobalsUsed H_kept n_S_values f_S_values n_S_closures f_S_closures 2049 f_H_globals n_H_cells f_H_cells n_H_spare f_H_spare (nI n) (nI n) = some ((nI b, g', cl', va', fresh', made', old', olt', rG', rA', su', nI (tot (gZ G) l'), nC', c', nSp', sp'), cc, ss) ∧ m_Model_makes N I F (nI n) = some (nI b, F', I') ∧
      eR nk nm nid G l' gg t gs fr gc hn gb gf gr hF hH hP hD S_top S_frames S_handlers n_S_values va' n_S_bases f_S_bases n_S_floors f_S_floors n_S_returns f_S_returns n_S_closures cl' n_S_handlerFrames f_S_handlerFrames n_S_handlerPlaces f_S_handlerPlaces n_S_handlerHeights f_S_handlerHeights n_S_handlerDepths f_S_handlerDepths H_globalsUsed (nI (tot (gZ G) l')) old' olt' g' nC' c' nSp' ∧ rR nk nm nid G l2 gg t gs fr gc hn gb gf gr hF hH hP hD I' F' ∧ xR nm M_fuel M_ticks made' M_depth B_names O_size n_O_bytes f_O_bytes n_Q_links f_Q_links n_Q_pairs nC' I' F' ∧ frA I F I' F' ∧
      (ss + 150 * cc + pot 131072 n_H_cells + pot 131072 n_H_spare ≤ pot 131072 nC' + pot 131072 nSp' ∧ n_H_cells ≤ nC') ∧ (b = 0 ∨ b = 1 ∧ tot (gZ G) l' + n ≤ nC' ∧ tot (gZ G) l2 + n ≤ 131072) := by
  have h5 : H_made = I 38 := hx.2.2.2.2.1
  by_cases hc : lg_cmp (H_made.toInt64 + (nI n).toInt64) (I 44).toInt64 ≤ nI 0
  · obtain ⟨b, l', g', cl', va', c', sp', fresh', made', old', olt', rG', rA', su', nC', nSp', cc, ss, a1, a2, a3, a4, a5, a6⟩ := ask_E1 (N := N) (H_spareUsed := H_spareUsed) (H_every := H_every) (H_fresh := H_fresh) (H_made := H_made) (H_madeLimit := I 44) (H_reachedFromGlobals := H_reachedFromGlobals) (H_reachedInAll := H_reachedInAll) (H_keptGlobalsUsed := H_keptGlobalsUsed) (H_kept := H_kept) (f_H_spare := f_H_spare) (n := n) (cnt := n) hN he (by omega) (by omega) hL hn6 hc
    obtain ⟨s1, s2, s3, s4⟩ := he.1
    obtain ⟨F1, I1, l2, b2, r1, r2, r3, r4, r5, r6⟩ := hasRoom_R (N := N) (n := n) (by omega) he.2.2.2.2.2.2 hr.2.2 hr.2.1 s3 s2 hr.1.1 hr.1.2.1 hr.1.2.2.2.2.2.2.1 hr.1.2.2.2.2.2.2.2 h43 hL hn2
    have hr1 := rR_room hr r2 r3 r4 r5
    rw [h5] at hc
    rcases a3 with ⟨rfl, f1, f2, f3, rfl⟩ | ⟨rfl, f1, rfl⟩
    · rcases r6 with ⟨rfl, g1, g2⟩ | ⟨rfl, g1⟩
      · have hfr : frA I F (upd I1 38 (I1 38 + nI n)) F1 := ⟨fun j h3 h8 h29 h38 h50 h51 => by rw [upd_n h38, r4 j h3 h8 h50 h51], fun j h0 h1 h2 h6 h23 h27 h28 => r5 j h0 h1 h2 h6 h23 h28⟩
        refine ⟨1, l', l2, g', cl', va', c', sp', fresh', H_made + nI n, old', olt', rG', rA', su', nC', nSp', cc, ss, _, F1, a1, makes_1 hc r1, a2, rR_38 hr1, xR_A hx hfr ?_ a4 a5, hfr, ⟨a6, a5⟩, Or.inr ⟨rfl, f3, by omega⟩⟩
        rw [upd_e rfl, r4 38 (by omega) (by omega) (by omega) (by omega), h5]
      · exact absurd f1 g1
    · rcases r6 with ⟨rfl, g1, g2⟩ | ⟨rfl, g1⟩
      · exact absurd g1 f1
      · have hfr : frA I F I1 F1 := ⟨fun j h3 h8 h29 h38 h50 h51 => r4 j h3 h8 h50 h51, fun j h0 h1 h2 h6 h23 h27 h28 => r5 j h0 h1 h2 h6 h23 h28⟩
        refine ⟨0, l', l2, g', cl', va', c', sp', fresh', made', old', olt', rG', rA', su', nC', nSp', cc, ss, I1, F1, a1, makes_0 hc r1, a2, hr1, xR_A hx hfr ?_ a4 a5, hfr, ⟨a6, a5⟩, Or.inl rfl⟩
        rw [r4 38 (by omega) (by omega) (by omega) (by omega), h5]
  · have hu : H_used = nI (tot (gZ G) lE) := he.2.2.2.2.1.2.1
    have hc2 := hc
    rw [h5] at hc2
    subst hu
    exact ⟨0, lE, lR, f_H_globals, f_S_closures, f_S_values, f_H_cells, f_H_spare, H_fresh, H_made, H_old, H_oldLeadsToNew, H_reachedFromGlobals, H_reachedInAll, H_spareUsed, n_H_cells, n_H_spare, 0, 0, I, F, ask_F hn6 hn2 hc, makes_F hc2, he, hr, hx, ⟨fun _ _ _ _ _ _ _ => rfl, fun _ _ _ _ _ _ _ _ => rfl⟩, by omega, Or.inl rfl⟩
/-- a primitive on strings -/
theorem pf34_S {a : Int32} {x p L : Nat} {g' cl' va' c' sp' : Nat → Int64} {fresh' made' old' olt' rG' rA' su' used' osz' top' : Int32} {nC' nSp' nO' cc ss : Nat} {fO' : Nat → Int32} (hx16 : x < 16) (ha : ¬ a < (27 : Int32))
    (hf : m_Machine_primitiveFits N S_top S_frames S_handlers M_status (nI p) (nI (p + 2)) M_fuel M_ticks M_depth (I 45) M_done n_S_values f_S_values n_S_floors f_S_floors a = some (nI 1))
    (h : m_Strings_apply N O_size S_top S_frames S_handlers H_globalsUsed H_used H_spareUsed H_old H_oldLeadsToNew (nI L) H_every H_fresh H_made (I 44) H_reachedFromGlobals H_reachedInAll H_keptGlobalsUsed H_kept n_O_bytes f_O_bytes n_S_values f_S_values n_S_closures f_S_closures 2049 f_H_globals n_H_cells f_H_cells n_H_spare f_H_spare a = some ((nI x, g', cl', va', fresh', made', old', olt', rG', rA', su', used', osz', top', nC', c', nSp', sp', nO', fO'), cc, ss)) :
    m_Machine_perform N P_size P_constants P_closed P_open O_size S_top S_frames S_handlers H_globalsUsed H_used H_spareUsed H_old H_oldLeadsToNew (nI L) H_every H_fresh H_made (I 44) H_reachedFromGlobals H_reachedInAll H_keptGlobalsUsed H_kept B_names Q_size M_status (nI p) (nI (p + 2)) M_fuel M_ticks M_depth (I 45) M_done n_P_words f_P_words n_P_bytes f_P_bytes n_P_ends f_P_ends n_O_bytes f_O_bytes n_S_values f_S_values n_S_bases f_S_bases n_S_floors f_S_floors n_S_returns f_S_returns n_S_closures f_S_closures n_S_handlerFrames f_S_handlerFrames n_S_handlerPlaces f_S_handlerPlaces n_S_handlerHeights f_S_handlerHeights n_S_handlerDepths f_S_handlerDepths 2049 f_H_globals n_H_cells f_H_cells n_H_spare f_H_spare n_Q_links f_Q_links n_Q_pairs f_Q_pairs (nI 34) a = some ((nI x, g', Q_size, fresh', H_globalsUsed, made', old', olt', rG', rA', su', used', M_depth, M_fuel, (nI (p + 2)), M_ticks, B_names, osz', S_frames, S_handlers, top', n_Q_links, f_Q_links, n_Q_pairs, f_Q_pairs, nC', c', nSp', sp', nO', fO', n_S_bases, f_S_bases, n_S_closures, cl', n_S_floors, f_S_floors, n_S_handlerDepths, f_S_handlerDepths, n_S_handlerFrames, f_S_handlerFrames, n_S_handlerHeights, f_S_handlerHeights, n_S_handlerPlaces, f_S_handlerPlaces, n_S_returns, f_S_returns, n_S_values, va'), cc, ss) := by
  rw [pf_34, hf, bind_s, if_neg (show ¬ nI 1 = 0 by decide), if_pos (Int32.not_lt.mp ha), h, bind_s]
  dsimp only
  have hs : ∀ (q : Int32) (S_top H_used H_spareUsed H_old H_oldLeadsToNew H_fresh H_made H_reachedFromGlobals H_reachedInAll M_next : Int32) (f_S_values f_H_globals : Nat → Int64), m_Machine_settle N S_top S_frames S_handlers H_globalsUsed H_used H_spareUsed H_old H_oldLeadsToNew (nI L) H_every H_fresh H_made (I 44) H_reachedFromGlobals H_reachedInAll H_keptGlobalsUsed H_kept M_status (nI p) M_next M_fuel M_ticks M_depth (I 45) M_done n_S_values f_S_values n_S_bases f_S_bases n_S_floors f_S_floors n_S_handlerFrames f_S_handlerFrames n_S_handlerPlaces f_S_handlerPlaces n_S_handlerHeights f_S_handlerHeights n_S_handlerDepths f_S_handlerDepths 2049 f_H_globals q (nI x) = some (nI x, f_H_globals, f_S_values, M_depth, M_next, S_frames, S_handlers, S_top) := by
    intros
    unfold m_Machine_settle
    rw [if_neg (show ¬ (16 : Int32) ≤ nI x by rw [show (16 : Int32) = nI 16 from rfl, q_le_f (by omega) (by omega)]; exact id)]
  rw [hs, bind_s]
  dsimp only
  rw [tk_s, Nat.zero_add, Nat.zero_add]
/-- .. that raises -/
theorem pf34_G {q g p L : Nat} (hq : q < 42) (hq27 : 27 ≤ q)
    (hf : m_Machine_primitiveFits N S_top S_frames S_handlers M_status (nI p) (nI (p + 2)) M_fuel M_ticks M_depth (I 45) M_done n_S_values f_S_values n_S_floors f_S_floors (nI q) = some (nI 1))
    (h : m_Strings_apply N O_size S_top S_frames S_handlers H_globalsUsed H_used H_spareUsed H_old H_oldLeadsToNew (nI L) H_every H_fresh H_made (I 44) H_reachedFromGlobals H_reachedInAll H_keptGlobalsUsed H_kept n_O_bytes f_O_bytes n_S_values f_S_values n_S_closures f_S_closures 2049 f_H_globals n_H_cells f_H_cells n_H_spare f_H_spare (nI q) = some ((nI (16 + g), f_H_globals, f_S_closures, f_S_values, H_fresh, H_made, H_old, H_oldLeadsToNew, H_reachedFromGlobals, H_reachedInAll, H_spareUsed, H_used, O_size, S_top, n_H_cells, f_H_cells, n_H_spare, f_H_spare, n_O_bytes, f_O_bytes), 0, 0)) :
    m_Machine_perform N P_size P_constants P_closed P_open O_size S_top S_frames S_handlers H_globalsUsed H_used H_spareUsed H_old H_oldLeadsToNew (nI L) H_every H_fresh H_made (I 44) H_reachedFromGlobals H_reachedInAll H_keptGlobalsUsed H_kept B_names Q_size M_status (nI p) (nI (p + 2)) M_fuel M_ticks M_depth (I 45) M_done n_P_words f_P_words n_P_bytes f_P_bytes n_P_ends f_P_ends n_O_bytes f_O_bytes n_S_values f_S_values n_S_bases f_S_bases n_S_floors f_S_floors n_S_returns f_S_returns n_S_closures f_S_closures n_S_handlerFrames f_S_handlerFrames n_S_handlerPlaces f_S_handlerPlaces n_S_handlerHeights f_S_handlerHeights n_S_handlerDepths f_S_handlerDepths 2049 f_H_globals n_H_cells f_H_cells n_H_spare f_H_spare n_Q_links f_Q_links n_Q_pairs f_Q_pairs (nI 34) (nI q) = (m_Machine_settle N S_top S_frames S_handlers H_globalsUsed H_used H_spareUsed H_old H_oldLeadsToNew (nI L) H_every H_fresh H_made (I 44) H_reachedFromGlobals H_reachedInAll H_keptGlobalsUsed H_kept M_status (nI p) (nI (p + 2)) M_fuel M_ticks M_depth (I 45) M_done n_S_values f_S_values n_S_bases f_S_bases n_S_floors f_S_floors n_S_handlerFrames f_S_handlerFrames n_S_handlerPlaces f_S_handlerPlaces n_S_handlerHeights f_S_handlerHeights n_S_handlerDepths f_S_handlerDepths 2049 f_H_globals (nI q) (nI (16 + g))).bind fun (z50_1, z50_2, z50_3, z50_4, z50_5, z50_6, z50_7, z50_8) => some ((z50_1, z50_2, Q_size, H_fresh, H_globalsUsed, H_made, H_old, H_oldLeadsToNew, H_reachedFromGlobals, H_reachedInAll, H_spareUsed, H_used, z50_4, M_fuel, z50_5, M_ticks, B_names, O_size, z50_6, z50_7, z50_8, n_Q_links, f_Q_links, n_Q_pairs, f_Q_pairs, n_H_cells, f_H_cells, n_H_spare, f_H_spare, n_O_bytes, f_O_bytes, n_S_bases, f_S_bases, n_S_closures, f_S_closures, n_S_floors, f_S_floors, n_S_handlerDepths, f_S_handlerDepths, n_S_handlerFrames, f_S_handlerFrames, n_S_handlerHeights, f_S_handlerHeights, n_S_handlerPlaces, f_S_handlerPlaces, n_S_returns, f_S_returns, n_S_values, z50_3), 0, 0) := by
  have ha : (27 : Int32) ≤ nI q := by rw [show (27 : Int32) = nI 27 from rfl, q_le_t (by omega) (by omega)]; exact True.intro
  rw [pf_34, hf, bind_s, if_neg (show ¬ nI 1 = 0 by decide), if_pos ha, h, bind_s]
  dsimp only
  cases m_Machine_settle N S_top S_frames S_handlers H_globalsUsed H_used H_spareUsed H_old H_oldLeadsToNew (nI L) H_every H_fresh H_made (I 44) H_reachedFromGlobals H_reachedInAll H_keptGlobalsUsed H_kept M_status (nI p) (nI (p + 2)) M_fuel M_ticks M_depth (I 45) M_done n_S_values f_S_values n_S_bases f_S_bases n_S_floors f_S_floors n_S_handlerFrames f_S_handlerFrames n_S_handlerPlaces f_S_handlerPlaces n_S_handlerHeights f_S_handlerHeights n_S_handlerDepths f_S_handlerDepths 2049 f_H_globals (nI q) (nI (16 + g)) with
  | none => rfl
  | some z => rfl
/-- no room -/
theorem no_op {pf rs} {p : Nat} {l' l2 : List Nat} {g' cl' va' c' sp' : Nat → Int64} {fresh' made' old' olt' rG' rA' su' used' : Int32} {nC' nSp' cc ss : Nat} {I' : Nat → Int32} {F' : Nat → Nat → Int32}
    (he : eR nk nm nid G l' gg t gs fr gc hn gb gf gr hF hH hP hD S_top S_frames S_handlers n_S_values va' n_S_bases f_S_bases n_S_floors f_S_floors n_S_returns f_S_returns n_S_closures cl' n_S_handlerFrames f_S_handlerFrames n_S_handlerPlaces f_S_handlerPlaces n_S_handlerHeights f_S_handlerHeights n_S_handlerDepths f_S_handlerDepths H_globalsUsed used' old' olt' g' nC' c' nSp') (hr : rR nk nm nid G l2 gg t gs fr gc hn gb gf gr hF hH hP hD I' F') (hx : xR nm M_fuel M_ticks made' M_depth B_names O_size n_O_bytes f_O_bytes n_Q_links f_Q_links n_Q_pairs nC' I' F') (hf : frA I F I' F') (hc : ss + 150 * cc + pot 131072 n_H_cells + pot 131072 n_H_spare ≤ pot 131072 nC' + pot 131072 nSp' ∧ n_H_cells ≤ nC')
    (hp : pf = some ((nI 3, g', Q_size, fresh', H_globalsUsed, made', old', olt', rG', rA', su', used', M_depth, M_fuel, (nI (p + 2)), M_ticks, B_names, O_size, S_frames, S_handlers, S_top, n_Q_links, f_Q_links, n_Q_pairs, f_Q_pairs, nC', c', nSp', sp', n_O_bytes, f_O_bytes, n_S_bases, f_S_bases, n_S_closures, cl', n_S_floors, f_S_floors, n_S_handlerDepths, f_S_handlerDepths, n_S_handlerFrames, f_S_handlerFrames, n_S_handlerHeights, f_S_handlerHeights, n_S_handlerPlaces, f_S_handlerPlaces, n_S_returns, f_S_returns, n_S_values, va'), cc, ss)) (hq : rs = some (nI 3, F', I')) :
    opR nm n_H_cells I F (potE n_S_values n_S_bases n_S_handlerFrames n_H_cells n_H_spare n_Q_links n_Q_pairs n_O_bytes) pf rs :=
  ⟨nI 3, _, _, _, _, _, _, _, _, _, _, _, _, _, _, _, _, _, _, _, _, _, _, _, _, _, _, _, _, _, _, _, _, _, _, _, _, _, _, _, _, _, _, _, _, _, _, _, _, cc, ss, I', F', hp, hq, ⟨nk, nm, nid, G, l', l2, gg, by omega, he.2.2.2.2.1, hr.2.2, he.2.1, hx, frm_A hf, he.2.2.1.1.trans hr.1.1.symm, he.2.2.1.2.1.trans hr.1.2.1.symm, he.2.2.1.2.2.1.trans hr.1.2.2.1.symm, by unfold potE; omega, Or.inr (Or.inr ⟨Or.inr (Or.inl rfl), hf.1 35 (by omega) (by omega) (by omega) (by omega) (by omega) (by omega)⟩)⟩⟩
/-- made: the k values on top have become one -/
theorem yes_op {pf rs} {k p nid2 : Nat} {v : AV} {G2 : Nat → GO} {l' l2 : List Nat} {g' cl' va' c' sp' : Nat → Int64} {fresh' made' old' olt' rG' rA' su' used' : Int32} {nC' nSp' cc ss : Nat} {I1 I' : Nat → Int32} {F1 F' : Nat → Nat → Int32} (h35 : I 35 = nI p)
    (he : eR nk nm nid2 G2 l' gg t gs fr gc hn gb gf gr hF hH hP hD S_top S_frames S_handlers n_S_values va' n_S_bases f_S_bases n_S_floors f_S_floors n_S_returns f_S_returns n_S_closures cl' n_S_handlerFrames f_S_handlerFrames n_S_handlerPlaces f_S_handlerPlaces n_S_handlerHeights f_S_handlerHeights n_S_handlerDepths f_S_handlerDepths H_globalsUsed used' old' olt' g' nC' c' nSp') (hr : rR nk nm nid2 G2 l2 gg t gs fr gc hn gb gf gr hF hH hP hD I' F') (hx : xR nm M_fuel M_ticks made' M_depth B_names O_size n_O_bytes f_O_bytes n_Q_links f_Q_links n_Q_pairs nC' I1 F1) (hf : frA I F I1 F1) (hI : ∀ j, j ≠ 3 → I' j = I1 j) (hF2 : ∀ j, j ≠ 0 → j ≠ 1 → F' j = F1 j) (hc : ss + 150 * cc + pot 131072 n_H_cells + pot 131072 n_H_spare ≤ pot 131072 nC' + pot 131072 nSp' ∧ n_H_cells ≤ nC')
    (hk : 1 ≤ k) (hkt : gf (fr - 1) + k ≤ t) (hvE : okV nk nm l' v) (hvR : okV nk nm l2 v)
    (hp : m_Stacks_replace N S_top S_frames S_handlers n_S_values va' (nI k) (wE G2 l' v) = some (nI 5, vp_updL va' (t - k) (wE G2 l' v), nI (t - k + 1)) → pf = some ((nI 5, g', Q_size, fresh', H_globalsUsed, made', old', olt', rG', rA', su', used', M_depth, M_fuel, (nI (p + 2)), M_ticks, B_names, O_size, S_frames, S_handlers, (nI (t - k + 1)), n_Q_links, f_Q_links, n_Q_pairs, f_Q_pairs, nC', c', nSp', sp', n_O_bytes, f_O_bytes, n_S_bases, f_S_bases, n_S_closures, cl', n_S_floors, f_S_floors, n_S_handlerDepths, f_S_handlerDepths, n_S_handlerFrames, f_S_handlerFrames, n_S_handlerHeights, f_S_handlerHeights, n_S_handlerPlaces, f_S_handlerPlaces, n_S_returns, f_S_returns, n_S_values, (vp_updL va' (t - k) (wE G2 l' v))), cc, ss))
    (hq : ∀ F2 I2, m_Model_give N I' F' (nI k) (tR v) (vR G2 l2 v) = some (nI 5, F2, I2) → rs = some (nI 5, F2, upd I2 35 (I2 35 + nI 2))) :
    opR nm n_H_cells I F (potE n_S_values n_S_bases n_S_handlerFrames n_H_cells n_H_spare n_Q_links n_Q_pairs n_O_bytes) pf rs := by
  have hs := he.1.2.2.1
  obtain ⟨a1, a2⟩ := eR_repl (N := N) he hk hkt hvE
  obtain ⟨F2, I2, b1, b2, b3, b4⟩ := give_R (N := N) hr (k := k) (by omega) (by omega) hs hvR
  have hI2 : ∀ j, j ≠ 3 → j ≠ 29 → I2 j = I1 j := fun j h3 h29 => by rw [b3 j h29, hI j h3]
  have hF3 : ∀ j, j ≠ 0 → j ≠ 1 → j ≠ 27 → j ≠ 28 → F2 j = F1 j := fun j h0 h1 h27 h28 => by rw [b4 j h27 h28, hF2 j h0 h1]
  have e35 : I2 35 = nI p := by rw [hI2 35 (by omega) (by omega), hf.1 35 (by omega) (by omega) (by omega) (by omega) (by omega) (by omega), h35]
  refine ⟨nI 5, _, _, _, _, _, _, _, _, _, _, _, _, _, _, _, _, _, _, _, _, _, _, _, _, _, _, _, _, _, _, _, _, _, _, _, _, _, _, _, _, _, _, _, _, _, _, _, _, cc, ss, _, F2, hp a1, hq _ _ b1, ?_⟩
  refine pst_on a2 (rR_35 b2 _) (xR_c hx (fun j hj => by rw [upd_n (by omega), hI2 j (by omega) (by omega)]) (hF3 41 (by omega) (by omega) (by omega) (by omega))) (by omega) ⟨fun j hj => ?_, fun j hj => ?_⟩ ?_ (by unfold potE; omega)
  · rw [hF3 j (by omega) (by omega) (by omega) (by omega)]
    exact hf.2 j (by omega) (by omega) (by omega) (by omega) (by omega) (by omega) (by omega)
  · rw [upd_n (by omega), hI2 j (by omega) (by omega)]
    exact hf.1 j (by omega) (by omega) (by omega) (by omega) (by omega) (by omega)
  · rw [upd_e rfl, e35, q_add]
end RM
