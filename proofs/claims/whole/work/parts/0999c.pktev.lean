/-! packet, evaluated -/
section PK
variable {N : Nat}
variable {nk : Nat → Nat} {nm : Nat} {nid : Nat} {G : Nat → GO} {lE : List Nat} {gg : Nat → AV} {t : Nat} {gs : Nat → AV} {fr : Nat} {gc : Nat → AV} {hn : Nat} {gb : Nat → Nat} {gf : Nat → Nat} {gr : Nat → Int32} {hF : Nat → Nat} {hH : Nat → Nat} {hP : Nat → Int32} {hD : Nat → Int32} {lR : List Nat} {P_size : Int32} {P_constants : Int32} {P_closed : Int32} {P_open : Int32} {O_size : Int32} {S_top : Int32} {S_frames : Int32} {S_handlers : Int32} {H_globalsUsed : Int32} {H_used : Int32} {H_spareUsed : Int32} {H_old : Int32} {H_oldLeadsToNew : Int32} {H_limit : Int32} {H_every : Int32} {H_fresh : Int32} {H_made : Int32} {H_madeLimit : Int32} {H_reachedFromGlobals : Int32} {H_reachedInAll : Int32} {H_keptGlobalsUsed : Int32} {H_kept : Int32} {B_names : Int32} {Q_size : Int32} {M_status : Int32} {M_place : Int32} {M_next : Int32} {M_fuel : Int32} {M_ticks : Int32} {M_depth : Int32} {M_depthLimit : Int32} {M_done : Int32} {n_P_words : Nat} {f_P_words : Nat → Int32} {n_P_bytes : Nat} {f_P_bytes : Nat → Int32} {n_P_ends : Nat} {f_P_ends : Nat → Int32} {n_O_bytes : Nat} {f_O_bytes : Nat → Int32} {n_S_values : Nat} {f_S_values : Nat → Int64} {n_S_bases : Nat} {f_S_bases : Nat → Int32} {n_S_floors : Nat} {f_S_floors : Nat → Int32} {n_S_returns : Nat} {f_S_returns : Nat → Int32} {n_S_closures : Nat} {f_S_closures : Nat → Int64} {n_S_handlerFrames : Nat} {f_S_handlerFrames : Nat → Int32} {n_S_handlerPlaces : Nat} {f_S_handlerPlaces : Nat → Int32} {n_S_handlerHeights : Nat} {f_S_handlerHeights : Nat → Int32} {n_S_handlerDepths : Nat} {f_S_handlerDepths : Nat → Int32} {n_H_globals : Nat} {f_H_globals : Nat → Int64} {n_H_cells : Nat} {f_H_cells : Nat → Int64} {n_H_spare : Nat} {f_H_spare : Nat → Int64} {n_Q_links : Nat} {f_Q_links : Nat → Int32} {n_Q_pairs : Nat} {f_Q_pairs : Nat → Int64} {I : Nat → Int32} {F : Nat → Nat → Int32}
theorem packet_ev0 {w : Int64} {g' cl' va' c' sp' : Nat → Int64} {fresh' made' old' olt' rG' rA' su' used' : Int32} {nC' nSp' cc ss : Nat} (h1 : m_Stacks_peek N S_top S_frames S_handlers n_S_values f_S_values 1 = some w) (h2 : m_Value_kind N w = some 1) (h3 : m_Heap_ask N S_top S_frames S_handlers H_globalsUsed H_used H_spareUsed H_old H_oldLeadsToNew H_limit H_every H_fresh H_made H_madeLimit H_reachedFromGlobals H_reachedInAll H_keptGlobalsUsed H_kept n_S_values f_S_values n_S_closures f_S_closures n_H_globals f_H_globals n_H_cells f_H_cells n_H_spare f_H_spare 2 0 = some ((0, g', cl', va', fresh', made', old', olt', rG', rA', su', used', nC', c', nSp', sp'), cc, ss)) :
    m_Objects_packet N S_top S_frames S_handlers H_globalsUsed H_used H_spareUsed H_old H_oldLeadsToNew H_limit H_every H_fresh H_made H_madeLimit H_reachedFromGlobals H_reachedInAll H_keptGlobalsUsed H_kept B_names n_S_values f_S_values n_S_closures f_S_closures n_H_globals f_H_globals n_H_cells f_H_cells n_H_spare f_H_spare = some ((3, g', cl', va', fresh', made', old', olt', rG', rA', su', used', S_top, nC', c', nSp', sp'), cc, ss) := by
  unfold m_Objects_packet
  rw [h1, bind_s, h2, bind_s, if_pos rfl, h3, bind_s]
  dsimp only
  rw [if_pos rfl, tk_s, Nat.zero_add, Nat.zero_add]
theorem packet_ev1 {w w1 w0 wh wo : Int64} {g' cl' va' c' sp' va2 : Nat → Int64} {fresh' made' old' olt' rG' rA' su' used' top2 st2 : Int32} {nC' nSp' cc ss u : Nat} (h1 : m_Stacks_peek N S_top S_frames S_handlers n_S_values f_S_values 1 = some w) (h2 : m_Value_kind N w = some 1) (h3 : m_Heap_ask N S_top S_frames S_handlers H_globalsUsed H_used H_spareUsed H_old H_oldLeadsToNew H_limit H_every H_fresh H_made H_madeLimit H_reachedFromGlobals H_reachedInAll H_keptGlobalsUsed H_kept n_S_values f_S_values n_S_closures f_S_closures n_H_globals f_H_globals n_H_cells f_H_cells n_H_spare f_H_spare 2 0 = some ((1, g', cl', va', fresh', made', old', olt', rG', rA', su', used', nC', c', nSp', sp'), cc, ss))
    (h4 : m_Stacks_peek N S_top S_frames S_handlers n_S_values va' 1 = some w1) (h5 : m_Value_withKind N w1 7 = some wh) (hu : used' = nI u) (hu2 : u + 1 < nC') (hC : nC' ≤ 131072) (h6 : m_Stacks_peek N S_top S_frames S_handlers n_S_values va' 0 = some w0) (h7 : m_Value_object N 7 used' = some wo) (h8 : m_Stacks_replace N S_top S_frames S_handlers n_S_values va' 2 wo = some (st2, va2, top2)) :
    m_Objects_packet N S_top S_frames S_handlers H_globalsUsed H_used H_spareUsed H_old H_oldLeadsToNew H_limit H_every H_fresh H_made H_madeLimit H_reachedFromGlobals H_reachedInAll H_keptGlobalsUsed H_kept B_names n_S_values f_S_values n_S_closures f_S_closures n_H_globals f_H_globals n_H_cells f_H_cells n_H_spare f_H_spare = some ((st2, g', cl', va2, fresh' + 2, made', old', olt', rG', rA', su', used' + 2, top2, nC', vp_updL (vp_updL c' u wh) (u + 1) w0, nSp', sp'), cc, ss) := by
  have e0 : ¬ (used' < 0 ∨ nC' ≤ used'.toNatClampNeg) := by
    rw [hu, q_cl (by omega)]
    intro h
    rcases h with h | h
    · exact nI_pos (by omega) h
    · omega
  have hul : used'.toNatClampNeg = u := by rw [hu, q_cl (by omega)]
  have e1 : used' + 1 = nI (u + 1) := by rw [hu]; exact nI_1 u
  have e2 : ¬ (used' + 1 < 0 ∨ nC' ≤ (used' + 1).toNatClampNeg) := by
    rw [e1, q_cl (by omega)]
    intro h
    rcases h with h | h
    · exact nI_pos (by omega) h
    · omega
  have hlay : ∀ a b c d e f g h i j k l, m_Heap_lay N a used' b c d e f fresh' g h i j k l nC' c' wh 2 = some (used', vp_updL c' u wh, fresh' + 2, used' + 2) := by
    intros
    unfold m_Heap_lay
    rw [if_neg e0, hul]
  unfold m_Objects_packet
  rw [h1, bind_s, h2, bind_s, if_pos rfl, h3, bind_s]
  dsimp only
  rw [if_neg (by decide), h4, bind_s, h5, bind_s, hlay, bind_s]
  dsimp only
  rw [h6, bind_s, if_neg e2, h7, bind_s, h8, bind_s]
  dsimp only
  rw [tk_s, Nat.zero_add, Nat.zero_add, e1, q_cl (by omega)]
end PK
