/-! Looking at values: look, byteOf, same -/
section LK
variable {N : Nat}
variable {nk : Nat → Nat} {nm : Nat} {nid : Nat} {G : Nat → GO} {lE : List Nat} {gg : Nat → AV} {t : Nat} {gs : Nat → AV} {fr : Nat} {gc : Nat → AV} {hn : Nat} {gb : Nat → Nat} {gf : Nat → Nat} {gr : Nat → Int32} {hF : Nat → Nat} {hH : Nat → Nat} {hP : Nat → Int32} {hD : Nat → Int32} {lR : List Nat} {P_size : Int32} {P_constants : Int32} {P_closed : Int32} {P_open : Int32} {O_size : Int32} {S_top : Int32} {S_frames : Int32} {S_handlers : Int32} {H_globalsUsed : Int32} {H_used : Int32} {H_spareUsed : Int32} {H_old : Int32} {H_oldLeadsToNew : Int32} {H_limit : Int32} {H_every : Int32} {H_fresh : Int32} {H_made : Int32} {H_madeLimit : Int32} {H_reachedFromGlobals : Int32} {H_reachedInAll : Int32} {H_keptGlobalsUsed : Int32} {H_kept : Int32} {B_names : Int32} {Q_size : Int32} {M_status : Int32} {M_place : Int32} {M_next : Int32} {M_fuel : Int32} {M_ticks : Int32} {M_depth : Int32} {M_depthLimit : Int32} {M_done : Int32} {n_P_words : Nat} {f_P_words : Nat → Int32} {n_P_bytes : Nat} {f_P_bytes : Nat → Int32} {n_P_ends : Nat} {f_P_ends : Nat → Int32} {n_O_bytes : Nat} {f_O_bytes : Nat → Int32} {n_S_values : Nat} {f_S_values : Nat → Int64} {n_S_bases : Nat} {f_S_bases : Nat → Int32} {n_S_floors : Nat} {f_S_floors : Nat → Int32} {n_S_returns : Nat} {f_S_returns : Nat → Int32} {n_S_closures : Nat} {f_S_closures : Nat → Int64} {n_S_handlerFrames : Nat} {f_S_handlerFrames : Nat → Int32} {n_S_handlerPlaces : Nat} {f_S_handlerPlaces : Nat → Int32} {n_S_handlerHeights : Nat} {f_S_handlerHeights : Nat → Int32} {n_S_handlerDepths : Nat} {f_S_handlerDepths : Nat → Int32} {n_H_globals : Nat} {f_H_globals : Nat → Int64} {n_H_cells : Nat} {f_H_cells : Nat → Int64} {n_H_spare : Nat} {f_H_spare : Nat → Int64} {n_Q_links : Nat} {f_Q_links : Nat → Int32} {n_Q_pairs : Nat} {f_Q_pairs : Nat → Int64} {I : Nat → Int32} {F : Nat → Nat → Int32}
def fnd (G : Nat → GO) (gg : Nat → AV) (i : Int32) (x : Int64) : Option AV := if i < -1 then none else if i < 2048 then fpt G x 8 0 (gg (if i = -1 then 2048 else i.toNatClampNeg)) else none
theorem fnd_E {i : Int32} {x : Int64} (hN : 400000 ≤ N) (h : hpE nk nm nid G lE gg H_globalsUsed H_used H_old H_oldLeadsToNew f_H_globals f_H_cells n_H_cells) (hC : n_H_cells ≤ 131072) (hn' : nm < 134217728) : (∀ u, fnd G gg i x = some u → okV nk nm lE u) ∧ ∀ (H_globalsUsed : Int32) (H_used : Int32) (H_spareUsed : Int32) (H_old : Int32) (H_oldLeadsToNew : Int32) (H_limit : Int32) (H_every : Int32) (H_fresh : Int32) (H_made : Int32) (H_madeLimit : Int32) (H_reachedFromGlobals : Int32) (H_reachedInAll : Int32) (H_keptGlobalsUsed : Int32) (H_kept : Int32), m_Heap_find N H_globalsUsed H_used H_spareUsed H_old H_oldLeadsToNew H_limit H_every H_fresh H_made H_madeLimit H_reachedFromGlobals H_reachedInAll H_keptGlobalsUsed H_kept 2049 f_H_globals n_H_cells f_H_cells i x = some (match fnd G gg i x with | some u => wE G lE u | none => -9223372036854775808) := by
  obtain ⟨g1, g2, g3, g4, g5, g6⟩ := h
  unfold fnd
  by_cases c0 : i < -1
  · rw [if_pos c0]
    refine ⟨fun u hu => (by cases hu), ?_⟩
    intros
    unfold m_Heap_find
    rw [if_pos c0]
  · rw [if_neg c0]
    by_cases c1 : i < 2048
    · rw [if_pos c1]
      by_cases c2 : i = -1
      · rw [if_pos c2]
        obtain ⟨p1, p2⟩ := g5 2048 (by omega)
        have hf := find2 (N := N) (x := x) g1 g3 hC g4 hn' N 0 (gg 2048) (by omega) (by omega) p2
        refine ⟨hf.1, ?_⟩
        intros
        unfold m_Heap_find
        rw [if_neg c0, if_pos c1, if_pos c2, if_neg (show ¬ ((2048 : Int32) < 0 ∨ 2049 ≤ (2048 : Int32).toNatClampNeg) by decide), show f_H_globals (2048 : Int32).toNatClampNeg = wE G lE (gg 2048) from p1]
        exact hf.2 ..
      · rw [if_neg c2]
        have hi : ¬ i < 0 := by
          intro h
          have h1 := Int32.lt_iff_toInt_lt.mp h
          have h2 : ¬ i.toInt < -1 := fun h => c0 (Int32.lt_iff_toInt_lt.mpr h)
          have h3 : i.toInt ≠ -1 := fun h => c2 (Int32.toInt_inj.mp h)
          have h1 : i.toInt < 0 := h1
          omega
        obtain ⟨n, hn6, rfl⟩ := nI_of hi
        have hn7 : n < 2048 := by
          by_cases hh : n < 2048
          · exact hh
          · rw [show (2048 : Int32) = nI 2048 from rfl, q_lt_f (by omega) (by omega)] at c1
            exact c1.elim
        rw [q_cl (by omega)]
        obtain ⟨p1, p2⟩ := g5 n (by omega)
        have hf := find1 (N := N) (x := x) g1 g3 hC g4 hn' N 0 (gg n) (by omega) (by omega) p2
        refine ⟨hf.1, ?_⟩
        intros
        unfold m_Heap_find
        rw [if_neg c0, if_pos c1, if_neg c2, if_neg (bd_n (by omega) (by omega)), q_cl (by omega), p1]
        exact hf.2 ..
    · rw [if_neg c1]
      refine ⟨fun u hu => (by cases hu), ?_⟩
      intros
      unfold m_Heap_find
      rw [if_neg c0, if_neg c1]
theorem fnd_R {i : Int32} {x : Int64} (hN : 400000 ≤ N) (h : hpR nk nm nid G lR gg I F) : ∃ J', (∀ j, j ≠ 52 → j ≠ 53 → J' j = I j) ∧ m_Model_find N I F i x = some (match fnd G gg i x with | some _ => 1 | none => 0, J') ∧ ∀ u, fnd G gg i x = some u → okV nk nm lR u ∧ J' 52 = tR u ∧ J' 53 = vR G lR u := by
  have h' := h
  obtain ⟨c1, c2, c3, c4, c5, c6, c7, c8, c9, c10⟩ := h'
  unfold fnd
  by_cases e0 : i < -1
  · rw [if_pos e0]
    refine ⟨I, fun _ _ _ => rfl, ?_, fun u hu => by cases hu⟩
    unfold m_Model_find
    rw [if_pos e0]
  · rw [if_neg e0]
    by_cases e1 : i < 2048
    · rw [if_pos e1]
      by_cases e2 : i = -1
      · rw [if_pos e2]
        have e3 : ¬ 0 ≤ i := by rw [e2]; decide
        obtain ⟨J', d1, d2, d3⟩ := find3 (N := N) (x := x) h N 0 (gg 2048) (upd (upd I 52 (I 7)) 53 (upd I 52 (I 7) 8)) (by omega) (by omega) (c7 2048 (by omega)) (by rw [upd_n (by omega), upd_e rfl]; exact c9) (by rw [upd_e rfl, upd_n (by omega)]; exact c10)
        refine ⟨J', fun j j52 j53 => by rw [d1 j j52 j53, upd_n j53, upd_n j52], ?_, d3⟩
        unfold m_Model_find lm_Model_find_1 lm_Model_find_2
        rw [if_neg e0, if_pos e1, if_neg e3]
        dsimp only
        rw [let_d, if_neg e3, let_d]
        exact d2
      · rw [if_neg e2]
        have hi : ¬ i < 0 := by
          intro h
          have h1 := Int32.lt_iff_toInt_lt.mp h
          have h2 : ¬ i.toInt < -1 := fun h => e0 (Int32.lt_iff_toInt_lt.mpr h)
          have h3 : i.toInt ≠ -1 := fun h => e2 (Int32.toInt_inj.mp h)
          have h1 : i.toInt < 0 := h1
          omega
        obtain ⟨n, hn6, rfl⟩ := nI_of hi
        have hn7 : n < 2048 := by
          by_cases hh : n < 2048
          · exact hh
          · rw [show (2048 : Int32) = nI 2048 from rfl, q_lt_f (by omega) (by omega)] at e1
            exact e1.elim
        rw [q_cl (by omega)]
        obtain ⟨p1, p2⟩ := c8 n hn7
        have e3 : (0 : Int32) ≤ nI n := Int32.not_lt.mp hi
        have z : ¬ (nI n < 0 ∨ 2048 ≤ (nI n).toNatClampNeg) := bd_n (by omega) (by omega)
        obtain ⟨J', d1, d2, d3⟩ := find3 (N := N) (x := x) h N 0 (gg n) (upd (upd I 52 (F 5 n)) 53 (F 6 n)) (by omega) (by omega) (c7 n (by omega)) (by rw [upd_n (by omega), upd_e rfl]; exact p1) (by rw [upd_e rfl]; exact p2)
        refine ⟨J', fun j j52 j53 => by rw [d1 j j52 j53, upd_n j53, upd_n j52], ?_, d3⟩
        unfold m_Model_find lm_Model_find_1 lm_Model_find_2
        rw [if_neg e0, if_pos e1, if_pos e3, if_neg z]
        dsimp only
        rw [let_d, if_pos e3, if_neg z, let_d, q_cl (by omega)]
        exact d2
    · rw [if_neg e1]
      refine ⟨I, fun _ _ _ => rfl, ?_, fun u hu => by cases hu⟩
      unfold m_Model_find
      rw [if_neg e0, if_neg e1]
theorem nw_ne {l : List Nat} {u : AV} (hG : wf nk nm nid G l) (hu : okV nk nm l u) : ¬ lg_cmp (wE G l u) (-9223372036854775808) = 0 := by
  intro h
  have h := (lg_cmp_eq _ _).mp h
  have h8 := kV_8 hG hu
  have hk := congrArg kdW h
  rw [kd_wE h8, show kdW (-9223372036854775808) = nI 0 by decide +kernel] at hk
  have hk0 : kV G u = 0 := (nI_eq (by omega) (by omega)).mp hk
  obtain ⟨n, rfl⟩ := kV_sc hG hu hk0
  have h2 := congrArg Int64.toInt (show scW n = -9223372036854775808 from h)
  rw [scW_toInt, show (-9223372036854775808 : Int64).toInt = -9223372036854775808 by decide +kernel] at h2
  have := i32_bd n
  omega
theorem same_ER {i j : Int32} {x y : Int64} (hN : 400000 ≤ N) (h : hpE nk nm nid G lE gg H_globalsUsed H_used H_old H_oldLeadsToNew f_H_globals f_H_cells n_H_cells) (hC : n_H_cells ≤ 131072) (hn' : nm < 134217728) (hr : hpR nk nm nid G lR gg I F) : ∃ r J', (∀ (H_spareUsed : Int32) (H_limit : Int32) (H_every : Int32) (H_fresh : Int32) (H_made : Int32) (H_madeLimit : Int32) (H_reachedFromGlobals : Int32) (H_reachedInAll : Int32) (H_keptGlobalsUsed : Int32) (H_kept : Int32), m_Engine_same N H_globalsUsed H_used H_spareUsed H_old H_oldLeadsToNew H_limit H_every H_fresh H_made H_madeLimit H_reachedFromGlobals H_reachedInAll H_keptGlobalsUsed H_kept 2049 f_H_globals n_H_cells f_H_cells i x j y = some r) ∧ m_Model_same N I F i x j y = some (r, J') ∧ ∀ k, k ≠ 52 → k ≠ 53 → J' k = I k := by
  have hG := h.1
  have hT := h.2.2.1
  obtain ⟨a1, a2⟩ := fnd_E (N := N) (i := i) (x := x) hN h hC hn'
  obtain ⟨b1, b2⟩ := fnd_E (N := N) (i := j) (x := y) hN h hC hn'
  obtain ⟨J1, c1, c2, c3⟩ := fnd_R (N := N) (i := i) (x := x) hN hr
  have hr1 : hpR nk nm nid G lR gg J1 F := by
    obtain ⟨d1, d2, d3, d4, d5, d6, d7, d8, d9, d10⟩ := hr
    exact ⟨d1, d2, by rw [c1 3 (by omega) (by omega)]; exact d3, d4, d5, d6, d7, d8, by rw [c1 7 (by omega) (by omega)]; exact d9, by rw [c1 8 (by omega) (by omega)]; exact d10⟩
  obtain ⟨J2, e1, e2, e3⟩ := fnd_R (N := N) (i := j) (x := y) hN hr1
  have hfr : ∀ k, k ≠ 52 → k ≠ 53 → J2 k = I k := fun k h52 h53 => by rw [e1 k h52 h53, c1 k h52 h53]
  cases hu : fnd G gg i x with
  | none =>
    rw [hu] at a2 c2
    try dsimp only at a2 c2
    refine ⟨0, J1, ?_, ?_, c1⟩
    · intros
      unfold m_Engine_same
      rw [a2, bind_s, if_pos ((lg_cmp_eq _ _).mpr rfl)]
    · unfold m_Model_same
      rw [c2, bind_s]
      exact if_pos rfl
  | some u =>
    rw [hu] at a2 c2
    try dsimp only at a2 c2
    have hne := nw_ne hG (a1 u hu)
    cases hw : fnd G gg j y with
    | none =>
      rw [hw] at b2 e2
      try dsimp only at b2 e2
      refine ⟨0, J2, ?_, ?_, hfr⟩
      · intros
        unfold m_Engine_same
        rw [a2, bind_s, if_neg hne, b2, bind_s, if_neg hne]
      · unfold m_Model_same
        rw [c2, bind_s]
        refine (if_neg (by decide)).trans ?_
        rw [e2, bind_s]
        exact if_pos rfl
    | some w =>
      rw [hw] at b2 e2
      try dsimp only at b2 e2
      obtain ⟨k1, k2, k3⟩ := c3 u hu
      obtain ⟨m1, m2, m3⟩ := e3 w hw
      by_cases huw : u = w
      · subst huw
        refine ⟨1, J2, ?_, ?_, hfr⟩
        · intros
          unfold m_Engine_same
          rw [a2, bind_s, if_neg hne, b2, bind_s, if_pos ((lg_cmp_eq _ _).mpr rfl)]
        · unfold m_Model_same
          rw [c2, bind_s]
          refine (if_neg (by decide)).trans ?_
          rw [e2, bind_s]
          refine (if_neg (by decide)).trans ?_
          rw [k2, k3, m2, m3, areSame_t, bind_s, if_neg (show ¬ nI 1 = 0 by decide)]
      · refine ⟨0, J2, ?_, ?_, hfr⟩
        · intros
          unfold m_Engine_same
          rw [a2, bind_s, if_neg hne, b2, bind_s, if_neg (fun h => huw (wE_inj hG (a1 u hu) (b1 w hw) hn' (by omega) ((lg_cmp_eq _ _).mp h)))]
        · unfold m_Model_same
          rw [c2, bind_s]
          refine (if_neg (by decide)).trans ?_
          rw [e2, bind_s]
          refine (if_neg (by decide)).trans ?_
          rw [k2, k3, m2, m3, areSame_f hr.1 k1 m1 hn' hr.2.2.2.1 huw, bind_s, if_pos (show nI 0 = 0 from rfl)]
end LK
