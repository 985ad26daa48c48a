/-! EQUAL on the engine's side: parts, pairs, whole -/
section HO
variable {N : Nat}
variable {nk : Nat → Nat} {nm : Nat} {nid : Nat} {G : Nat → GO} {lE : List Nat} {gg : Nat → AV} {t : Nat} {gs : Nat → AV} {fr : Nat} {gc : Nat → AV} {hn : Nat} {gb : Nat → Nat} {gf : Nat → Nat} {gr : Nat → Int32} {hF : Nat → Nat} {hH : Nat → Nat} {hP : Nat → Int32} {hD : Nat → Int32} {lR : List Nat} {P_size : Int32} {P_constants : Int32} {P_closed : Int32} {P_open : Int32} {O_size : Int32} {S_top : Int32} {S_frames : Int32} {S_handlers : Int32} {H_globalsUsed : Int32} {H_used : Int32} {H_spareUsed : Int32} {H_old : Int32} {H_oldLeadsToNew : Int32} {H_limit : Int32} {H_every : Int32} {H_fresh : Int32} {H_made : Int32} {H_madeLimit : Int32} {H_reachedFromGlobals : Int32} {H_reachedInAll : Int32} {H_keptGlobalsUsed : Int32} {H_kept : Int32} {B_names : Int32} {Q_size : Int32} {M_status : Int32} {M_place : Int32} {M_next : Int32} {M_fuel : Int32} {M_ticks : Int32} {M_depth : Int32} {M_depthLimit : Int32} {M_done : Int32} {n_P_words : Nat} {f_P_words : Nat → Int32} {n_P_bytes : Nat} {f_P_bytes : Nat → Int32} {n_P_ends : Nat} {f_P_ends : Nat → Int32} {n_O_bytes : Nat} {f_O_bytes : Nat → Int32} {n_S_values : Nat} {f_S_values : Nat → Int64} {n_S_bases : Nat} {f_S_bases : Nat → Int32} {n_S_floors : Nat} {f_S_floors : Nat → Int32} {n_S_returns : Nat} {f_S_returns : Nat → Int32} {n_S_closures : Nat} {f_S_closures : Nat → Int64} {n_S_handlerFrames : Nat} {f_S_handlerFrames : Nat → Int32} {n_S_handlerPlaces : Nat} {f_S_handlerPlaces : Nat → Int32} {n_S_handlerHeights : Nat} {f_S_handlerHeights : Nat → Int32} {n_S_handlerDepths : Nat} {f_S_handlerDepths : Nat → Int32} {n_H_globals : Nat} {f_H_globals : Nat → Int64} {n_H_cells : Nat} {f_H_cells : Nat → Int64} {n_H_spare : Nat} {f_H_spare : Nat → Int64} {n_Q_links : Nat} {f_Q_links : Nat → Int32} {n_Q_pairs : Nat} {f_Q_pairs : Nat → Int64} {I : Nat → Int32} {F : Nat → Nat → Int32}
variable {v w : AV} {nL : Nat}
/-- what a run of joins leaves -/
def jnO (G : Nat → GO) (l : List Nat) (v w : AV) (nL nP : Nat) (ps : List (Nat × Nat)) (ld : Nat → Nat) (ps' : List (Nat × Nat)) (ld' : Nat → Nat) (f' : Nat → Int32) (nP' : Nat) (fP' : Nat → Int64) (cc ss : Nat) : Prop :=
  eqC G l v w nL nP' f' fP' ps' ld' ∧ (∃ m, ps' = ps ++ m) ∧ (∀ a b, ld a = ld b → ld' a = ld' b) ∧ ss + 150 * cc + pot 131072 nP ≤ pot 131072 nP'
theorem jnO_r {l : List Nat} {nP : Nat} {ps : List (Nat × Nat)} {ld : Nat → Nat} {f : Nat → Int32} {fP : Nat → Int64} (h : eqC G l v w nL nP f fP ps ld) : jnO G l v w nL nP ps ld ps ld f nP fP 0 0 := ⟨h, ⟨[], (List.append_nil _).symm⟩, fun _ _ h => h, by omega⟩
theorem jnO_t {l : List Nat} {nP nP1 nP2 : Nat} {ps ps1 ps2 : List (Nat × Nat)} {ld ld1 ld2 : Nat → Nat} {f1 f2 : Nat → Int32} {fP1 fP2 : Nat → Int64} {c1 s1 c2 s2 : Nat} (h1 : jnO G l v w nL nP ps ld ps1 ld1 f1 nP1 fP1 c1 s1) (h2 : jnO G l v w nL nP1 ps1 ld1 ps2 ld2 f2 nP2 fP2 c2 s2) : jnO G l v w nL nP ps ld ps2 ld2 f2 nP2 fP2 (c2 + c1) (s2 + s1) := by
  obtain ⟨a1, ⟨m1, a2⟩, a3, a4⟩ := h1
  obtain ⟨b1, ⟨m2, b2⟩, b3, b4⟩ := h2
  exact ⟨b1, ⟨m1 ++ m2, by rw [b2, a2, List.append_assoc]⟩, fun a b h => b3 a b (a3 a b h), by omega⟩
theorem jp2 {o p : Nat} (hN : 400000 ≤ N) (he : eR nk nm nid G lE gg t gs fr gc hn gb gf gr hF hH hP hD S_top S_frames S_handlers n_S_values f_S_values n_S_bases f_S_bases n_S_floors f_S_floors n_S_returns f_S_returns n_S_closures f_S_closures n_S_handlerFrames f_S_handlerFrames n_S_handlerPlaces f_S_handlerPlaces n_S_handlerHeights f_S_handlerHeights n_S_handlerDepths f_S_handlerDepths H_globalsUsed H_used H_old H_oldLeadsToNew f_H_globals n_H_cells f_H_cells n_H_spare) (hadr : n_H_cells ≤ nL) (hL : nL ≤ 131072) (ho : o ∈ lE) (hp : p ∈ lE) (hh : hd2 G o p) (h6 : gK G o ≠ 6) (hs : sEq G v w → sEq G (vO o) (vO p)) :
    ∀ (m i nP : Nat) (ps : List (Nat × Nat)) (ld : Nat → Nat) (f : Nat → Int32) (fP : Nat → Int64), 1 ≤ i → i ≤ gNp G o + 1 → gNp G o + 2 - i < m → eqC G lE v w nL nP f fP ps ld → (∀ j, 1 ≤ j → j < i → rel ld (gP G o j) (gP G p j)) →
      ∃ (r : Nat) (x : Int32) (ps' : List (Nat × Nat)) (ld' : Nat → Nat) (f' : Nat → Int32) (nP' : Nat) (fP' : Nat → Int64) (cc ss : Nat), (∀ (α : Type) (k : Int32 → Int32 → (Nat → Int32) → Int32 → Nat → (Nat → Int64) → Option (α × Nat × Nat)), lm_Equality_joinParts_2 N H_globalsUsed H_used H_spareUsed H_old H_oldLeadsToNew H_limit H_every H_fresh H_made H_madeLimit H_reachedFromGlobals H_reachedInAll H_keptGlobalsUsed H_kept n_H_cells f_H_cells nL (nI (adr (gZ G) lE o)) (nI (adr (gZ G) lE p)) (nI (gZ G o)) 0 k m 1 (nI i) f (nI ps.length) nP fP = dz_tk cc ss (k (nI r) x f' (nI ps'.length) nP' fP')) ∧ jnO G lE v w nL nP ps ld ps' ld' f' nP' fP' cc ss ∧ (r = 1 ∧ (∀ j, 1 ≤ j → j ≤ gNp G o → rel ld' (gP G o j) (gP G p j)) ∨ r = 0 ∧ ¬ sEq G v w)
  | 0, i, nP, ps, ld, f, fP, _, _, h, _, _ => absurd h (Nat.not_lt_zero _)
  | m + 1, i, nP, ps, ld, f, fP, h1, h2, hm, hC, hrel => by
    obtain ⟨hG, hT, hCl, hH', hnn⟩ := eR_hp he
    have hz := gZ_np h6
    have hz2 := (np_hd hh).2
    have hnb := np_bd (hG.2 o ho).2.1 hnn
    have b1 := adr_end (Z := gZ G) ho
    have b2 := adr_end (Z := gZ G) hp
    have ez : nI (gZ G o) - 1 = nI (gNp G o) := by rw [show (1 : Int32) = nI 1 from rfl, q_sub (by omega), hz, Nat.add_sub_cancel_left]
    by_cases q : i = gNp G o + 1
    · refine ⟨1, nI i, ps, ld, f, nP, fP, 0, 0, fun α k => ?_, jnO_r hC, Or.inl ⟨rfl, fun j hj hjn => hrel j hj (by omega)⟩⟩
      rw [lm_Equality_joinParts_2, ez, if_pos (show nI (gNp G o) < nI i by rw [q_lt_t (by omega) (by omega)]; exact True.intro)]
      exact (tk_0 _).symm
    · have e1 : ¬ nI (gNp G o) < nI i := by rw [q_lt_f (by omega) (by omega)]; exact id
      have hnp : i ≤ gNp G p := by rw [← (np_hd hh).1]; omega
      have w1 := (hH' o ho).2.1 i h1 (by omega)
      have w2 := (hH' p hp).2.1 i h1 hnp
      have k1 := (hG.2 o ho).2.2.1 i h1 (by omega)
      have k2 := (hG.2 p hp).2.2.1 i h1 hnp
      obtain ⟨r, ps1, ld1, f1, nP1, fP1, c1, s1, a1, a2, a3, a4, a5, a6⟩ := join_E (N := N) (H_spareUsed := H_spareUsed) (H_limit := H_limit) (H_every := H_every) (H_fresh := H_fresh) (H_made := H_made) (H_madeLimit := H_madeLimit) (H_reachedFromGlobals := H_reachedFromGlobals) (H_reachedInAll := H_reachedInAll) (H_keptGlobalsUsed := H_keptGlobalsUsed) (H_kept := H_kept) hN he hadr hL hC k1 k2 (fun h => sEq_P (hs h) h6 h1 (by omega))
      have hJ : jnO G lE v w nL nP ps ld ps1 ld1 f1 nP1 fP1 c1 s1 := ⟨a2, a3, a4, a5⟩
      have hst : ∀ (α : Type) (k : Int32 → Int32 → (Nat → Int32) → Int32 → Nat → (Nat → Int64) → Option (α × Nat × Nat)), lm_Equality_joinParts_2 N H_globalsUsed H_used H_spareUsed H_old H_oldLeadsToNew H_limit H_every H_fresh H_made H_madeLimit H_reachedFromGlobals H_reachedInAll H_keptGlobalsUsed H_kept n_H_cells f_H_cells nL (nI (adr (gZ G) lE o)) (nI (adr (gZ G) lE p)) (nI (gZ G o)) 0 k (m + 1) 1 (nI i) f (nI ps.length) nP fP = dz_tk c1 s1 (lm_Equality_joinParts_2 N H_globalsUsed H_used H_spareUsed H_old H_oldLeadsToNew H_limit H_every H_fresh H_made H_madeLimit H_reachedFromGlobals H_reachedInAll H_keptGlobalsUsed H_kept n_H_cells f_H_cells nL (nI (adr (gZ G) lE o)) (nI (adr (gZ G) lE p)) (nI (gZ G o)) 0 k m (nI r) (nI (i + 1)) f1 (nI ps1.length) nP1 fP1) := by
        intro α k
        rw [lm_Equality_joinParts_2, ez, if_neg e1, if_neg (show ¬ (1 : Int32) = 0 by decide), q_add, q_add, if_neg (bd_n (by omega) (by omega)), if_neg (bd_n (by omega) (by omega))]
        unfold lm_Equality_joinParts_3
        rw [if_pos rfl, q_add, q_add, q_cl (by omega), q_cl (by omega), w1, w2, a1, bind_s]
        dsimp only
        rw [nI_1]
      rcases a6 with ⟨rfl, a6⟩ | ⟨rfl, a6⟩
      · obtain ⟨r2, x, ps', ld', f', nP', fP', cc, ss, d1, d2, d3⟩ := jp2 hN he hadr hL ho hp hh h6 hs m (i + 1) nP1 ps1 ld1 f1 fP1 (by omega) (by omega) (by omega) a2 (fun j hj hji => by
          by_cases e : j = i
          · rw [e]; exact a6
          · exact rel_m a4 (hrel j hj (by omega)))
        refine ⟨r2, x, ps', ld', f', nP', fP', cc + c1, ss + s1, fun α k => ?_, jnO_t hJ d2, d3⟩
        rw [hst, show nI 1 = (1 : Int32) from rfl, d1, tk_tk]
      · obtain ⟨m, rfl⟩ : ∃ m', m = m' + 1 := ⟨m - 1, by omega⟩
        refine ⟨0, nI (i + 1), ps1, ld1, f1, nP1, fP1, c1, s1, fun α k => ?_, hJ, Or.inr ⟨rfl, a6⟩⟩
        rw [hst, lm_Equality_joinParts_2]
        by_cases hx : nI (gZ G o) - 1 < nI (i + 1)
        · rw [if_pos hx]
        · rw [if_neg hx, if_pos (show nI 0 = 0 from rfl)]
theorem jpS {o p : Nat} (he : eR nk nm nid G lE gg t gs fr gc hn gb gf gr hF hH hP hD S_top S_frames S_handlers n_S_values f_S_values n_S_bases f_S_bases n_S_floors f_S_floors n_S_returns f_S_returns n_S_closures f_S_closures n_S_handlerFrames f_S_handlerFrames n_S_handlerPlaces f_S_handlerPlaces n_S_handlerHeights f_S_handlerHeights n_S_handlerDepths f_S_handlerDepths H_globalsUsed H_used H_old H_oldLeadsToNew f_H_globals n_H_cells f_H_cells n_H_spare) (hp : p ∈ lE) (ho : o ∈ lE) (hh : hd2 G o p) (h6 : gK G o = 6) :
    ∀ (m i nP : Nat) (s : Int32) (f : Nat → Int32) (fP : Nat → Int64), i ≤ (gC G o + 3) / 4 → (gC G o + 3) / 4 + 1 - i < m → (∀ j, j < i → w4 (gB G o) j = w4 (gB G p) j) →
      ∃ (r : Nat) (x : Int32), (∀ (α : Type) (k : Int32 → Int32 → (Nat → Int32) → Int32 → Nat → (Nat → Int64) → Option (α × Nat × Nat)), lm_Equality_joinParts_2 N H_globalsUsed H_used H_spareUsed H_old H_oldLeadsToNew H_limit H_every H_fresh H_made H_madeLimit H_reachedFromGlobals H_reachedInAll H_keptGlobalsUsed H_kept n_H_cells f_H_cells nL (nI (adr (gZ G) lE o)) (nI (adr (gZ G) lE p)) (nI (gZ G o)) 1 k m 1 (nI (i + 1)) f s nP fP = k (nI r) x f s nP fP) ∧ (r = 1 ∧ (∀ j, j < (gC G o + 3) / 4 → w4 (gB G o) j = w4 (gB G p) j) ∨ r = 0 ∧ ∃ j, gB G o j ≠ gB G p j)
  | 0, i, nP, s, f, fP, _, h, _ => absurd h (Nat.not_lt_zero _)
  | m + 1, i, nP, s, f, fP, hi, hm, hw => by
    obtain ⟨hG, hT, hCl, hH', hnn⟩ := eR_hp he
    have hz : gZ G o = 1 + (gC G o + 3) / 4 := by unfold gZ; rw [if_pos h6]
    have hz2 := (np_hd hh).2
    have O1 := str_ok (hG.2 o ho).2.1 h6
    have O2 := str_ok (hG.2 p hp).2.1 (by rw [← hh.1]; exact h6)
    have b1 := adr_end (Z := gZ G) ho
    have b2 := adr_end (Z := gZ G) hp
    have ez : nI (gZ G o) - 1 = nI ((gC G o + 3) / 4) := by rw [show (1 : Int32) = nI 1 from rfl, q_sub (by omega), hz, Nat.add_sub_cancel_left]
    by_cases q : i = (gC G o + 3) / 4
    · refine ⟨1, nI (i + 1), fun α k => ?_, Or.inl ⟨rfl, by rw [← q]; exact hw⟩⟩
      rw [lm_Equality_joinParts_2, ez, if_pos (show nI ((gC G o + 3) / 4) < nI (i + 1) by rw [q_lt_t (by omega) (by omega)]; exact True.intro)]
      rfl
    · have e1 : ¬ nI ((gC G o + 3) / 4) < nI (i + 1) := by rw [q_lt_f (by omega) (by omega)]; exact id
      have w1 := (hH' o ho).2.2 h6 i (by omega)
      have w2 := (hH' p hp).2.2 (by rw [← hh.1]; exact h6) i (by rw [← hh.2.1]; omega)
      rw [Nat.add_assoc, Nat.add_comm 1 i] at w1 w2
      have l1 := (w4_lt O1.2.1 i).1
      have l2 := (w4_lt O2.2.1 i).1
      have hst : ∀ (α : Type) (k : Int32 → Int32 → (Nat → Int32) → Int32 → Nat → (Nat → Int64) → Option (α × Nat × Nat)), lm_Equality_joinParts_2 N H_globalsUsed H_used H_spareUsed H_old H_oldLeadsToNew H_limit H_every H_fresh H_made H_madeLimit H_reachedFromGlobals H_reachedInAll H_keptGlobalsUsed H_kept n_H_cells f_H_cells nL (nI (adr (gZ G) lE o)) (nI (adr (gZ G) lE p)) (nI (gZ G o)) 1 k (m + 1) 1 (nI (i + 1)) f s nP fP = lm_Equality_joinParts_2 N H_globalsUsed H_used H_spareUsed H_old H_oldLeadsToNew H_limit H_every H_fresh H_made H_madeLimit H_reachedFromGlobals H_reachedInAll H_keptGlobalsUsed H_kept n_H_cells f_H_cells nL (nI (adr (gZ G) lE o)) (nI (adr (gZ G) lE p)) (nI (gZ G o)) 1 k m (if w4 (gB G o) i = w4 (gB G p) i then 1 else 0) (nI (i + 1 + 1)) f s nP fP := by
        intro α k
        rw [lm_Equality_joinParts_2, ez, if_neg e1, if_neg (show ¬ (1 : Int32) = 0 by decide), q_add, q_add, if_neg (bd_n (by omega) (by omega)), if_neg (bd_n (by omega) (by omega))]
        unfold lm_Equality_joinParts_3
        rw [if_neg (show ¬ (1 : Int32) = 0 by decide), q_add, q_add, q_cl (by omega), q_cl (by omega), w1, w2, nI_1]
        by_cases hq : w4 (gB G o) i = w4 (gB G p) i
        · rw [if_pos ((lc_0 l1 l2).mpr hq), if_pos hq]
        · rw [if_neg (fun h => hq ((lc_0 l1 l2).mp h)), if_neg hq]
      by_cases hq : w4 (gB G o) i = w4 (gB G p) i
      · rw [if_pos hq] at hst
        obtain ⟨r, x, d1, d2⟩ := jpS he hp ho hh h6 m (i + 1) nP s f fP (by omega) (by omega) (fun j hj => by
          by_cases e : j = i
          · rw [e]; exact hq
          · exact hw j (by omega))
        exact ⟨r, x, fun α k => by rw [hst, d1], d2⟩
      · rw [if_neg hq] at hst
        obtain ⟨m, rfl⟩ : ∃ m', m = m' + 1 := ⟨m - 1, by omega⟩
        refine ⟨0, nI (i + 1 + 1), fun α k => ?_, Or.inr ⟨rfl, ?_⟩⟩
        · rw [hst, lm_Equality_joinParts_2]
          by_cases hx : nI (gZ G o) - 1 < nI (i + 1 + 1)
          · rw [if_pos hx]
            rfl
          · rw [if_neg hx, if_pos (show (0 : Int32) = 0 from rfl)]
            rfl
        · obtain ⟨y, y1, y2, y3, y4⟩ := w4_first O1.2.1 O2.2.1 hq
          exact ⟨_, y3⟩
theorem jp_E {o p nP : Nat} {ps : List (Nat × Nat)} {ld : Nat → Nat} {f : Nat → Int32} {fP : Nat → Int64} (hN : 400000 ≤ N) (he : eR nk nm nid G lE gg t gs fr gc hn gb gf gr hF hH hP hD S_top S_frames S_handlers n_S_values f_S_values n_S_bases f_S_bases n_S_floors f_S_floors n_S_returns f_S_returns n_S_closures f_S_closures n_S_handlerFrames f_S_handlerFrames n_S_handlerPlaces f_S_handlerPlaces n_S_handlerHeights f_S_handlerHeights n_S_handlerDepths f_S_handlerDepths H_globalsUsed H_used H_old H_oldLeadsToNew f_H_globals n_H_cells f_H_cells n_H_spare) (hadr : n_H_cells ≤ nL) (hL : nL ≤ 131072) (ho : o ∈ lE) (hp : p ∈ lE) (hh : hd2 G o p) (hs : sEq G v w → sEq G (vO o) (vO p)) (hC : eqC G lE v w nL nP f fP ps ld) :
    ∃ (r : Nat) (ps' : List (Nat × Nat)) (ld' : Nat → Nat) (f' : Nat → Int32) (nP' : Nat) (fP' : Nat → Int64) (cc ss : Nat), m_Equality_joinParts N H_globalsUsed H_used H_spareUsed H_old H_oldLeadsToNew H_limit H_every H_fresh H_made H_madeLimit H_reachedFromGlobals H_reachedInAll H_keptGlobalsUsed H_kept (nI ps.length) n_H_cells f_H_cells nL f nP fP (nI (adr (gZ G) lE o)) (nI (adr (gZ G) lE p)) = some ((nI r, f', nI ps'.length, nP', fP'), cc, ss) ∧ jnO G lE v w nL nP ps ld ps' ld' f' nP' fP' cc ss ∧ (r = 1 ∧ dun G ld' o p ∨ r = 0 ∧ ¬ sEq G v w) := by
  obtain ⟨hG, hT, hCl, hH', hnn⟩ := eR_hp he
  have O1 := (hG.2 o ho).2.1
  have hk8 := okO_K O1
  have b1 := adr_end (Z := gZ G) ho
  have g1 := gZ_pos G o
  have c1 : f_H_cells (nI (adr (gZ G) lE o)).toNatClampNeg = hE G o := by rw [q_cl (by omega)]; exact (hH' o ho).1
  have z1 : ¬ (nI (adr (gZ G) lE o) < 0 ∨ n_H_cells ≤ (nI (adr (gZ G) lE o)).toNatClampNeg) := bd_n (by omega) (by omega)
  have hsz := sizeOf_hE (N := N) O1 hnn
  have hkd : m_Value_kind N (hE G o) = some (nI (gK G o)) := by
    show some (kdW (hE G o)) = _
    rw [kd_hE hk8.2]
  by_cases h6 : gK G o = 6
  · have O2 := str_ok (hG.2 p hp).2.1 (by rw [← hh.1]; exact h6)
    have O1' := str_ok O1 h6
    obtain ⟨r, x, d1, d2⟩ := jpS (N := N) (nL := nL) (H_spareUsed := H_spareUsed) (H_limit := H_limit) (H_every := H_every) (H_fresh := H_fresh) (H_made := H_made) (H_madeLimit := H_madeLimit) (H_reachedFromGlobals := H_reachedFromGlobals) (H_reachedInAll := H_reachedInAll) (H_keptGlobalsUsed := H_keptGlobalsUsed) (H_kept := H_kept) he hp ho hh h6 N 0 nP (nI ps.length) f fP (by omega) (by omega) (fun j hj => absurd hj (by omega))
    have hr : r = 0 ∨ r = 1 := by rcases d2 with h | h <;> omega
    refine ⟨r, ps, ld, f, nP, fP, 0, 0, ?_, jnO_r hC, ?_⟩
    · unfold m_Equality_joinParts lm_Equality_joinParts_1
      rw [if_neg z1, c1, hsz, bind_s, if_neg z1, hkd, bind_s, h6, if_pos (show nI 6 = 6 from rfl)]
      refine (d1 ..).trans ?_
      rcases hr with rfl | rfl
      · rw [if_neg (by decide)]
      · rw [if_neg (by decide)]
    · rcases d2 with ⟨h, d2⟩ | ⟨h, j, d2⟩
      · refine Or.inl ⟨h, fun _ i => ?_, fun hn => absurd h6 hn⟩
        by_cases hi : i < 4 * ((gC G o + 3) / 4)
        · exact w4_same O1'.2.1 O2.2.1 d2 i hi
        · rw [O1'.2.2 i (by omega), O2.2.2 i (by have := hh.2.1; omega)]
      · refine Or.inr ⟨h, fun hsq => d2 ?_⟩
        by_cases hop : o = p
        · rw [hop]
        · exact (sEq_hd (hs hsq) hop).2 h6 j
  · obtain ⟨r, x, ps', ld', f', nP', fP', cc, ss, d1, d2, d3⟩ := jp2 (N := N) (nL := nL) (H_spareUsed := H_spareUsed) (H_limit := H_limit) (H_every := H_every) (H_fresh := H_fresh) (H_made := H_made) (H_madeLimit := H_madeLimit) (H_reachedFromGlobals := H_reachedFromGlobals) (H_reachedInAll := H_reachedInAll) (H_keptGlobalsUsed := H_keptGlobalsUsed) (H_kept := H_kept) hN he hadr hL ho hp hh h6 hs N 1 nP ps ld f fP (by omega) (by omega) (by have := np_bd O1 hnn; omega) hC (fun j h1 h2 => by omega)
    have hr : r = 0 ∨ r = 1 := by rcases d3 with h | h <;> omega
    refine ⟨r, ps', ld', f', nP', fP', cc, ss, ?_, d2, ?_⟩
    · unfold m_Equality_joinParts lm_Equality_joinParts_1
      rw [if_neg z1, c1, hsz, bind_s, if_neg z1, hkd, bind_s, if_neg (show ¬ nI (gK G o) = 6 from ne_l (b := 6) h6 (by omega) (by omega))]
      refine (d1 ..).trans ?_
      rcases hr with rfl | rfl
      · rw [if_neg (by decide), tk_s, Nat.zero_add, Nat.zero_add]
      · rw [if_neg (by decide), tk_s, Nat.zero_add, Nat.zero_add]
    · rcases d3 with ⟨h, d3⟩ | ⟨h, d3⟩
      · exact Or.inl ⟨h, fun hn => absurd hn h6, fun _ => d3⟩
      · exact Or.inr ⟨h, d3⟩
theorem ho2 (hN : 400000 ≤ N) (he : eR nk nm nid G lE gg t gs fr gc hn gb gf gr hF hH hP hD S_top S_frames S_handlers n_S_values f_S_values n_S_bases f_S_bases n_S_floors f_S_floors n_S_returns f_S_returns n_S_closures f_S_closures n_S_handlerFrames f_S_handlerFrames n_S_handlerPlaces f_S_handlerPlaces n_S_handlerHeights f_S_handlerHeights n_S_handlerDepths f_S_handlerDepths H_globalsUsed H_used H_old H_oldLeadsToNew f_H_globals n_H_cells f_H_cells n_H_spare) (hadr : n_H_cells ≤ nL) (hL : nL ≤ 131072) :
    ∀ (m i nP : Nat) (ps : List (Nat × Nat)) (ld : Nat → Nat) (f : Nat → Int32) (fP : Nat → Int64), i ≤ ps.length → 131074 - i < m → eqC G lE v w nL nP f fP ps ld → (∀ j q, j < i → ps[j]? = some q → dun G ld q.1 q.2) →
      ∃ (r : Nat) (x : Int32) (ps' : List (Nat × Nat)) (ld' : Nat → Nat) (f' : Nat → Int32) (nP' : Nat) (fP' : Nat → Int64) (cc ss : Nat), (∀ (α : Type) (k : Int32 → Int32 → (Nat → Int32) → Int32 → Nat → (Nat → Int64) → Option (α × Nat × Nat)), lm_Equality_holds_2 N H_globalsUsed H_used H_spareUsed H_old H_oldLeadsToNew H_limit H_every H_fresh H_made H_madeLimit H_reachedFromGlobals H_reachedInAll H_keptGlobalsUsed H_kept n_H_cells f_H_cells nL k m 1 (nI i) f (nI ps.length) nP fP = dz_tk cc ss (k (nI r) x f' (nI ps'.length) nP' fP')) ∧ jnO G lE v w nL nP ps ld ps' ld' f' nP' fP' cc ss ∧ (r = 1 ∧ (∀ q, q ∈ ps' → dun G ld' q.1 q.2) ∨ r = 0 ∧ ¬ sEq G v w)
  | 0, i, nP, ps, ld, f, fP, _, h, _, _ => absurd h (Nat.not_lt_zero _)
  | m + 1, i, nP, ps, ld, f, fP, hi, hm, hC, hd6 => by
    obtain ⟨hG, hT, hCl, hH', hnn⟩ := eR_hp he
    have hC' := hC
    obtain ⟨nl, lk, d, i1, i2, i3, i4⟩ := hC'
    have hpl := i4.1
    have hpm := i4.2.2.1
    have hlen : ps.length ≤ 131072 := Nat.le_trans hpl hpm
    by_cases q : i = ps.length
    · refine ⟨1, nI i, ps, ld, f, nP, fP, 0, 0, fun α k => ?_, jnO_r hC, Or.inl ⟨rfl, fun q hq => ?_⟩⟩
      · rw [lm_Equality_holds_2]
        by_cases h1 : (131072 : Int32) ≤ nI i
        · rw [if_pos h1]
          exact (tk_0 _).symm
        · rw [if_neg h1, q, if_pos Int32.le_rfl]
          exact (tk_0 _).symm
      · obtain ⟨j, hj⟩ := List.getElem?_of_mem hq
        have hlt : j < ps.length := by
          by_cases hlt : j < ps.length
          · exact hlt
          · rw [List.getElem?_eq_none (by omega)] at hj
            cases hj
        exact hd6 j q (by omega) hj
    · have hlt : i < ps.length := by omega
      obtain ⟨q0, hq0⟩ : ∃ q0, ps[i]? = some q0 := ⟨ps[i], List.getElem?_eq_getElem hlt⟩
      have hmem := List.mem_of_getElem? hq0
      obtain ⟨p1, p2, p3, p4⟩ := i1.2.2.2.1 q0 hmem
      have b1 := adr_end (Z := gZ G) p1
      have b2 := adr_end (Z := gZ G) p2
      have g1 := gZ_pos G q0.1
      have g2 := gZ_pos G q0.2
      have hfp := i4.2.2.2 i q0 hq0
      obtain ⟨r, ps1, ld1, f1, nP1, fP1, c1, s1, a1, a2, a3⟩ := jp_E (N := N) (H_spareUsed := H_spareUsed) (H_limit := H_limit) (H_every := H_every) (H_fresh := H_fresh) (H_made := H_made) (H_madeLimit := H_madeLimit) (H_reachedFromGlobals := H_reachedFromGlobals) (H_reachedInAll := H_reachedInAll) (H_keptGlobalsUsed := H_keptGlobalsUsed) (H_kept := H_kept) hN he hadr hL p1 p2 p3 (fun h => i1.2.2.2.2.1 h q0 hmem) hC
      have hst : ∀ (α : Type) (k : Int32 → Int32 → (Nat → Int32) → Int32 → Nat → (Nat → Int64) → Option (α × Nat × Nat)), lm_Equality_holds_2 N H_globalsUsed H_used H_spareUsed H_old H_oldLeadsToNew H_limit H_every H_fresh H_made H_madeLimit H_reachedFromGlobals H_reachedInAll H_keptGlobalsUsed H_kept n_H_cells f_H_cells nL k (m + 1) 1 (nI i) f (nI ps.length) nP fP = dz_tk c1 s1 (lm_Equality_holds_2 N H_globalsUsed H_used H_spareUsed H_old H_oldLeadsToNew H_limit H_every H_fresh H_made H_madeLimit H_reachedFromGlobals H_reachedInAll H_keptGlobalsUsed H_kept n_H_cells f_H_cells nL k m (nI r) (nI (i + 1)) f1 (nI ps1.length) nP1 fP1) := by
        intro α k
        rw [lm_Equality_holds_2, if_neg (show ¬ (131072 : Int32) ≤ nI i by rw [show (131072 : Int32) = nI 131072 from rfl, q_le_f (by omega) (by omega)]; exact id), if_neg (show ¬ nI ps.length ≤ nI i by rw [q_le_f (by omega) (by omega)]; exact id), if_neg (show ¬ (1 : Int32) = 0 by decide), if_neg (bd_n (by omega) (by omega)), let_d, if_neg (bd_n (by omega) (by omega)), q_cl (by omega), hfp, pr_a (by omega) (by omega), pr_b (by omega) (by omega), a1, bind_s]
        dsimp only
        rw [nI_1]
      rcases a3 with ⟨rfl, a3⟩ | ⟨rfl, a3⟩
      · obtain ⟨mm, hmm⟩ := a2.2.1
        have hl1 : ps1.length = ps.length + mm.length := by rw [hmm, List.length_append]
        obtain ⟨r2, x, ps', ld', f', nP', fP', cc, ss, d1, d2, d3⟩ := ho2 hN he hadr hL m (i + 1) nP1 ps1 ld1 f1 fP1 (by omega) (by omega) a2.1 (fun j q hj hq => by
          by_cases e : j = i
          · rw [e, hmm, List.getElem?_append_left hlt, hq0] at hq
            have hq : q0 = q := Option.some.inj hq
            rw [← hq]
            exact a3
          · rw [hmm, List.getElem?_append_left (by omega)] at hq
            exact dun_m a2.2.2.1 (hd6 j q (by omega) hq))
        refine ⟨r2, x, ps', ld', f', nP', fP', cc + c1, ss + s1, fun α k => ?_, jnO_t a2 d2, d3⟩
        rw [hst, show nI 1 = (1 : Int32) from rfl, d1, tk_tk]
      · obtain ⟨m, rfl⟩ : ∃ m', m = m' + 1 := ⟨m - 1, by omega⟩
        refine ⟨0, nI (i + 1), ps1, ld1, f1, nP1, fP1, c1, s1, fun α k => ?_, a2, Or.inr ⟨rfl, a3⟩⟩
        rw [hst, lm_Equality_holds_2]
        by_cases h1 : (131072 : Int32) ≤ nI (i + 1)
        · rw [if_pos h1]
        · rw [if_neg h1]
          by_cases h2 : nI ps1.length ≤ nI (i + 1)
          · rw [if_pos h2]
          · rw [if_neg h2, if_pos (show nI 0 = 0 from rfl)]
theorem ho3 {l : List Nat} {nP : Nat} {ps : List (Nat × Nat)} {fP : Nat → Int64} (hL : nL ≤ 131072) (hadr : tot (gZ G) l ≤ nL) (hps : ∀ q, q ∈ ps → q.1 ∈ l ∧ q.2 ∈ l) (hp : prE G l ps nP fP) :
    ∀ (m i : Nat) (f : Nat → Int32), i ≤ ps.length → ps.length - i < m → (∀ a, a < nL → f a ≠ nI 0 → ∃ j q, i ≤ j ∧ ps[j]? = some q ∧ (a = adr (gZ G) l q.1 ∨ a = adr (gZ G) l q.2)) → ∃ (x : Int32) (f' : Nat → Int32), (∀ (α : Type) (k : Int32 → (Nat → Int32) → Option (α × Nat × Nat)), lm_Equality_holds_3 N nL (nI ps.length) fP nP k m (nI i) f = k x f') ∧ ∀ a, a < nL → f' a = nI 0
  | 0, i, f, _, h, _ => absurd h (Nat.not_lt_zero _)
  | m + 1, i, f, hi, hm, hf => by
    have hlen : ps.length ≤ 131072 := Nat.le_trans hp.1 hp.2.2.1
    by_cases q : i = ps.length
    · refine ⟨nI i, f, fun α k => ?_, fun a ha => ?_⟩
      · rw [lm_Equality_holds_3, q, if_pos Int32.le_rfl]
      · by_cases h0 : f a = nI 0
        · exact h0
        · obtain ⟨j, q', h1, h2, _⟩ := hf a ha h0
          rw [List.getElem?_eq_none (by omega)] at h2
          cases h2
    · have hlt : i < ps.length := by omega
      obtain ⟨q0, hq0⟩ : ∃ q0, ps[i]? = some q0 := ⟨ps[i], List.getElem?_eq_getElem hlt⟩
      obtain ⟨p1, p2⟩ := hps q0 (List.mem_of_getElem? hq0)
      have b1 := adr_end (Z := gZ G) p1
      have b2 := adr_end (Z := gZ G) p2
      have g1 := gZ_pos G q0.1
      have g2 := gZ_pos G q0.2
      have hfp := hp.2.2.2 i q0 hq0
      have hpl := hp.1
      have hpm := hp.2.2.1
      obtain ⟨x, f', d1, d2⟩ := ho3 hL hadr hps hp m (i + 1) (upd (upd f (adr (gZ G) l q0.1) 0) (adr (gZ G) l q0.2) 0) (by omega) (by omega) (fun a ha hne => by
        have e2 : a ≠ adr (gZ G) l q0.2 := fun e => hne (by rw [upd_e e]; rfl)
        rw [upd_n e2] at hne
        have e1 : a ≠ adr (gZ G) l q0.1 := fun e => hne (by rw [upd_e e]; rfl)
        rw [upd_n e1] at hne
        obtain ⟨j, q', h1, h2, h3⟩ := hf a ha hne
        refine ⟨j, q', ?_, h2, h3⟩
        by_cases e : j = i
        · rw [e, hq0] at h2
          have h2 : q0 = q' := Option.some.inj h2
          rw [← h2] at h3
          exact absurd h3 (fun h => h.elim e1 e2)
        · omega)
      refine ⟨x, f', fun α k => ?_, d2⟩
      rw [lm_Equality_holds_3, if_neg (show ¬ nI ps.length ≤ nI i by rw [q_le_f (by omega) (by omega)]; exact id), if_neg (bd_n (by omega) (by omega)), let_d, q_cl (by omega), hfp, pr_a (by omega) (by omega), if_neg (bd_n (by omega) (by omega)), if_neg (fun h => (bd_n (x := i) (m := nP) (by omega) (by omega)) (by rw [q_cl (by omega)]; exact h)), pr_b (by omega) (by omega), if_neg (bd_n (by omega) (by omega)), let_d, q_cl (by omega), q_cl (by omega), nI_1]
      exact d1 α k
theorem ho_E {x : AV} {y : AV} (hN : 400000 ≤ N) (he : eR nk nm nid G lE gg t gs fr gc hn gb gf gr hF hH hP hD S_top S_frames S_handlers n_S_values f_S_values n_S_bases f_S_bases n_S_floors f_S_floors n_S_returns f_S_returns n_S_closures f_S_closures n_S_handlerFrames f_S_handlerFrames n_S_handlerPlaces f_S_handlerPlaces n_S_handlerHeights f_S_handlerHeights n_S_handlerDepths f_S_handlerDepths H_globalsUsed H_used H_old H_oldLeadsToNew f_H_globals n_H_cells f_H_cells n_H_spare) (hx : okV nk nm lE x) (hy : okV nk nm lE y) (hq1 : n_Q_links ≤ 131072) (hq2 : n_Q_links = 0 ∨ n_Q_links = n_H_cells ∨ 2 * n_Q_links ≤ n_H_cells ∨ n_H_cells = 131072) (hq3 : ∀ a, a < n_Q_links → f_Q_links a = nI 0) (hq4 : 16 ≤ n_Q_pairs) (hq5 : n_Q_pairs ≤ 131072) :
    ∃ (r : Nat) (qs : Int32) (nL' : Nat) (f' : Nat → Int32) (nP' : Nat) (fP' : Nat → Int64) (cc ss : Nat), m_Equality_holds N H_globalsUsed H_used H_spareUsed H_old H_oldLeadsToNew H_limit H_every H_fresh H_made H_madeLimit H_reachedFromGlobals H_reachedInAll H_keptGlobalsUsed H_kept Q_size n_H_cells f_H_cells n_Q_links f_Q_links n_Q_pairs f_Q_pairs (wE G lE x) (wE G lE y) = some ((nI r, qs, nL', f', nP', fP'), cc, ss) ∧ (r = 1 ∧ sEq G x y ∨ r = 0 ∧ ¬ sEq G x y) ∧ nL' ≤ 131072 ∧ (nL' = 0 ∨ nL' = n_H_cells ∨ 2 * nL' ≤ n_H_cells ∨ n_H_cells = 131072) ∧ (∀ a, a < nL' → f' a = nI 0) ∧ 16 ≤ nP' ∧ nP' ≤ 131072 ∧ ss + 150 * cc + pot 131072 n_Q_links + pot 131072 n_Q_pairs ≤ pot 131072 nL' + pot 131072 nP' := by
  obtain ⟨hG, hT, hCl, hH', hnn⟩ := eR_hp he
  have h512 : 512 ≤ n_H_cells := he.2.1.2.2.2.2.2.2.2.2.2.2.2.2.1
  obtain ⟨nL, f, c0, s0, k1, k2, k3, k4, k5, k6⟩ : ∃ (nL : Nat) (f : Nat → Int32) (c0 s0 : Nat), (∀ (α : Type) (k : Nat → (Nat → Int32) → Option (α × Nat × Nat)), lm_Equality_holds_1 N n_H_cells k n_Q_links f_Q_links = dz_tk c0 s0 (k nL f)) ∧ n_H_cells ≤ nL ∧ nL ≤ 131072 ∧ (nL = 0 ∨ nL = n_H_cells ∨ 2 * nL ≤ n_H_cells ∨ n_H_cells = 131072) ∧ (∀ a, a < nL → f a = nI 0) ∧ s0 + 150 * c0 + pot 131072 n_Q_links ≤ pot 131072 nL := by
    by_cases h : n_H_cells ≤ n_Q_links
    · refine ⟨n_Q_links, f_Q_links, 0, 0, fun α k => ?_, h, hq1, hq2, hq3, by omega⟩
      unfold lm_Equality_holds_1
      rw [q_o, q_o, if_pos (show nI n_H_cells ≤ nI n_Q_links by rw [q_le_t (by omega) (by omega)]; exact True.intro)]
      exact (tk_0 _).symm
    · refine ⟨n_H_cells, fun _ => 0, 1, n_H_cells, fun α k => ?_, Nat.le_refl _, hCl, Or.inr (Or.inl rfl), fun _ _ => rfl, ?_⟩
      · unfold lm_Equality_holds_1
        rw [q_o, q_o, if_neg (show ¬ nI n_H_cells ≤ nI n_Q_links by rw [q_le_f (by omega) (by omega)]; exact id), if_neg (show ¬ (nI n_H_cells < 0 ∨ 134217728 < (nI n_H_cells).toNatClampNeg) by rw [q_cl (by omega)]; exact fun h => h.elim (nI_pos (by omega)) (by omega)), q_cl (by omega)]
      · by_cases h0 : n_Q_links = 0
        · rw [h0, pot_0 (by omega)]
          unfold pot
          split <;> omega
        · by_cases hm : n_H_cells = 131072
          · have := pot_new (n := n_Q_links) (m := 131072) (k := n_H_cells) (by omega) (Or.inl ⟨hm, by omega⟩)
            omega
          · have := pot_new (n := n_Q_links) (m := 131072) (k := n_H_cells) (by omega) (Or.inr ⟨by omega, by omega, by omega⟩)
            omega
  have hC0 : eqC G lE x y nL n_Q_pairs f f_Q_pairs [] (fun a => a) := by
    refine ⟨[], fun _ => none, fun _ => 0, eqI_0, ⟨fun o ho => ?_, fun a ha hne => absurd (k5 a ha) hne⟩, fun a b h => ?_, ⟨Nat.zero_le _, hq4, hq5, fun i q h => ?_⟩⟩
    · have := adr_end (Z := gZ G) ho
      have := gZ_pos G o
      exact k5 _ (by omega)
    · cases h
    · cases h
  obtain ⟨r, ps1, ld1, f1, nP1, fP1, c1, s1, a1, a2, a3, a4, a5, a6⟩ := join_E (N := N) (H_spareUsed := H_spareUsed) (H_limit := H_limit) (H_every := H_every) (H_fresh := H_fresh) (H_made := H_made) (H_madeLimit := H_madeLimit) (H_reachedFromGlobals := H_reachedFromGlobals) (H_reachedInAll := H_reachedInAll) (H_keptGlobalsUsed := H_keptGlobalsUsed) (H_kept := H_kept) hN he k2 k3 hC0 hx hy (fun h => h)
  have main : ∃ (r2 : Nat) (z : Int32) (ps' : List (Nat × Nat)) (ld' : Nat → Nat) (f' : Nat → Int32) (nP' : Nat) (fP' : Nat → Int64) (cc ss : Nat), (∀ (α : Type) (k : Int32 → Int32 → (Nat → Int32) → Int32 → Nat → (Nat → Int64) → Option (α × Nat × Nat)), lm_Equality_holds_2 N H_globalsUsed H_used H_spareUsed H_old H_oldLeadsToNew H_limit H_every H_fresh H_made H_madeLimit H_reachedFromGlobals H_reachedInAll H_keptGlobalsUsed H_kept n_H_cells f_H_cells nL k N (nI r) (nI 0) f1 (nI ps1.length) nP1 fP1 = dz_tk cc ss (k (nI r2) z f' (nI ps'.length) nP' fP')) ∧ jnO G lE x y nL nP1 ps1 ld1 ps' ld' f' nP' fP' cc ss ∧ (r2 = 1 ∧ sEq G x y ∨ r2 = 0 ∧ ¬ sEq G x y) := by
    rcases a6 with ⟨rfl, a6⟩ | ⟨rfl, a6⟩
    · obtain ⟨r2, z, ps', ld', f', nP', fP', cc, ss, d1, d2, d3⟩ := ho2 (N := N) (H_spareUsed := H_spareUsed) (H_limit := H_limit) (H_every := H_every) (H_fresh := H_fresh) (H_made := H_made) (H_madeLimit := H_madeLimit) (H_reachedFromGlobals := H_reachedFromGlobals) (H_reachedInAll := H_reachedInAll) (H_keptGlobalsUsed := H_keptGlobalsUsed) (H_kept := H_kept) hN he k2 k3 N 0 nP1 ps1 ld1 f1 fP1 (by omega) (by omega) a2 (fun j q h => absurd h (by omega))
      refine ⟨r2, z, ps', ld', f', nP', fP', cc, ss, d1, d2, ?_⟩
      rcases d3 with ⟨h, d3⟩ | h
      · obtain ⟨nl, lk, d, i1, _⟩ := d2.1
        exact Or.inl ⟨h, fun n => all_eq i1.2.2.1 (fun q hq => (i1.2.2.2.1 q hq).2.2.1) d3 n x y (rel_m d2.2.2.1 a6)⟩
      · exact Or.inr h
    · obtain ⟨M, hM⟩ : ∃ M, N = M + 1 := ⟨N - 1, by omega⟩
      refine ⟨0, nI 0, ps1, ld1, f1, nP1, fP1, 0, 0, fun α k => ?_, jnO_r a2, Or.inr ⟨rfl, a6⟩⟩
      have hst : ∀ N', lm_Equality_holds_2 N' H_globalsUsed H_used H_spareUsed H_old H_oldLeadsToNew H_limit H_every H_fresh H_made H_madeLimit H_reachedFromGlobals H_reachedInAll H_keptGlobalsUsed H_kept n_H_cells f_H_cells nL k (M + 1) (nI 0) (nI 0) f1 (nI ps1.length) nP1 fP1 = dz_tk 0 0 (k (nI 0) (nI 0) f1 (nI ps1.length) nP1 fP1) := by
        intro N'
        rw [lm_Equality_holds_2, if_neg (show ¬ (131072 : Int32) ≤ nI 0 by decide)]
        by_cases h2 : nI ps1.length ≤ nI 0
        · rw [if_pos h2]
          exact (tk_0 _).symm
        · rw [if_neg h2, if_pos (show nI 0 = 0 from rfl)]
          exact (tk_0 _).symm
      have := hst N
      rw [← hM] at this
      exact this
  obtain ⟨r2, z, ps', ld', f', nP', fP', cc, ss, d1, d2, d3⟩ := main
  have hr2 : r2 = 0 ∨ r2 = 1 := by rcases d3 with h | h <;> omega
  obtain ⟨nl, lk, d, i1, i2, i3, i4⟩ := d2.1
  obtain ⟨z3, f3, e1, e2⟩ := ho3 (N := N) (nL := nL) (G := G) (l := lE) k3 (by omega) (fun q hq => ⟨(i1.2.2.2.1 q hq).1, (i1.2.2.2.1 q hq).2.1⟩) i4 N 0 f' (by omega) (by have := i4.1; have := i4.2.2.1; omega) (fun a ha hne => by
    obtain ⟨o, ho, rfl⟩ := i2.2 a ha hne
    cases hlk : lk o with
    | none => exact absurd (by rw [i2.1 o ho, hlk]; rfl) hne
    | some b =>
      obtain ⟨q, hq, hoq⟩ := (i3 o b hlk).1
      obtain ⟨j, hj⟩ := List.getElem?_of_mem hq
      exact ⟨j, q, Nat.zero_le _, hj, hoq.elim (fun h => Or.inl (by rw [h])) (fun h => Or.inr (by rw [h]))⟩)
  refine ⟨r2, nI ps'.length, nL, f3, nP', fP', cc + c1 + c0, ss + s1 + s0, ?_, d3, k3, k4, e2, i4.2.1, i4.2.2.1, ?_⟩
  · unfold m_Equality_holds
    rw [k1, show m_Equality_join N H_globalsUsed H_used H_spareUsed H_old H_oldLeadsToNew H_limit H_every H_fresh H_made H_madeLimit H_reachedFromGlobals H_reachedInAll H_keptGlobalsUsed H_kept 0 n_H_cells f_H_cells nL f n_Q_pairs f_Q_pairs (wE G lE x) (wE G lE y) = _ from a1, bind_s]
    dsimp only
    rw [show lm_Equality_holds_2 N H_globalsUsed H_used H_spareUsed H_old H_oldLeadsToNew H_limit H_every H_fresh H_made H_madeLimit H_reachedFromGlobals H_reachedInAll H_keptGlobalsUsed H_kept n_H_cells f_H_cells nL _ N (nI r) 0 f1 (nI ps1.length) nP1 fP1 = _ from d1 .., show lm_Equality_holds_3 N nL (nI ps'.length) fP' nP' _ N 0 f' = _ from e1 .., tk_tk, tk_tk]
    rcases hr2 with rfl | rfl
    · rw [if_neg (by decide), tk_s, Nat.zero_add, Nat.zero_add, Nat.add_assoc, Nat.add_assoc]
    · rw [if_neg (by decide), tk_s, Nat.zero_add, Nat.zero_add, Nat.add_assoc, Nat.add_assoc]
  · have := d2.2.2.2
    omega
end HO
