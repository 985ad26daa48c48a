/-! Primitive 41: a string becomes a list of its bytes -/
section EX
variable {N : Nat}
variable {nk : Nat → Nat} {nm : Nat} {nid : Nat} {G : Nat → GO} {lE : List Nat} {gg : Nat → AV} {t : Nat} {gs : Nat → AV} {fr : Nat} {gc : Nat → AV} {hn : Nat} {gb : Nat → Nat} {gf : Nat → Nat} {gr : Nat → Int32} {hF : Nat → Nat} {hH : Nat → Nat} {hP : Nat → Int32} {hD : Nat → Int32} {lR : List Nat} {P_size : Int32} {P_constants : Int32} {P_closed : Int32} {P_open : Int32} {O_size : Int32} {S_top : Int32} {S_frames : Int32} {S_handlers : Int32} {H_globalsUsed : Int32} {H_used : Int32} {H_spareUsed : Int32} {H_old : Int32} {H_oldLeadsToNew : Int32} {H_limit : Int32} {H_every : Int32} {H_fresh : Int32} {H_made : Int32} {H_madeLimit : Int32} {H_reachedFromGlobals : Int32} {H_reachedInAll : Int32} {H_keptGlobalsUsed : Int32} {H_kept : Int32} {B_names : Int32} {Q_size : Int32} {M_status : Int32} {M_place : Int32} {M_next : Int32} {M_fuel : Int32} {M_ticks : Int32} {M_depth : Int32} {M_depthLimit : Int32} {M_done : Int32} {n_P_words : Nat} {f_P_words : Nat → Int32} {n_P_bytes : Nat} {f_P_bytes : Nat → Int32} {n_P_ends : Nat} {f_P_ends : Nat → Int32} {n_O_bytes : Nat} {f_O_bytes : Nat → Int32} {n_S_values : Nat} {f_S_values : Nat → Int64} {n_S_bases : Nat} {f_S_bases : Nat → Int32} {n_S_floors : Nat} {f_S_floors : Nat → Int32} {n_S_returns : Nat} {f_S_returns : Nat → Int32} {n_S_closures : Nat} {f_S_closures : Nat → Int64} {n_S_handlerFrames : Nat} {f_S_handlerFrames : Nat → Int32} {n_S_handlerPlaces : Nat} {f_S_handlerPlaces : Nat → Int32} {n_S_handlerHeights : Nat} {f_S_handlerHeights : Nat → Int32} {n_S_handlerDepths : Nat} {f_S_handlerDepths : Nat → Int32} {n_H_globals : Nat} {f_H_globals : Nat → Int64} {n_H_cells : Nat} {f_H_cells : Nat → Int64} {n_H_spare : Nat} {f_H_spare : Nat → Int64} {n_Q_links : Nat} {f_Q_links : Nat → Int32} {n_Q_pairs : Nat} {f_Q_pairs : Nat → Int64} {I : Nat → Int32} {F : Nat → Nat → Int32}
/-- a byte's pair, its link -/
def prO (b : Nat) (v : AV) : GO := (2, nI 0, 2, fun i => if i = 1 then vS (nI b) else v, fun _ => 0)
def lkO (p : Nat) : GO := (3, nI 1, 1, fun _ => vO p, fun _ => 0)
def exG (G : Nat → GO) (nid b : Nat) (v : AV) : Nat → GO := gnew (gnew G nid (prO b v)) (nid + 1) (lkO nid)
def exS (B : Nat → Nat) : Nat → (Nat → GO) × Nat × AV → (Nat → GO) × Nat × AV
  | 0, s => s
  | i + 1, s => exS B i (exG s.1 s.2.1 (B i) s.2.2, s.2.1 + 1 + 1, vO (s.2.1 + 1))
theorem pr_np {b : Nat} {v : AV} : gNp (gnew G nid (prO b v)) nid = 2 ∧ gZ (gnew G nid (prO b v)) nid = 3 ∧ gK (gnew G nid (prO b v)) nid = 2 ∧ gC (gnew G nid (prO b v)) nid = 2 ∧ gN (gnew G nid (prO b v)) nid = nI 0 := by
  unfold gNp gZ
  rw [gn_x.1, gn_x.2.1, gn_x.2.2.1]
  exact ⟨rfl, rfl, rfl, rfl, rfl⟩
theorem lk_np {p : Nat} : gNp (gnew G nid (lkO p)) nid = 1 ∧ gZ (gnew G nid (lkO p)) nid = 2 ∧ gK (gnew G nid (lkO p)) nid = 3 ∧ gC (gnew G nid (lkO p)) nid = 1 ∧ gN (gnew G nid (lkO p)) nid = nI 1 := by
  unfold gNp gZ
  rw [gn_x.1, gn_x.2.1, gn_x.2.2.1]
  exact ⟨rfl, rfl, rfl, rfl, rfl⟩
theorem ok_pr {b : Nat} {v : AV} {l : List Nat} (hv : okV nk nm l v) : okN nk nm nid G l (prO b v) := by
  refine ⟨?_, fun i h1 h2 => ?_⟩
  · unfold okO
    rw [pr_np.2.2.1, pr_np.2.2.2.1, pr_np.2.2.2.2]
    exact Or.inl ⟨rfl, rfl, by omega, by omega⟩
  · show okV nk nm l (if i = 1 then vS (nI b) else v)
    by_cases e : i = 1
    · rw [if_pos e]; trivial
    · rw [if_neg e]; exact hv
theorem ok_lk {p : Nat} {l : List Nat} (hv : p ∈ l) : okN nk nm nid G l (lkO p) := by
  refine ⟨?_, fun i h1 h2 => hv⟩
  unfold okO
  rw [lk_np.2.2.1, lk_np.2.2.2.1]
  exact Or.inr (Or.inl ⟨rfl, rfl⟩)
theorem bd_n' {x : Nat} (h : x < 131072) : ¬ (nI x < 0 ∨ 131072 ≤ x) := fun h => h.elim (nI_pos (by omega)) (by omega)
theorem exs_E {b : Nat} {v : AV} {c4 : Nat → Int64} (he : eR nk nm nid G lE gg t gs fr gc hn gb gf gr hF hH hP hD S_top S_frames S_handlers n_S_values f_S_values n_S_bases f_S_bases n_S_floors f_S_floors n_S_returns f_S_returns n_S_closures f_S_closures n_S_handlerFrames f_S_handlerFrames n_S_handlerPlaces f_S_handlerPlaces n_S_handlerHeights f_S_handlerHeights n_S_handlerDepths f_S_handlerDepths H_globalsUsed H_used H_old H_oldLeadsToNew f_H_globals n_H_cells f_H_cells n_H_spare) (hv : okV nk nm lE v) (hroom : tot (gZ G) lE + 5 ≤ n_H_cells) (hlow : ∀ a, a < tot (gZ G) lE → c4 a = f_H_cells a) (h0 : c4 (tot (gZ G) lE) = hdW 2 (nI 0) 2) (h1 : c4 (tot (gZ G) lE + 1) = scW (nI b)) (h2 : c4 (tot (gZ G) lE + 2) = wE G lE v) (h3 : c4 (tot (gZ G) lE + 3) = hdW 3 (nI 1) 1) (h4 : c4 (tot (gZ G) lE + 4) = obW 2 (tot (gZ G) lE)) :
    eR nk nm (nid + 1 + 1) (exG G nid b v) (lE ++ [nid] ++ [nid + 1]) gg t gs fr gc hn gb gf gr hF hH hP hD S_top S_frames S_handlers n_S_values f_S_values n_S_bases f_S_bases n_S_floors f_S_floors n_S_returns f_S_returns n_S_closures f_S_closures n_S_handlerFrames f_S_handlerFrames n_S_handlerPlaces f_S_handlerPlaces n_S_handlerHeights f_S_handlerHeights n_S_handlerDepths f_S_handlerDepths H_globalsUsed (nI (tot (gZ G) lE + 5)) H_old H_oldLeadsToNew f_H_globals n_H_cells c4 n_H_spare ∧ wE (exG G nid b v) (lE ++ [nid] ++ [nid + 1]) (vO (nid + 1)) = obW 3 (tot (gZ G) lE + 3) ∧ tot (gZ (exG G nid b v)) (lE ++ [nid] ++ [nid + 1]) = tot (gZ G) lE + 5 := by
  have hG := he.2.2.2.2.1.1
  have np1 := pr_np (G := G) (nid := nid) (b := b) (v := v)
  have np2 := lk_np (G := gnew G nid (prO b v)) (nid := nid + 1) (p := nid)
  have e1 := eR_new (x := prO b v) (c' := c4) he (ok_pr hv) (by rw [np1.2.1]; omega) hlow (by rw [h0]; unfold hE; rw [np1.2.2.1, np1.2.2.2.1, np1.2.2.2.2, if_neg (by omega)]) (fun i hi hin => by
    rw [np1.1] at hin
    have : i = 1 ∨ i = 2 := by omega
    rcases this with rfl | rfl
    · exact h1
    · exact h2) (fun h => absurd (show (2 : Nat) = 6 from h) (by omega))
  rw [np1.2.1] at e1
  have hG1 := e1.2.2.2.2.1.1
  have ht1 : tot (gZ (gnew G nid (prO b v))) (lE ++ [nid]) = tot (gZ G) lE + 3 := by rw [tot_nid hG, np1.2.1]
  have ha1 : adr (gZ (gnew G nid (prO b v))) (lE ++ [nid]) nid = tot (gZ G) lE := adr_nid hG
  have e2 := eR_new (x := lkO nid) (c' := c4) e1 (ok_lk (List.mem_append_right _ (List.mem_singleton.mpr rfl))) (by rw [np2.2.1, ht1]; omega) (fun _ _ => rfl) (by rw [ht1, h3]; unfold hE; rw [np2.2.2.1, np2.2.2.2.1, np2.2.2.2.2, if_neg (by omega)]) (fun i hi hin => by
    rw [np2.1] at hin
    have : i = 1 := by omega
    subst this
    rw [ht1]
    show c4 (tot (gZ G) lE + 3 + 1) = obW (gK (gnew G nid (prO b v)) nid) (adr (gZ (gnew G nid (prO b v))) (lE ++ [nid]) nid)
    rw [np1.2.2.1, ha1]
    exact h4) (fun h => absurd (show (3 : Nat) = 6 from h) (by omega))
  rw [np2.2.1, ht1] at e2
  refine ⟨e2, ?_, ?_⟩
  · show obW (gK _ _) (adr _ _ _) = _
    unfold exG
    rw [adr_nid hG1, np2.2.2.1, ht1]
  · unfold exG
    rw [tot_nid hG1, np2.2.1, ht1]
theorem exs_R {b : Nat} {v : AV} {J : Nat → Int32} {C : Nat → Nat → Int32} (hr : rR nk nm nid G lR gg t gs fr gc hn gb gf gr hF hH hP hD I F) (hv : okV nk nm lR v) (hroom : tot (gZ G) lR + 5 ≤ 131072) (hlow : ∀ a, a < tot (gZ G) lR → C 0 a = F 0 a ∧ C 1 a = F 1 a) (h0 : C 0 (tot (gZ G) lR) = nI (2 + 256 * 2) ∧ C 1 (tot (gZ G) lR) = nI 0) (h1 : C 0 (tot (gZ G) lR + 1) = nI 0 ∧ C 1 (tot (gZ G) lR + 1) = nI b) (h2 : C 0 (tot (gZ G) lR + 2) = tR v ∧ C 1 (tot (gZ G) lR + 2) = vR G lR v) (h3 : C 0 (tot (gZ G) lR + 3) = nI (3 + 256 * 1) ∧ C 1 (tot (gZ G) lR + 3) = nI 1) (h4 : C 0 (tot (gZ G) lR + 4) = nI 2 ∧ C 1 (tot (gZ G) lR + 4) = nI (tot (gZ G) lR)) (hFo : ∀ j, j ≠ 0 → j ≠ 1 → C j = F j) (hJ3 : J 3 = nI (tot (gZ G) lR + 5)) (hJ : ∀ j, j ≠ 3 → J j = I j) :
    rR nk nm (nid + 1 + 1) (exG G nid b v) (lR ++ [nid] ++ [nid + 1]) gg t gs fr gc hn gb gf gr hF hH hP hD J C ∧ vR (exG G nid b v) (lR ++ [nid] ++ [nid + 1]) (vO (nid + 1)) = nI (tot (gZ G) lR + 3) ∧ tot (gZ (exG G nid b v)) (lR ++ [nid] ++ [nid + 1]) = tot (gZ G) lR + 5 := by
  have hG := hr.2.2.1
  have np1 := pr_np (G := G) (nid := nid) (b := b) (v := v)
  have np2 := lk_np (G := gnew G nid (prO b v)) (nid := nid + 1) (p := nid)
  have e1 := rR_new (x := prO b v) (I' := upd I 3 (nI (tot (gZ G) lR + 3))) (F' := C) hr (ok_pr hv) (by rw [np1.2.1]; omega) hlow (by rw [h0.1]; unfold thR; rw [np1.2.2.1, np1.2.2.2.1, if_neg (by omega), if_neg (by omega)]) (by rw [h0.2]; unfold chR; rw [np1.2.2.1, np1.2.2.2.2, if_neg (by omega)]) (fun i hi hin => by
    rw [np1.1] at hin
    have : i = 1 ∨ i = 2 := by omega
    rcases this with rfl | rfl
    · exact h1
    · exact h2) (fun h => absurd (show (2 : Nat) = 6 from h) (by omega)) hFo (by rw [upd_e rfl, np1.2.1]) (fun j hj => upd_n hj)
  have hG1 := e1.2.2.1
  have ht1 : tot (gZ (gnew G nid (prO b v))) (lR ++ [nid]) = tot (gZ G) lR + 3 := by rw [tot_nid hG, np1.2.1]
  have ha1 : adr (gZ (gnew G nid (prO b v))) (lR ++ [nid]) nid = tot (gZ G) lR := adr_nid hG
  have e2 := rR_new (x := lkO nid) (I' := J) (F' := C) e1 (ok_lk (List.mem_append_right _ (List.mem_singleton.mpr rfl))) (by rw [np2.2.1, ht1]; omega) (fun _ _ => ⟨rfl, rfl⟩) (by rw [ht1, h3.1]; unfold thR; rw [np2.2.2.1, np2.2.2.2.1, if_neg (by omega), if_neg (by omega)]) (by rw [ht1, h3.2]; unfold chR; rw [np2.2.2.1, np2.2.2.2.2, if_neg (by omega)]) (fun i hi hin => by
    rw [np2.1] at hin
    have : i = 1 := by omega
    subst this
    rw [ht1]
    show C 0 (tot (gZ G) lR + 3 + 1) = nI 2 ∧ C 1 (tot (gZ G) lR + 3 + 1) = nI (adr (gZ (gnew G nid (prO b v))) (lR ++ [nid]) nid)
    rw [ha1]
    exact h4) (fun h => absurd (show (3 : Nat) = 6 from h) (by omega)) (fun _ _ _ => rfl) (by rw [hJ3, np2.2.1, ht1]) (fun j hj => by rw [upd_n hj]; exact hJ j hj)
  refine ⟨e2, ?_, ?_⟩
  · show nI (adr _ _ _) = _
    unfold exG
    rw [adr_nid hG1, ht1]
  · unfold exG
    rw [tot_nid hG1, np2.2.1, ht1]
theorem ex_keep {b : Nat} {v : AV} {o : Nat} {l : List Nat} (hG : wf nk nm nid G l) (ho : o ∈ l) : gK (exG G nid b v) o = gK G o ∧ gC (exG G nid b v) o = gC G o ∧ gB (exG G nid b v) o = gB G o ∧ o ∈ l ++ [nid] ++ [nid + 1] ∧ adr (gZ (exG G nid b v)) (l ++ [nid] ++ [nid + 1]) o = adr (gZ G) l o := by
  have h1 := (hG.2 o ho).1
  unfold exG
  refine ⟨?_, ?_, ?_, List.mem_append_left _ (List.mem_append_left _ ho), ?_⟩
  · rw [gK_n (by omega), gK_n (by omega)]
  · rw [gC_n (by omega), gC_n (by omega)]
  · rw [gB_n (by omega), gB_n (by omega)]
  · rw [adr_l (List.mem_append_left _ ho), adr_l ho]
    refine adr_congr (fun q hq => ?_) o
    have := (hG.2 q hq).1
    rw [gZ_n (by omega), gZ_n (by omega)]
theorem byte_o {o k : Nat} {c : Nat → Int64} (he : eR nk nm nid G lE gg t gs fr gc hn gb gf gr hF hH hP hD S_top S_frames S_handlers n_S_values f_S_values n_S_bases f_S_bases n_S_floors f_S_floors n_S_returns f_S_returns n_S_closures f_S_closures n_S_handlerFrames f_S_handlerFrames n_S_handlerPlaces f_S_handlerPlaces n_S_handlerHeights f_S_handlerHeights n_S_handlerDepths f_S_handlerDepths H_globalsUsed H_used H_old H_oldLeadsToNew f_H_globals n_H_cells f_H_cells n_H_spare) (ho : o ∈ lE) (hK : gK G o = 6) (hk : k < gC G o) (hc : ∀ a, a < tot (gZ G) lE → c a = f_H_cells a) : ∀ (H_globalsUsed : Int32) (H_used : Int32) (H_spareUsed : Int32) (H_old : Int32) (H_oldLeadsToNew : Int32) (H_limit : Int32) (H_every : Int32) (H_fresh : Int32) (H_made : Int32) (H_madeLimit : Int32) (H_reachedFromGlobals : Int32) (H_reachedInAll : Int32) (H_keptGlobalsUsed : Int32) (H_kept : Int32), m_Heap_byteAt N H_globalsUsed H_used H_spareUsed H_old H_oldLeadsToNew H_limit H_every H_fresh H_made H_madeLimit H_reachedFromGlobals H_reachedInAll H_keptGlobalsUsed H_kept n_H_cells c (nI (adr (gZ G) lE o)) (nI k) = some (nI (gB G o k)) := by
  obtain ⟨hG, hT, hC, hH', hnn⟩ := eR_hp he
  have O1 := str_ok (hG.2 o ho).2.1 hK
  have hend := adr_end (Z := gZ G) ho
  have hz : gZ G o = 1 + (gC G o + 3) / 4 := by unfold gZ; rw [if_pos hK]
  exact byteAt_w O1.2.1 (by omega) (by omega) hC (by rw [hc _ (by omega)]; exact (hH' o ho).2.2 hK _ (by omega))
theorem byte_r {o k : Nat} {J : Nat → Int32} {C : Nat → Nat → Int32} (hr : rR nk nm nid G lR gg t gs fr gc hn gb gf gr hF hH hP hD I F) (ho : o ∈ lR) (hK : gK G o = 6) (hk : k < gC G o) (hc : ∀ a, a < tot (gZ G) lR → C 1 a = F 1 a) : m_Model_byteAt N J C (nI (adr (gZ G) lR o)) (nI k) = some (nI (gB G o k)) := by
  obtain ⟨c1, c2, c3, c4, c5, c6⟩ := hr.2.2
  have O1 := str_ok (c1.2 o ho).2.1 hK
  have hend := adr_end (Z := gZ G) ho
  have hz : gZ G o = 1 + (gC G o + 3) / 4 := by unfold gZ; rw [if_pos hK]
  exact byteAt_r O1.2.1 (by omega) (by omega) (by rw [hc _ (by omega)]; exact (c5 o ho).2.2.2 hK _ (by omega))
theorem lay_E {u nC k : Nat} {c : Nat → Int64} {w : Int64} (hu : u < nC) (hC : nC ≤ 131072) : ∀ (H_globalsUsed : Int32) (H_spareUsed : Int32) (H_old : Int32) (H_oldLeadsToNew : Int32) (H_limit : Int32) (H_every : Int32) (H_fresh : Int32) (H_made : Int32) (H_madeLimit : Int32) (H_reachedFromGlobals : Int32) (H_reachedInAll : Int32) (H_keptGlobalsUsed : Int32) (H_kept : Int32), m_Heap_lay N H_globalsUsed (nI u) H_spareUsed H_old H_oldLeadsToNew H_limit H_every H_fresh H_made H_madeLimit H_reachedFromGlobals H_reachedInAll H_keptGlobalsUsed H_kept nC c w (nI k) = some (nI u, vp_updL c u w, H_fresh + nI k, nI (u + k)) := by
  intros
  unfold m_Heap_lay
  rw [if_neg (bd_n hu (by omega)), q_cl (by omega), q_add]
theorem ex2_step {H_globalsUsed H_limit H_every H_madeLimit H_keptGlobalsUsed H_kept m6 m7 m8 m9 m10 m11 fresh : Int32} {nC u i b m a : Nat} {c : Nat → Int64} {w : Int64} (hu : u + 5 ≤ nC) (hC : nC ≤ 131072) (hi : i < 100000) (hb : ∀ (c' : Nat → Int64), (∀ x, x < u → c' x = c x) → ∀ (H_globalsUsed : Int32) (H_used : Int32) (H_spareUsed : Int32) (H_old : Int32) (H_oldLeadsToNew : Int32) (H_limit : Int32) (H_every : Int32) (H_fresh : Int32) (H_made : Int32) (H_madeLimit : Int32) (H_reachedFromGlobals : Int32) (H_reachedInAll : Int32) (H_keptGlobalsUsed : Int32) (H_kept : Int32), m_Heap_byteAt N H_globalsUsed H_used H_spareUsed H_old H_oldLeadsToNew H_limit H_every H_fresh H_made H_madeLimit H_reachedFromGlobals H_reachedInAll H_keptGlobalsUsed H_kept nC c' (nI a) (nI i) = some (nI b)) (α : Type) (k : Int64 → Int32 → (Nat → Int64) → Int32 → Int32 → Option (α × Nat × Nat)) :
    lm_Strings_explode_2 N H_globalsUsed H_limit H_every H_madeLimit H_keptGlobalsUsed H_kept m6 m7 m8 m9 m10 m11 nC (nI a) k (m + 1) w (nI (i + 1) - 1) c fresh (nI u) = lm_Strings_explode_2 N H_globalsUsed H_limit H_every H_madeLimit H_keptGlobalsUsed H_kept m6 m7 m8 m9 m10 m11 nC (nI a) k m (obW 3 (u + 3)) (nI i - 1) (vp_updL (vp_updL (vp_updL (vp_updL (vp_updL c u (hdW 2 (nI 0) 2)) (u + 1) (scW (nI b))) (u + 2) w) (u + 3) (hdW 3 (nI 1) 1)) (u + 4) (obW 2 u)) (fresh + nI 3 + nI 2) (nI (u + 5)) := by
  have e0 : nI (i + 1) - 1 = nI i := by rw [show (1 : Int32) = nI 1 from rfl, q_sub (by omega), Nat.add_sub_cancel]
  have h1 : m_Value_head N 2 0 2 = some (hdW 2 (nI 0) 2) := hd_E (K := 2) (c := 2) (num := nI 0) (by omega) (by omega)
  have h2 : m_Value_head N 3 1 1 = some (hdW 3 (nI 1) 1) := hd_E (K := 3) (c := 1) (num := nI 1) (by omega) (by omega)
  have o1 : m_Value_object N 2 (nI u) = some (obW 2 u) := ob_E (K := 2) (by omega) (by omega)
  have o2 : m_Value_object N 3 (nI (u + 3)) = some (obW 3 (u + 3)) := ob_E (K := 3) (by omega) (by omega)
  have l1 : ∀ (H_globalsUsed H_spareUsed H_old H_oldLeadsToNew H_limit H_every H_fresh H_made H_madeLimit H_reachedFromGlobals H_reachedInAll H_keptGlobalsUsed H_kept : Int32), m_Heap_lay N H_globalsUsed (nI u) H_spareUsed H_old H_oldLeadsToNew H_limit H_every H_fresh H_made H_madeLimit H_reachedFromGlobals H_reachedInAll H_keptGlobalsUsed H_kept nC c (hdW 2 (nI 0) 2) 3 = some (nI u, vp_updL c u (hdW 2 (nI 0) 2), H_fresh + nI 3, nI (u + 3)) := lay_E (k := 3) (by omega) hC
  have l2 := lay_E (N := N) (u := u + 3) (nC := nC) (k := 2) (c := vp_updL (vp_updL (vp_updL c u (hdW 2 (nI 0) 2)) (u + 1) (scW (nI b))) (u + 2) w) (w := hdW 3 (nI 1) 1) (by omega) hC
  have g1 := hb (vp_updL c u (hdW 2 (nI 0) 2)) (fun x hx => updL_n (by omega))
  rw [lm_Strings_explode_2, e0, if_neg (nI_pos (by omega)), h1, bind_s, l1, bind_s]
  dsimp only
  rw [g1, bind_s, sc_s, bind_s, show nI u + 1 = nI (u + 1) from nI_1 u, show nI u + 2 = nI (u + 2) from q_add u 2, if_neg (bd_n (by omega) (by omega)), if_neg (bd_n (by omega) (by omega)), h2, bind_s, q_cl (by omega), q_cl (by omega), show (2 : Int32) = nI 2 from rfl, l2, bind_s]
  dsimp only
  rw [show m_Value_object N (nI 2) (nI u) = _ from o1, bind_s, show nI (u + 3) + 1 = nI (u + 3 + 1) from nI_1 (u + 3), if_neg (bd_n (by omega) (by omega)), o2, bind_s, q_cl (by omega), show nI i + (-1) = nI i - 1 from (Int32.sub_eq_add_neg _ _).symm]
theorem ex2 {H_limit H_every H_madeLimit H_keptGlobalsUsed H_kept m6 m7 m8 m9 m10 m11 : Int32} {o a n : Nat} {B : Nat → Nat} :
    ∀ (i m nid : Nat) (G : Nat → GO) (lE : List Nat) (c : Nat → Int64) (fresh : Int32) (v : AV), i ≤ n → i < m → tot (gZ G) lE + 5 * i ≤ n_H_cells → okV nk nm lE v → o ∈ lE → gK G o = 6 → gC G o = n → gB G o = B → adr (gZ G) lE o = a → eR nk nm nid G lE gg t gs fr gc hn gb gf gr hF hH hP hD S_top S_frames S_handlers n_S_values f_S_values n_S_bases f_S_bases n_S_floors f_S_floors n_S_returns f_S_returns n_S_closures f_S_closures n_S_handlerFrames f_S_handlerFrames n_S_handlerPlaces f_S_handlerPlaces n_S_handlerHeights f_S_handlerHeights n_S_handlerDepths f_S_handlerDepths H_globalsUsed (nI (tot (gZ G) lE)) H_old H_oldLeadsToNew f_H_globals n_H_cells c n_H_spare →
      ∃ (l' : List Nat) (c' : Nat → Int64) (fresh' : Int32), (∀ (α : Type) (k : Int64 → Int32 → (Nat → Int64) → Int32 → Int32 → Option (α × Nat × Nat)), lm_Strings_explode_2 N H_globalsUsed H_limit H_every H_madeLimit H_keptGlobalsUsed H_kept m6 m7 m8 m9 m10 m11 n_H_cells (nI a) k m (wE G lE v) (nI i - 1) c fresh (nI (tot (gZ G) lE)) = k (wE (exS B i (G, nid, v)).1 l' (exS B i (G, nid, v)).2.2) (nI 0 - 1) c' fresh' (nI (tot (gZ (exS B i (G, nid, v)).1) l'))) ∧
        eR nk nm ((exS B i (G, nid, v)).2.1) ((exS B i (G, nid, v)).1) l' gg t gs fr gc hn gb gf gr hF hH hP hD S_top S_frames S_handlers n_S_values f_S_values n_S_bases f_S_bases n_S_floors f_S_floors n_S_returns f_S_returns n_S_closures f_S_closures n_S_handlerFrames f_S_handlerFrames n_S_handlerPlaces f_S_handlerPlaces n_S_handlerHeights f_S_handlerHeights n_S_handlerDepths f_S_handlerDepths H_globalsUsed (nI (tot (gZ (exS B i (G, nid, v)).1) l')) H_old H_oldLeadsToNew f_H_globals n_H_cells c' n_H_spare ∧ okV nk nm l' (exS B i (G, nid, v)).2.2
  | 0, m, nid, G, lE, c, fresh, v, _, hm, _, hv, _, _, _, _, _, he => by
    obtain ⟨m, rfl⟩ : ∃ m', m = m' + 1 := ⟨m - 1, by omega⟩
    refine ⟨lE, c, fresh, fun α k => ?_, he, hv⟩
    rw [lm_Strings_explode_2, if_pos (by decide)]
    rfl
  | i + 1, m, nid, G, lE, c, fresh, v, hi, hm, hroom, hv, ho, hK, hn6, hB, ha, he => by
    obtain ⟨m, rfl⟩ : ∃ m', m = m' + 1 := ⟨m - 1, by omega⟩
    obtain ⟨hG, hT, hC, hH', hnn⟩ := eR_hp he
    have O1 := str_ok (hG.2 o ho).2.1 hK
    have hst := fun α k => ex2_step (N := N) (H_globalsUsed := H_globalsUsed) (H_limit := H_limit) (H_every := H_every) (H_madeLimit := H_madeLimit) (H_keptGlobalsUsed := H_keptGlobalsUsed) (H_kept := H_kept) (m6 := m6) (m7 := m7) (m8 := m8) (m9 := m9) (m10 := m10) (m11 := m11) (fresh := fresh) (nC := n_H_cells) (u := tot (gZ G) lE) (i := i) (b := B i) (m := m) (a := a) (c := c) (w := wE G lE v) (by omega) hC (by omega) (fun c' hc => by rw [← ha, ← hB]; exact byte_o he ho hK (by omega) hc) α k
    have hst2 := exs_E (b := B i) (v := v) (c4 := vp_updL (vp_updL (vp_updL (vp_updL (vp_updL c (tot (gZ G) lE) (hdW 2 (nI 0) 2)) (tot (gZ G) lE + 1) (scW (nI (B i)))) (tot (gZ G) lE + 2) (wE G lE v)) (tot (gZ G) lE + 3) (hdW 3 (nI 1) 1)) (tot (gZ G) lE + 4) (obW 2 (tot (gZ G) lE))) he hv (by omega) (fun x hx => by rw [updL_n (by omega), updL_n (by omega), updL_n (by omega), updL_n (by omega), updL_n (by omega)]) (by rw [updL_n (by omega), updL_n (by omega), updL_n (by omega), updL_n (by omega), updL_e rfl]) (by rw [updL_n (by omega), updL_n (by omega), updL_n (by omega), updL_e rfl]) (by rw [updL_n (by omega), updL_n (by omega), updL_e rfl]) (by rw [updL_n (by omega), updL_e rfl]) (by rw [updL_e rfl])
    obtain ⟨e1, e2, e3⟩ := hst2
    obtain ⟨k1, k2, k3, k4, k5⟩ := ex_keep (b := B i) (v := v) hG ho
    rw [← e3] at e1
    obtain ⟨l', c', fresh', d1, d2, d3⟩ := ex2 (H_limit := H_limit) (H_every := H_every) (H_madeLimit := H_madeLimit) (H_keptGlobalsUsed := H_keptGlobalsUsed) (H_kept := H_kept) (m6 := m6) (m7 := m7) (m8 := m8) (m9 := m9) (m10 := m10) (m11 := m11) (n := n) (B := B) i m (nid + 1 + 1) (exG G nid (B i) v) (lE ++ [nid] ++ [nid + 1]) _ (fresh + nI 3 + nI 2) (vO (nid + 1)) (by omega) (by omega) (by rw [e3]; omega) (List.mem_append_right _ (List.mem_singleton.mpr rfl)) k4 (k1.trans hK) (k2.trans hn6) (k3.trans hB) (k5.trans ha) e1
    refine ⟨l', c', fresh', fun α k => ?_, d2, d3⟩
    rw [hst, ← e2, ← e3]
    exact d1 α k
theorem ex2R_step {J : Nat → Int32} {C : Nat → Nat → Int32} {u i b m a : Nat} {tg vl : Int32} (hJ : J 3 = nI u) (hu : u + 5 ≤ 131072) (hi : i < 100000) (hb : ∀ (J' : Nat → Int32) (C' : Nat → Nat → Int32), (∀ x, x < u → C' 1 x = C 1 x) → m_Model_byteAt N J' C' (nI a) (nI i) = some (nI b)) :
    ∃ (J' : Nat → Int32) (C' : Nat → Nat → Int32), (∀ (ζ : Type) (k : Int32 → Int32 → Int32 → (Nat → Nat → Int32) → (Nat → Int32) → Option ζ), lm_Model_explode_2 N (nI a) k (m + 1) tg vl (nI (i + 1) - 1) C J = lm_Model_explode_2 N (nI a) k m (nI 2) (nI (u + 3)) (nI i - 1) C' J') ∧ (∀ x, x < u → C' 0 x = C 0 x ∧ C' 1 x = C 1 x) ∧ (C' 0 u = nI (2 + 256 * 2) ∧ C' 1 u = nI 0) ∧ (C' 0 (u + 1) = nI 0 ∧ C' 1 (u + 1) = nI b) ∧ (C' 0 (u + 2) = tg ∧ C' 1 (u + 2) = vl) ∧ (C' 0 (u + 3) = nI (3 + 256 * 1) ∧ C' 1 (u + 3) = nI 1) ∧ (C' 0 (u + 4) = nI 2 ∧ C' 1 (u + 4) = nI u) ∧ (∀ j, j ≠ 0 → j ≠ 1 → C' j = C j) ∧ J' 3 = nI (u + 5) ∧ (∀ j, j ≠ 3 → J' j = J j) := by
  have e0 : nI (i + 1) - 1 = nI i := by rw [show (1 : Int32) = nI 1 from rfl, q_sub (by omega), Nat.add_sub_cancel]
  have m1 : m_Model_make N J C 2 2 0 3 = _ := make_R (N := N) (I := J) (F := C) (K := 2) (n := 2) (a := u) (sz := 3) (num := nI 0) hJ (by omega) (by omega) (by omega)
  obtain ⟨C1, hC1⟩ : ∃ C1, C1 = updF (updF C 0 (upd (C 0) u (nI (2 + 256 * 2)))) 1 (upd (C 1) u (nI 0)) := ⟨_, rfl⟩
  obtain ⟨C2, hC2⟩ : ∃ C2, C2 = updF C1 0 (upd (C1 0) (u + 1) 0) := ⟨_, rfl⟩
  obtain ⟨C3, hC3⟩ : ∃ C3, C3 = updF C2 1 (upd (C2 1) (u + 1) (nI b)) := ⟨_, rfl⟩
  obtain ⟨C4, hC4⟩ : ∃ C4, C4 = updF C3 0 (upd (C3 0) (u + 2) tg) := ⟨_, rfl⟩
  obtain ⟨C5, hC5⟩ : ∃ C5, C5 = updF C4 1 (upd (C4 1) (u + 2) vl) := ⟨_, rfl⟩
  obtain ⟨C6, hC6⟩ : ∃ C6, C6 = updF (updF C5 0 (upd (C5 0) (u + 3) (nI (3 + 256 * 1)))) 1 (upd (C5 1) (u + 3) (nI 1)) := ⟨_, rfl⟩
  obtain ⟨C7, hC7⟩ : ∃ C7, C7 = updF C6 0 (upd (C6 0) (u + 4) 2) := ⟨_, rfl⟩
  obtain ⟨C8, hC8⟩ : ∃ C8, C8 = updF C7 1 (upd (C7 1) (u + 4) (nI u)) := ⟨_, rfl⟩
  rw [← hC1] at m1
  have m2 : m_Model_make N (upd J 3 (nI (u + 3))) C5 3 1 1 2 = some (nI (u + 3), C6, upd (upd J 3 (nI (u + 3))) 3 (nI (u + 3 + 2))) := by
    rw [hC6]
    exact make_R (N := N) (I := upd J 3 (nI (u + 3))) (F := C5) (K := 3) (n := 1) (a := u + 3) (sz := 2) (num := nI 1) (upd_e rfl) (by omega) (by omega) (by omega)
  have g1 := hb (upd J 3 (nI (u + 3))) C2 (fun x hx => by rw [hC2, updF_n (by omega), hC1, updF_e rfl, upd_n (by omega)])
  refine ⟨upd (upd J 3 (nI (u + 3))) 3 (nI (u + 3 + 2)), C8, fun ζ k => ?_, ?_⟩
  · rw [lm_Model_explode_2, e0, if_neg (nI_pos (by omega)), m1, bind_s]
    dsimp only
    rw [show nI u + 1 = nI (u + 1) from nI_1 u, show nI u + 2 = nI (u + 2) from q_add u 2, if_neg (bd_n (by omega) (by omega)), q_cl (by omega), let_d, ← hC2, g1, bind_s, if_neg (bd_n' (by omega)), let_d, ← hC3, if_neg (bd_n (by omega) (by omega)), q_cl (by omega), let_d, ← hC4, if_neg (bd_n' (by omega)), let_d, ← hC5, m2, bind_s]
    dsimp only
    rw [show nI (u + 3) + 1 = nI (u + 4) from nI_1 (u + 3), if_neg (bd_n (by omega) (by omega)), q_cl (by omega), let_d, ← hC7, if_neg (bd_n' (by omega)), let_d, ← hC8, show nI i + (-1) = nI i - 1 from (Int32.sub_eq_add_neg _ _).symm]
    rfl
  · subst hC8 hC7 hC6 hC5 hC4 hC3 hC2 hC1
    refine ⟨fun x hx => ?_, ?_, ?_, ?_, ?_, ?_, fun j h0 h1 => ?_, ?_, fun j hj => ?_⟩
    all_goals simp (disch := omega) only [updF_e, updF_n, upd_e, upd_n, and_self, true_and, and_true]
    all_goals first | rfl | exact ⟨rfl, rfl⟩
theorem ex2R {o a n : Nat} {B : Nat → Nat} :
    ∀ (i m nid : Nat) (G : Nat → GO) (lR : List Nat) (J : Nat → Int32) (C : Nat → Nat → Int32) (v : AV), i ≤ n → i < m → tot (gZ G) lR + 5 * i ≤ 131072 → okV nk nm lR v → o ∈ lR → gK G o = 6 → gC G o = n → gB G o = B → adr (gZ G) lR o = a → rR nk nm nid G lR gg t gs fr gc hn gb gf gr hF hH hP hD J C →
      ∃ (l' : List Nat) (J' : Nat → Int32) (C' : Nat → Nat → Int32), (∀ (ζ : Type) (k : Int32 → Int32 → Int32 → (Nat → Nat → Int32) → (Nat → Int32) → Option ζ), lm_Model_explode_2 N (nI a) k m (tR v) (vR G lR v) (nI i - 1) C J = k (tR (exS B i (G, nid, v)).2.2) (vR (exS B i (G, nid, v)).1 l' (exS B i (G, nid, v)).2.2) (nI 0 - 1) C' J') ∧
        rR nk nm ((exS B i (G, nid, v)).2.1) ((exS B i (G, nid, v)).1) l' gg t gs fr gc hn gb gf gr hF hH hP hD J' C' ∧ okV nk nm l' (exS B i (G, nid, v)).2.2 ∧ (∀ j, j ≠ 3 → J' j = J j) ∧ (∀ j, j ≠ 0 → j ≠ 1 → C' j = C j)
  | 0, m, nid, G, lR, J, C, v, _, hm, _, hv, _, _, _, _, _, hr => by
    obtain ⟨m, rfl⟩ : ∃ m', m = m' + 1 := ⟨m - 1, by omega⟩
    refine ⟨lR, J, C, fun ζ k => ?_, hr, hv, fun _ _ => rfl, fun _ _ _ => rfl⟩
    rw [lm_Model_explode_2, if_pos (by decide)]
    rfl
  | i + 1, m, nid, G, lR, J, C, v, hi, hm, hroom, hv, ho, hK, hn6, hB, ha, hr => by
    obtain ⟨m, rfl⟩ : ∃ m', m = m' + 1 := ⟨m - 1, by omega⟩
    have hG := hr.2.2.1
    have O1 := str_ok (hG.2 o ho).2.1 hK
    obtain ⟨J1, C1, d1, d2, d3, d4, d5, d6, d7, d8, d9, d10⟩ := ex2R_step (N := N) (J := J) (C := C) (u := tot (gZ G) lR) (i := i) (b := B i) (m := m) (a := a) (tg := tR v) (vl := vR G lR v) hr.2.2.2.2.1 (by omega) (by omega) (fun J' C' hc => by rw [← ha, ← hB]; exact byte_r hr ho hK (by omega) hc)
    obtain ⟨e1, e2, e3⟩ := exs_R (b := B i) (v := v) (J := J1) (C := C1) hr hv (by omega) d2 d3 d4 d5 d6 d7 d8 d9 d10
    obtain ⟨k1, k2, k3, k4, k5⟩ := ex_keep (b := B i) (v := v) hG ho
    obtain ⟨l', J', C', f1, f2, f3, f4, f5⟩ := ex2R (n := n) (B := B) i m (nid + 1 + 1) (exG G nid (B i) v) (lR ++ [nid] ++ [nid + 1]) J1 C1 (vO (nid + 1)) (by omega) (by omega) (by rw [e3]; omega) (List.mem_append_right _ (List.mem_singleton.mpr rfl)) k4 (k1.trans hK) (k2.trans hn6) (k3.trans hB) (k5.trans ha) e1
    refine ⟨l', J', C', fun ζ k => ?_, f2, f3, fun j hj => by rw [f4 j hj, d10 j hj], fun j h0 h1 => by rw [f5 j h0 h1, d8 j h0 h1]⟩
    rw [d1, ← e2]
    exact f1 ζ k
theorem exp_z {w0 : Int64} {a0 n0 st2 top2 : Int32} {va2 : Nat → Int64} (hN : 400000 ≤ N) (h1 : m_Stacks_peek N S_top S_frames S_handlers n_S_values f_S_values 0 = some w0) (h2 : m_Heap_told N H_globalsUsed H_used H_spareUsed H_old H_oldLeadsToNew H_limit H_every H_fresh H_made H_madeLimit H_reachedFromGlobals H_reachedInAll H_keptGlobalsUsed H_kept n_H_cells f_H_cells w0 = some n0) (h3 : n0 ≤ 0) (h4 : m_Value_number N w0 = some a0) (h5 : n0 - 1 < 0) (h6 : m_Stacks_replace N S_top S_frames S_handlers n_S_values f_S_values 1 (scW (nI 0)) = some (st2, va2, top2)) : m_Strings_explode N S_top S_frames S_handlers H_globalsUsed H_used H_spareUsed H_old H_oldLeadsToNew H_limit H_every H_fresh H_made H_madeLimit H_reachedFromGlobals H_reachedInAll H_keptGlobalsUsed H_kept n_S_values f_S_values n_S_closures f_S_closures n_H_globals f_H_globals n_H_cells f_H_cells n_H_spare f_H_spare = some ((st2, f_H_globals, f_S_closures, va2, H_fresh, H_made, H_old, H_oldLeadsToNew, H_reachedFromGlobals, H_reachedInAll, H_spareUsed, H_used, top2, n_H_cells, f_H_cells, n_H_spare, f_H_spare), 0, 0) := by
  obtain ⟨M, rfl⟩ : ∃ M, N = M + 1 := ⟨N - 1, by omega⟩
  unfold m_Strings_explode
  rw [h1, bind_s, h2, bind_s, if_pos h3, bind_s, h4, bind_s, show m_Value_scalar (M + 1) 0 = some (scW (nI 0)) from rfl, bind_s, lm_Strings_explode_1, if_pos h5, h6, bind_s]
theorem exp_0 {w0 : Int64} {n0 sz : Int32} {g' cl' va' c' sp' : Nat → Int64} {fresh' made' old' olt' rG' rA' su' used' : Int32} {nC' nSp' cc ss : Nat} (h1 : m_Stacks_peek N S_top S_frames S_handlers n_S_values f_S_values 0 = some w0) (h2 : m_Heap_told N H_globalsUsed H_used H_spareUsed H_old H_oldLeadsToNew H_limit H_every H_fresh H_made H_madeLimit H_reachedFromGlobals H_reachedInAll H_keptGlobalsUsed H_kept n_H_cells f_H_cells w0 = some n0) (h3 : ¬ n0 ≤ 0) (h6 : 5 * n0 = sz) (h7 : m_Heap_ask N S_top S_frames S_handlers H_globalsUsed H_used H_spareUsed H_old H_oldLeadsToNew H_limit H_every H_fresh H_made H_madeLimit H_reachedFromGlobals H_reachedInAll H_keptGlobalsUsed H_kept n_S_values f_S_values n_S_closures f_S_closures n_H_globals f_H_globals n_H_cells f_H_cells n_H_spare f_H_spare sz sz = some ((0, g', cl', va', fresh', made', old', olt', rG', rA', su', used', nC', c', nSp', sp'), cc, ss)) :
    m_Strings_explode N S_top S_frames S_handlers H_globalsUsed H_used H_spareUsed H_old H_oldLeadsToNew H_limit H_every H_fresh H_made H_madeLimit H_reachedFromGlobals H_reachedInAll H_keptGlobalsUsed H_kept n_S_values f_S_values n_S_closures f_S_closures n_H_globals f_H_globals n_H_cells f_H_cells n_H_spare f_H_spare = some ((nI 3, g', cl', va', fresh', made', old', olt', rG', rA', su', used', S_top, nC', c', nSp', sp'), cc, ss) := by
  unfold m_Strings_explode
  rw [h1, bind_s, h2, bind_s, if_neg h3, h6, h7, bind_s]
  dsimp only
  rw [if_pos rfl, tk_s, Nat.zero_add, Nat.zero_add]
  rfl
theorem exp_1 {w0 v0 wl : Int64} {n0 sz a0 f1 u1 y5 st2 top2 : Int32} {g' cl' va' c' sp' c2 va2 : Nat → Int64} {fresh' made' old' olt' rG' rA' su' used' : Int32} {nC' nSp' cc ss : Nat} (h1 : m_Stacks_peek N S_top S_frames S_handlers n_S_values f_S_values 0 = some w0) (h2 : m_Heap_told N H_globalsUsed H_used H_spareUsed H_old H_oldLeadsToNew H_limit H_every H_fresh H_made H_madeLimit H_reachedFromGlobals H_reachedInAll H_keptGlobalsUsed H_kept n_H_cells f_H_cells w0 = some n0) (h3 : ¬ n0 ≤ 0) (h6 : 5 * n0 = sz) (h7 : m_Heap_ask N S_top S_frames S_handlers H_globalsUsed H_used H_spareUsed H_old H_oldLeadsToNew H_limit H_every H_fresh H_made H_madeLimit H_reachedFromGlobals H_reachedInAll H_keptGlobalsUsed H_kept n_S_values f_S_values n_S_closures f_S_closures n_H_globals f_H_globals n_H_cells f_H_cells n_H_spare f_H_spare sz sz = some ((1, g', cl', va', fresh', made', old', olt', rG', rA', su', used', nC', c', nSp', sp'), cc, ss)) (h8 : m_Stacks_peek N S_top S_frames S_handlers n_S_values va' 0 = some v0) (h9 : m_Value_number N v0 = some a0)
    (h10 : ∀ (α : Type) (k : Int64 → Int32 → (Nat → Int64) → Int32 → Int32 → Option (α × Nat × Nat)), lm_Strings_explode_2 N H_globalsUsed H_limit H_every H_madeLimit H_keptGlobalsUsed H_kept made' old' olt' rG' rA' su' nC' a0 k N (scW (nI 0)) (n0 - 1) c' fresh' used' = k wl y5 c2 f1 u1) (h11 : m_Stacks_replace N S_top S_frames S_handlers n_S_values va' 1 wl = some (st2, va2, top2)) :
    m_Strings_explode N S_top S_frames S_handlers H_globalsUsed H_used H_spareUsed H_old H_oldLeadsToNew H_limit H_every H_fresh H_made H_madeLimit H_reachedFromGlobals H_reachedInAll H_keptGlobalsUsed H_kept n_S_values f_S_values n_S_closures f_S_closures n_H_globals f_H_globals n_H_cells f_H_cells n_H_spare f_H_spare = some ((st2, g', cl', va2, f1, made', old', olt', rG', rA', su', u1, top2, nC', c2, nSp', sp'), cc, ss) := by
  unfold m_Strings_explode
  rw [h1, bind_s, h2, bind_s, if_neg h3, h6, h7, bind_s]
  dsimp only
  rw [if_neg (by decide), h8, bind_s, h9, bind_s, show m_Value_scalar N 0 = some (scW (nI 0)) from rfl, bind_s, h10, h11, bind_s]
  dsimp only
  rw [tk_s, Nat.zero_add, Nat.zero_add]
theorem expR_z {a0 : Int32} {F' : Nat → Nat → Int32} {I' : Nat → Int32} (hN : 400000 ≤ N) (h1 : m_Model_scalar N I F 1 = some a0) (h2 : ¬ (a0 < 0 ∨ 131072 ≤ a0.toNatClampNeg)) (h3 : F 1 a0.toNatClampNeg ≤ 0) (h4 : F 1 a0.toNatClampNeg - 1 < 0) (h5 : m_Model_give N I F 1 0 0 = some (nI 5, F', I')) : m_Model_explode N I F = some (nI 5, F', I') := by
  obtain ⟨M, rfl⟩ : ∃ M, N = M + 1 := ⟨N - 1, by omega⟩
  unfold m_Model_explode
  rw [h1, bind_s, if_neg h2, if_pos h3, bind_s, lm_Model_explode_1, if_pos h4, h5, bind_s]
theorem expR_0 {a0 sz : Int32} {F' : Nat → Nat → Int32} {I' : Nat → Int32} (h1 : m_Model_scalar N I F 1 = some a0) (h2 : ¬ (a0 < 0 ∨ 131072 ≤ a0.toNatClampNeg)) (h3 : ¬ F 1 a0.toNatClampNeg ≤ 0) (h4 : 5 * F 1 a0.toNatClampNeg = sz) (h5 : m_Model_makes N I F sz = some (0, F', I')) : m_Model_explode N I F = some (nI 3, F', I') := by
  unfold m_Model_explode
  rw [h1, bind_s, if_neg h2, if_neg h3, h4, h5, bind_s]
  dsimp only
  rw [if_pos rfl]
  rfl
theorem expR_1 {a0 a1 sz tg vl y : Int32} {F1 C' F' : Nat → Nat → Int32} {I1 J' I' : Nat → Int32} (h1 : m_Model_scalar N I F 1 = some a0) (h2 : ¬ (a0 < 0 ∨ 131072 ≤ a0.toNatClampNeg)) (h3 : ¬ F 1 a0.toNatClampNeg ≤ 0) (h4 : 5 * F 1 a0.toNatClampNeg = sz) (h5 : m_Model_makes N I F sz = some (1, F1, I1)) (h6 : m_Model_scalar N I1 F1 1 = some a1) (h7 : ∀ (ζ : Type) (k : Int32 → Int32 → Int32 → (Nat → Nat → Int32) → (Nat → Int32) → Option ζ), lm_Model_explode_2 N a1 k N 0 0 (F 1 a0.toNatClampNeg - 1) F1 I1 = k tg vl y C' J') (h8 : m_Model_give N J' C' 1 tg vl = some (nI 5, F', I')) : m_Model_explode N I F = some (nI 5, F', I') := by
  unfold m_Model_explode
  rw [h1, bind_s, if_neg h2, if_neg h3, h4, h5, bind_s]
  dsimp only
  rw [if_neg (by decide), h6, bind_s, h7, h8, bind_s]
theorem st_41 (h0 : m_Model_is N I F 1 6 = some (nI 1)) : m_Model_strings N I F (nI 41) = (m_Model_explode N I F).bind fun (z143_1, z143_2, z143_3) => (m_Model_next N z143_3 z143_2 (nI 2) z143_1).bind fun (z144_1, z144_2) => some (z144_1, z143_2, z144_2) := by
  unfold m_Model_strings
  rw [if_neg (show ¬ nI 41 = 27 by decide), if_neg (show ¬ nI 41 = 28 by decide), if_neg (show ¬ nI 41 = 29 by decide), if_neg (show ¬ nI 41 = 30 by decide), if_neg (show ¬ nI 41 = 31 by decide), if_neg (show ¬ nI 41 = 32 by decide), if_neg (show ¬ nI 41 = 33 by decide), if_neg (show ¬ nI 41 = 34 by decide), if_neg (show ¬ nI 41 = 35 by decide), if_neg (show ¬ nI 41 = 36 by decide), if_neg (show ¬ nI 41 = 37 by decide), if_neg (show ¬ nI 41 = 38 by decide), if_neg (show ¬ nI 41 = 39 by decide), if_neg (show ¬ nI 41 = 40 by decide), if_pos (show nI 41 = 41 from rfl), h0, bind_s, if_neg (show ¬ nI 1 = 0 by decide)]
  rfl
set_option maxRecDepth 4000 in
set_option maxHeartbeats 4000000 in
theorem pq_41 {rs} {p L o0 : Nat} (hN : 400000 ≤ N) (he : eR nk nm nid G lE gg t gs fr gc hn gb gf gr hF hH hP hD S_top S_frames S_handlers n_S_values f_S_values n_S_bases f_S_bases n_S_floors f_S_floors n_S_returns f_S_returns n_S_closures f_S_closures n_S_handlerFrames f_S_handlerFrames n_S_handlerPlaces f_S_handlerPlaces n_S_handlerHeights f_S_handlerHeights n_S_handlerDepths f_S_handlerDepths H_globalsUsed H_used H_old H_oldLeadsToNew f_H_globals n_H_cells f_H_cells n_H_spare) (hr : rR nk nm nid G lR gg t gs fr gc hn gb gf gr hF hH hP hD I F) (hx : xR nm M_fuel M_ticks H_made M_depth B_names O_size n_O_bytes f_O_bytes n_Q_links f_Q_links n_Q_pairs n_H_cells I F) (h35 : I 35 = nI p) (h43 : I 43 = nI L) (hL : L ≤ 131072) (hkt : gf (fr - 1) + 1 ≤ t) (hv0 : gs (t - 1) = vO o0) (hK0 : gK G o0 = 6)
    (hfit : m_Machine_primitiveFits N S_top S_frames S_handlers M_status (nI p) (nI (p + 2)) M_fuel M_ticks M_depth (I 45) M_done n_S_values f_S_values n_S_floors f_S_floors (nI 41) = some (nI 1)) (hR : rs = m_Model_strings N I F (nI 41)) :
    opR nm n_H_cells I F (potE n_S_values n_S_bases n_S_handlerFrames n_H_cells n_H_spare n_Q_links n_Q_pairs n_O_bytes) (m_Machine_perform N P_size P_constants P_closed P_open O_size S_top S_frames S_handlers H_globalsUsed H_used H_spareUsed H_old H_oldLeadsToNew (nI L) H_every H_fresh H_made (I 44) H_reachedFromGlobals H_reachedInAll H_keptGlobalsUsed H_kept B_names Q_size M_status (nI p) (nI (p + 2)) M_fuel M_ticks M_depth (I 45) M_done n_P_words f_P_words n_P_bytes f_P_bytes n_P_ends f_P_ends n_O_bytes f_O_bytes n_S_values f_S_values n_S_bases f_S_bases n_S_floors f_S_floors n_S_returns f_S_returns n_S_closures f_S_closures n_S_handlerFrames f_S_handlerFrames n_S_handlerPlaces f_S_handlerPlaces n_S_handlerHeights f_S_handlerHeights n_S_handlerDepths f_S_handlerDepths 2049 f_H_globals n_H_cells f_H_cells n_H_spare f_H_spare n_Q_links f_Q_links n_Q_pairs f_Q_pairs (nI 34) (nI 41)) rs := by
  obtain ⟨q1, q2, q3, qt, qs, qh, qb, qf, q4, q5, q6, q7, q8, q9, qx, qy, qz⟩ := frE he
  obtain ⟨y1, y2, y3, y4, y5⟩ := frR hr q1
  subst qt qs qh
  obtain ⟨hG, hT, hC, hH', hnn⟩ := eR_hp he
  have mE0 : o0 ∈ lE := by have := (vE he (k := t - 1) (by omega)).2; rw [hv0] at this; exact this
  have mR0 : o0 ∈ lR := by have := (vRr hr (k := t - 1) (by omega)).2.2; rw [hv0] at this; exact this
  have O0 := str_ok (hG.2 o0 mE0).2.1 hK0
  have pk0 := eR_peek (N := N) (k := 0) he (by omega)
  rw [Nat.sub_zero, hv0] at pk0
  have td0 := told_O (N := N) he mE0
  rw [if_pos hK0] at td0
  have nu0 : m_Value_number N (wE G lE (vO o0)) = some (nI (adr (gZ G) lE o0)) := nu_E (v := vO o0) hG mE0 hnn (by omega)
  have s1 := scalar_R (N := N) (d := 1) hr (by omega) (by omega) q3
  rw [hv0] at s1
  have s1 : m_Model_scalar N I F 1 = some (nI (adr (gZ G) lR o0)) := s1
  obtain ⟨b0, f0⟩ := str_R hr mR0 hK0
  have z0 := bd_n b0 (by omega)
  have hcl : F 1 (nI (adr (gZ G) lR o0)).toNatClampNeg = nI (gC G o0) := by rw [q_cl (by omega), f0]
  have hi1 := is_O (N := N) (d := 1) (K := 6) hr (by omega) (by omega) q3 (by omega) hv0
  rw [if_pos hK0] at hi1
  rw [st_41 hi1] at hR
  by_cases hz : gC G o0 = 0
  · rw [hz] at td0 hcl
    refine repl_op (N := N) (f_Q_pairs := f_Q_pairs) (f_H_spare := f_H_spare) (Q_size := Q_size) (H_fresh := H_fresh) (H_reachedFromGlobals := H_reachedFromGlobals) (H_reachedInAll := H_reachedInAll) (H_spareUsed := H_spareUsed) (v := vS (nI 0)) (k := 1) (W := 2) (x := nI (p + 2)) he hr hx (by omega) hkt trivial trivial ?_ ?_ (by rw [h35, q_add])
    · intro h
      have h : m_Stacks_replace N (nI t) (nI fr) (nI hn) n_S_values f_S_values 1 (scW (nI 0)) = _ := h
      exact pf34_S (by omega) (by decide) hfit (ap_41 (exp_z hN pk0 (td0 ..) (by decide) nu0 (by decide) h))
    · intro F' I' h
      rw [hR, expR_z hN s1 z0 (by rw [hcl]; decide) (by rw [hcl]; decide) h, bind_s]
      dsimp only
      rw [next_5, bind_s]
  · have hle : ¬ nI (gC G o0) ≤ 0 := by rw [show (0 : Int32) = nI 0 from rfl, q_le_f (by omega) (by omega)]; exact id
    have h5 : 5 * nI (gC G o0) = nI (5 * gC G o0) := q_mul 5 _
    have hleR : ¬ F 1 (nI (adr (gZ G) lR o0)).toNatClampNeg ≤ 0 := by rw [hcl]; exact hle
    have h5R : 5 * F 1 (nI (adr (gZ G) lR o0)).toNatClampNeg = nI (5 * gC G o0) := by rw [hcl]; exact h5
    obtain ⟨b, l', l2, g', cl', va', c', sp', fresh', made', old', olt', rG', rA', su', nC', nSp', cc, ss, I1, F1, a1, a2, a3, a4, a5, a6, a7, a8⟩ := room_ER (N := N) (H_spareUsed := H_spareUsed) (H_every := H_every) (H_fresh := H_fresh) (H_reachedFromGlobals := H_reachedFromGlobals) (H_reachedInAll := H_reachedInAll) (H_keptGlobalsUsed := H_keptGlobalsUsed) (H_kept := H_kept) (f_H_spare := f_H_spare) (n := 5 * gC G o0) hN he hr hx h43 hL (by omega) (by omega)
    rcases a8 with rfl | ⟨rfl, m1, m2⟩
    · refine no_op (f_Q_pairs := f_Q_pairs) (Q_size := Q_size) (fresh' := fresh') (rG' := rG') (rA' := rA') (su' := su') (sp' := sp') (p := p) a3 a4 a5 a6 a7 ?_ ?_
      · exact pf34_S (by omega) (by decide) hfit (ap_41 (exp_0 pk0 (td0 ..) hle h5 a1))
      · rw [hR, expR_0 s1 z0 hleR h5R a2, bind_s]
        dsimp only
        rw [next_n _ (by omega) (by omega), bind_s]
    · have mE0' : o0 ∈ l' := by have := (vE a3 (k := t - 1) (by omega)).2; rw [hv0] at this; exact this
      have mR0' : o0 ∈ l2 := by have := (vRr a4 (k := t - 1) (by omega)).2.2; rw [hv0] at this; exact this
      have pk0' := eR_peek (N := N) (k := 0) a3 (by omega)
      rw [Nat.sub_zero, hv0] at pk0'
      have nu0' : m_Value_number N (wE G l' (vO o0)) = some (nI (adr (gZ G) l' o0)) := nu_E (v := vO o0) (eR_hp a3).1 mE0' hnn (by have := eR_hp a3; omega)
      have s1' := scalar_R (N := N) (d := 1) a4 (by omega) (by omega) q3
      rw [hv0] at s1'
      have s1' : m_Model_scalar N I1 F1 1 = some (nI (adr (gZ G) l2 o0)) := s1'
      obtain ⟨l3, c3, fresh3, d1, d2, d3⟩ := ex2 (N := N) (H_limit := nI L) (H_every := H_every) (H_madeLimit := I 44) (H_keptGlobalsUsed := H_keptGlobalsUsed) (H_kept := H_kept) (m6 := made') (m7 := old') (m8 := olt') (m9 := rG') (m10 := rA') (m11 := su') (B := gB G o0) (gC G o0) N nid G l' c' fresh' (vS (nI 0)) (Nat.le_refl _) (by omega) (by omega) trivial mE0' hK0 rfl rfl rfl a3
      obtain ⟨l4, J', C', e1, e2, e3, e4, e5⟩ := ex2R (N := N) (B := gB G o0) (gC G o0) N nid G l2 I1 F1 (vS (nI 0)) (Nat.le_refl _) (by omega) (by omega) trivial mR0' hK0 rfl rfl rfl a4
      refine yes_op (N := N) (f_Q_pairs := f_Q_pairs) (Q_size := Q_size) (fresh' := fresh3) (rG' := rG') (rA' := rA') (su' := su') (sp' := sp') (k := 1) (v := (exS (gB G o0) (gC G o0) (G, nid, vS (nI 0))).2.2) (G2 := (exS (gB G o0) (gC G o0) (G, nid, vS (nI 0))).1) h35 d2 e2 a5 a6 e4 e5 a7 (by omega) hkt d3 e3 ?_ ?_
      · intro h
        exact pf34_S (by omega) (by decide) hfit (ap_41 (exp_1 pk0 (td0 ..) hle h5 a1 pk0' nu0' d1 h))
      · intro F4 I4 h
        rw [hR, expR_1 s1 z0 hleR h5R a2 s1' (by rw [hcl]; exact e1) h, bind_s]
        dsimp only
        rw [next_5, bind_s]
end EX
