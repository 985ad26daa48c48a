/-! A new object -/
section NEW
variable {N : Nat}
variable {nk : Nat → Nat} {nm : Nat} {nid : Nat} {G : Nat → GO} {lE : List Nat} {gg : Nat → AV} {t : Nat} {gs : Nat → AV} {fr : Nat} {gc : Nat → AV} {hn : Nat} {gb : Nat → Nat} {gf : Nat → Nat} {gr : Nat → Int32} {hF : Nat → Nat} {hH : Nat → Nat} {hP : Nat → Int32} {hD : Nat → Int32} {lR : List Nat} {P_size : Int32} {P_constants : Int32} {P_closed : Int32} {P_open : Int32} {O_size : Int32} {S_top : Int32} {S_frames : Int32} {S_handlers : Int32} {H_globalsUsed : Int32} {H_used : Int32} {H_spareUsed : Int32} {H_old : Int32} {H_oldLeadsToNew : Int32} {H_limit : Int32} {H_every : Int32} {H_fresh : Int32} {H_made : Int32} {H_madeLimit : Int32} {H_reachedFromGlobals : Int32} {H_reachedInAll : Int32} {H_keptGlobalsUsed : Int32} {H_kept : Int32} {B_names : Int32} {Q_size : Int32} {M_status : Int32} {M_place : Int32} {M_next : Int32} {M_fuel : Int32} {M_ticks : Int32} {M_depth : Int32} {M_depthLimit : Int32} {M_done : Int32} {n_P_words : Nat} {f_P_words : Nat → Int32} {n_P_bytes : Nat} {f_P_bytes : Nat → Int32} {n_P_ends : Nat} {f_P_ends : Nat → Int32} {n_O_bytes : Nat} {f_O_bytes : Nat → Int32} {n_S_values : Nat} {f_S_values : Nat → Int64} {n_S_bases : Nat} {f_S_bases : Nat → Int32} {n_S_floors : Nat} {f_S_floors : Nat → Int32} {n_S_returns : Nat} {f_S_returns : Nat → Int32} {n_S_closures : Nat} {f_S_closures : Nat → Int64} {n_S_handlerFrames : Nat} {f_S_handlerFrames : Nat → Int32} {n_S_handlerPlaces : Nat} {f_S_handlerPlaces : Nat → Int32} {n_S_handlerHeights : Nat} {f_S_handlerHeights : Nat → Int32} {n_S_handlerDepths : Nat} {f_S_handlerDepths : Nat → Int32} {n_H_globals : Nat} {f_H_globals : Nat → Int64} {n_H_cells : Nat} {f_H_cells : Nat → Int64} {n_H_spare : Nat} {f_H_spare : Nat → Int64} {n_Q_links : Nat} {f_Q_links : Nat → Int32} {n_Q_pairs : Nat} {f_Q_pairs : Nat → Int64} {I : Nat → Int32} {F : Nat → Nat → Int32}
def gnew (G : Nat → GO) (o : Nat) (x : GO) : Nat → GO := fun q => if q = o then x else G q
variable {x : GO} {l : List Nat}
theorem gn_e {q : Nat} (h : q = nid) : gnew G nid x q = x := if_pos h
theorem gn_n {q : Nat} (h : q ≠ nid) : gnew G nid x q = G q := if_neg h
theorem gK_n {q : Nat} (h : q ≠ nid) : gK (gnew G nid x) q = gK G q := by unfold gK; rw [gn_n h]
theorem gN_n {q : Nat} (h : q ≠ nid) : gN (gnew G nid x) q = gN G q := by unfold gN; rw [gn_n h]
theorem gC_n {q : Nat} (h : q ≠ nid) : gC (gnew G nid x) q = gC G q := by unfold gC; rw [gn_n h]
theorem gB_n {q : Nat} (h : q ≠ nid) : gB (gnew G nid x) q = gB G q := by funext i; unfold gB; rw [gn_n h]
theorem gP_nn {q : Nat} (h : q ≠ nid) : gP (gnew G nid x) q = gP G q := by funext i; unfold gP; rw [gn_n h]
theorem gZ_n {q : Nat} (h : q ≠ nid) : gZ (gnew G nid x) q = gZ G q := by unfold gZ; rw [gK_n h, gC_n h]
theorem gNp_n {q : Nat} (h : q ≠ nid) : gNp (gnew G nid x) q = gNp G q := by unfold gNp; rw [gK_n h, gC_n h]
theorem hE_n {q : Nat} (h : q ≠ nid) : hE (gnew G nid x) q = hE G q := by unfold hE; rw [gK_n h, gC_n h, gN_n h]
theorem thR_n {q : Nat} (h : q ≠ nid) : thR (gnew G nid x) q = thR G q := by unfold thR; rw [gK_n h, gC_n h, gN_n h]
theorem chR_n {q : Nat} (h : q ≠ nid) : chR (gnew G nid x) q = chR G q := by unfold chR; rw [gK_n h, gC_n h, gN_n h]
theorem gn_x : gK (gnew G nid x) nid = x.1 ∧ gN (gnew G nid x) nid = x.2.1 ∧ gC (gnew G nid x) nid = x.2.2.1 ∧ gP (gnew G nid x) nid = x.2.2.2.1 ∧ gB (gnew G nid x) nid = x.2.2.2.2 := by
  refine ⟨?_, ?_, ?_, ?_, ?_⟩
  · unfold gK; rw [gn_e rfl]
  · unfold gN; rw [gn_e rfl]
  · unfold gC; rw [gn_e rfl]
  · funext i; unfold gP; rw [gn_e rfl]
  · funext i; unfold gB; rw [gn_e rfl]
theorem mem_lt (h : wf nk nm nid G l) {q : Nat} (hq : q ∈ l) : q ≠ nid := fun e => by have := (h.2 q hq).1; omega
theorem nid_nm (h : wf nk nm nid G l) : nid ∉ l := fun hq => mem_lt h hq rfl
theorem tot_n (h : wf nk nm nid G l) : tot (gZ (gnew G nid x)) l = tot (gZ G) l := tot_congr (fun o ho => gZ_n (mem_lt h ho))
theorem adr_n (h : wf nk nm nid G l) {q : Nat} (hq : q ∈ l) : adr (gZ (gnew G nid x)) (l ++ [nid]) q = adr (gZ G) l q := by
  rw [adr_l hq]
  exact adr_congr (fun o ho => gZ_n (mem_lt h ho)) q
theorem adr_nid (h : wf nk nm nid G l) : adr (gZ (gnew G nid x)) (l ++ [nid]) nid = tot (gZ G) l := by
  rw [adr_new (nid_nm h), tot_n h]
theorem wE_n (h : wf nk nm nid G l) {v : AV} (hv : okV nk nm l v) : wE (gnew G nid x) (l ++ [nid]) v = wE G l v := by
  rcases v with n | ⟨k, j⟩ | q
  · rfl
  · rfl
  · show obW _ _ = obW _ _
    rw [gK_n (mem_lt h hv), adr_n h hv]
theorem vR_n (h : wf nk nm nid G l) {v : AV} (hv : okV nk nm l v) : vR (gnew G nid x) (l ++ [nid]) v = vR G l v := by
  rcases v with n | ⟨k, j⟩ | q
  · rfl
  · rfl
  · show nI _ = nI _
    rw [adr_n h hv]
theorem clR_n (h : wf nk nm nid G l) {v : AV} (hv : okV nk nm l v) : clR (gnew G nid x) (l ++ [nid]) v = clR G l v := by
  rcases v with n | ⟨k, j⟩ | q
  · rfl
  · rfl
  · show nI _ = nI _
    rw [adr_n h hv]
theorem okV_n {v : AV} (hv : okV nk nm l v) : okV nk nm (l ++ [nid]) v := by
  rcases v with n | ⟨k, j⟩ | q
  · exact hv
  · exact hv
  · exact List.mem_append_left _ hv
theorem okO_n {q : Nat} (hq : q ≠ nid) (h : okO nk nm G q) : okO nk nm (gnew G nid x) q := by
  unfold okO
  rw [gK_n hq, gC_n hq, gN_n hq, gB_n hq]
  exact h
/-- what the new object must be -/
def okN (nk : Nat → Nat) (nm nid : Nat) (G : Nat → GO) (l : List Nat) (x : GO) : Prop := okO nk nm (gnew G nid x) nid ∧ ∀ i, 1 ≤ i → i ≤ gNp (gnew G nid x) nid → okV nk nm l (x.2.2.2.1 i)
theorem wf_n (h : wf nk nm nid G l) (hx : okN nk nm nid G l x) : wf nk nm (nid + 1) (gnew G nid x) (l ++ [nid]) := by
  refine ⟨nodup_snoc h.1 (nid_nm h), fun q hq => ?_⟩
  rcases mem_snoc.mp hq with hq | rfl
  · have hne := mem_lt h hq
    obtain ⟨h1, h2, h3, h4⟩ := h.2 q hq
    rw [gNp_n hne, gP_nn hne, gK_n hne]
    exact ⟨by omega, okO_n hne h2, fun i hi hin => okV_n (h3 i hi hin), h4⟩
  · refine ⟨by omega, hx.1, fun i hi hin => ?_, fun _ i p hi hin hp => ?_⟩
    · have := hx.2 i hi hin
      rw [gn_x.2.2.2.1]
      exact okV_n this
    · have := hx.2 i hi hin
      rw [gn_x.2.2.2.1] at hp
      rw [hp] at this
      exact (h.2 p this).1
theorem heE_n {c c' : Nat → Int64} (h : wf nk nm nid G l) (hh : heE G l c) (hx : okN nk nm nid G l x) (hc : ∀ a, a < tot (gZ G) l → c' a = c a)
    (h0 : c' (tot (gZ G) l) = hE (gnew G nid x) nid) (h1 : ∀ i, 1 ≤ i → i ≤ gNp (gnew G nid x) nid → c' (tot (gZ G) l + i) = wE G l (x.2.2.2.1 i)) (h6 : x.1 = 6 → ∀ j, j < (x.2.2.1 + 3) / 4 → c' (tot (gZ G) l + 1 + j) = lN (w4 x.2.2.2.2 j)) : heE (gnew G nid x) (l ++ [nid]) c' := by
  intro q hq
  rcases mem_snoc.mp hq with hq | rfl
  · have hne := mem_lt h hq
    have hend := adr_end (Z := gZ G) hq
    have hz := gZ_pos G q
    obtain ⟨a1, a2, a3⟩ := hh q hq
    rw [adr_n h hq, hE_n hne, gNp_n hne, gK_n hne, gC_n hne, gB_n hne, gP_nn hne]
    refine ⟨by rw [hc _ (by omega)]; exact a1, fun i hi hin => ?_, fun e6 j hj => ?_⟩
    · have := (np_lt hin hi).1
      rw [hc _ (by omega), wE_n h ((h.2 q hq).2.2.1 i hi hin)]
      exact a2 i hi hin
    · have hz6 : gZ G q = 1 + (gC G q + 3) / 4 := by unfold gZ; rw [if_pos e6]
      rw [hc _ (by omega)]
      exact a3 e6 j hj
  · rw [adr_nid h]
    refine ⟨h0, fun i hi hin => ?_, fun e6 j hj => ?_⟩
    · rw [gn_x.2.2.2.1, wE_n h (hx.2 i hi hin)]
      exact h1 i hi hin
    · rw [gn_x.1] at e6
      rw [gn_x.2.2.1] at hj
      rw [gn_x.2.2.2.2]
      exact h6 e6 j hj
theorem heR_n {tg c tg' c' : Nat → Int32} (h : wf nk nm nid G l) (hh : heR G l tg c) (hx : okN nk nm nid G l x) (hc : ∀ a, a < tot (gZ G) l → tg' a = tg a ∧ c' a = c a)
    (h0 : tg' (tot (gZ G) l) = thR (gnew G nid x) nid) (h0' : c' (tot (gZ G) l) = chR (gnew G nid x) nid) (h1 : ∀ i, 1 ≤ i → i ≤ gNp (gnew G nid x) nid → tg' (tot (gZ G) l + i) = tR (x.2.2.2.1 i) ∧ c' (tot (gZ G) l + i) = vR G l (x.2.2.2.1 i)) (h6 : x.1 = 6 → ∀ j, j < (x.2.2.1 + 3) / 4 → c' (tot (gZ G) l + 1 + j) = nI (w4R x.2.2.2.2 j)) : heR (gnew G nid x) (l ++ [nid]) tg' c' := by
  intro q hq
  rcases mem_snoc.mp hq with hq | rfl
  · have hne := mem_lt h hq
    have hend := adr_end (Z := gZ G) hq
    have hz := gZ_pos G q
    obtain ⟨a1, a2, a3, a4⟩ := hh q hq
    rw [adr_n h hq, thR_n hne, chR_n hne, gNp_n hne, gK_n hne, gC_n hne, gB_n hne, gP_nn hne]
    refine ⟨by rw [(hc _ (by omega)).1]; exact a1, by rw [(hc _ (by omega)).2]; exact a2, fun i hi hin => ?_, fun e6 j hj => ?_⟩
    · have := (np_lt hin hi).1
      rw [(hc _ (by omega)).1, (hc _ (by omega)).2, vR_n h ((h.2 q hq).2.2.1 i hi hin)]
      exact a3 i hi hin
    · have hz6 : gZ G q = 1 + (gC G q + 3) / 4 := by unfold gZ; rw [if_pos e6]
      rw [(hc _ (by omega)).2]
      exact a4 e6 j hj
  · rw [adr_nid h]
    refine ⟨h0, h0', fun i hi hin => ?_, fun e6 j hj => ?_⟩
    · rw [gn_x.2.2.2.1, vR_n h (hx.2 i hi hin)]
      exact h1 i hi hin
    · rw [gn_x.1] at e6
      rw [gn_x.2.2.1] at hj
      rw [gn_x.2.2.2.2]
      exact h6 e6 j hj
theorem tot_nid (h : wf nk nm nid G l) : tot (gZ (gnew G nid x)) (l ++ [nid]) = tot (gZ G) l + gZ (gnew G nid x) nid := by
  rw [tot_append, tot_n h]
  rfl
theorem eR_new {c' : Nat → Int64} (he : eR nk nm nid G lE gg t gs fr gc hn gb gf gr hF hH hP hD S_top S_frames S_handlers n_S_values f_S_values n_S_bases f_S_bases n_S_floors f_S_floors n_S_returns f_S_returns n_S_closures f_S_closures n_S_handlerFrames f_S_handlerFrames n_S_handlerPlaces f_S_handlerPlaces n_S_handlerHeights f_S_handlerHeights n_S_handlerDepths f_S_handlerDepths H_globalsUsed H_used H_old H_oldLeadsToNew f_H_globals n_H_cells f_H_cells n_H_spare) (hx : okN nk nm nid G lE x) (hroom : tot (gZ G) lE + gZ (gnew G nid x) nid ≤ n_H_cells) (hc : ∀ a, a < tot (gZ G) lE → c' a = f_H_cells a) (h0 : c' (tot (gZ G) lE) = hE (gnew G nid x) nid) (h1 : ∀ i, 1 ≤ i → i ≤ gNp (gnew G nid x) nid → c' (tot (gZ G) lE + i) = wE G lE (x.2.2.2.1 i)) (h6 : x.1 = 6 → ∀ j, j < (x.2.2.1 + 3) / 4 → c' (tot (gZ G) lE + 1 + j) = lN (w4 x.2.2.2.2 j)) : eR nk nm (nid + 1) (gnew G nid x) (lE ++ [nid]) gg t gs fr gc hn gb gf gr hF hH hP hD S_top S_frames S_handlers n_S_values f_S_values n_S_bases f_S_bases n_S_floors f_S_floors n_S_returns f_S_returns n_S_closures f_S_closures n_S_handlerFrames f_S_handlerFrames n_S_handlerPlaces f_S_handlerPlaces n_S_handlerHeights f_S_handlerHeights n_S_handlerDepths f_S_handlerDepths H_globalsUsed (nI (tot (gZ G) lE + gZ (gnew G nid x) nid)) H_old H_oldLeadsToNew f_H_globals n_H_cells c' n_H_spare := by
  obtain ⟨e1, e2, e3, ⟨v1, v2⟩, ⟨g1, g2, g3, g4, g5, g6, l1, l2, g7, g8, g9⟩, e6, e7⟩ := he
  have hl1 : ∀ q, q ∈ l1 → q ≠ nid := fun q hq => mem_lt g1 (by rw [g7]; exact List.mem_append_left _ hq)
  refine ⟨e1, e2, e3, ⟨fun k hk => ?_, fun k hk => ?_⟩, ⟨wf_n g1 hx, by rw [tot_nid g1], by rw [tot_nid g1]; exact hroom, heE_n g1 g4 hx hc h0 h1 h6, fun k hk => ?_, g6, l1, l2 ++ [nid], by rw [g7, List.append_assoc], ?_, fun h => ?_⟩, fun k hk => ?_, e7⟩
  · rw [wE_n g1 (v1 k hk).2]; exact ⟨(v1 k hk).1, okV_n (v1 k hk).2⟩
  · rw [wE_n g1 (v2 k hk).2]; exact ⟨(v2 k hk).1, okV_n (v2 k hk).2⟩
  · rw [wE_n g1 (g5 k hk).2]; exact ⟨(g5 k hk).1, okV_n (g5 k hk).2⟩
  · rw [g8]; congr 1; exact (tot_congr (fun o ho => gZ_n (hl1 o ho))).symm
  · intro q hq i p hi hin hp
    rw [gNp_n (hl1 q hq)] at hin
    rw [gP_nn (hl1 q hq)] at hp
    exact g9 h q hq i p hi hin hp
  · rcases e6 k hk with h | ⟨o, h, hK⟩
    · exact Or.inl h
    · have := (v2 k hk).2
      rw [h] at this
      exact Or.inr ⟨o, h, by rw [gK_n (mem_lt g1 this)]; exact hK⟩
theorem rR_new {I' : Nat → Int32} {F' : Nat → Nat → Int32} (hr : rR nk nm nid G lR gg t gs fr gc hn gb gf gr hF hH hP hD I F) (hx : okN nk nm nid G lR x) (hroom : tot (gZ G) lR + gZ (gnew G nid x) nid ≤ 131072) (hc : ∀ a, a < tot (gZ G) lR → F' 0 a = F 0 a ∧ F' 1 a = F 1 a) (h0 : F' 0 (tot (gZ G) lR) = thR (gnew G nid x) nid) (h0' : F' 1 (tot (gZ G) lR) = chR (gnew G nid x) nid) (h1 : ∀ i, 1 ≤ i → i ≤ gNp (gnew G nid x) nid → F' 0 (tot (gZ G) lR + i) = tR (x.2.2.2.1 i) ∧ F' 1 (tot (gZ G) lR + i) = vR G lR (x.2.2.2.1 i)) (h6 : x.1 = 6 → ∀ j, j < (x.2.2.1 + 3) / 4 → F' 1 (tot (gZ G) lR + 1 + j) = nI (w4R x.2.2.2.2 j)) (hF' : ∀ j, j ≠ 0 → j ≠ 1 → F' j = F j) (hI3 : I' 3 = nI (tot (gZ G) lR + gZ (gnew G nid x) nid)) (hI' : ∀ j, j ≠ 3 → I' j = I j) : rR nk nm (nid + 1) (gnew G nid x) (lR ++ [nid]) gg t gs fr gc hn gb gf gr hF hH hP hD I' F' := by
  obtain ⟨⟨a1, a2, a3, a4, a5, a6, a7, a8⟩, ⟨b1, b2⟩, ⟨c1, c2, c3, c4, c5, c6, c7, c8, c9, c10⟩⟩ := hr
  refine ⟨⟨?_, ?_, ?_, ?_, ?_, ?_, ?_, ?_⟩, ⟨fun k hk => ?_, fun k hk => ?_⟩, ⟨wf_n c1 hx, ?_, by rw [tot_nid c1]; exact hI3, by rw [tot_nid c1]; exact hroom, heR_n c1 c5 hx hc h0 h0' h1 h6, ?_, fun k hk => okV_n (c7 k hk), fun k hk => ?_, ?_, ?_⟩⟩
  · rw [hI' 29 (by omega)]; exact a1
  · rw [hI' 22 (by omega)]; exact a2
  · rw [hI' 30 (by omega)]; exact a3
  · rw [hF' 24 (by omega) (by omega), hF' 25 (by omega) (by omega)]; exact a4
  · rw [hF' 26 (by omega) (by omega)]; exact a5
  · rw [hF' 31 (by omega) (by omega), hF' 32 (by omega) (by omega), hF' 33 (by omega) (by omega), hF' 34 (by omega) (by omega)]; exact a6
  · rw [hI' 20 (by omega)]; exact a7
  · rw [hI' 21 (by omega)]; exact a8
  · rw [hF' 27 (by omega) (by omega), hF' 28 (by omega) (by omega), vR_n c1 (b1 k hk).1]; exact ⟨okV_n (b1 k hk).1, (b1 k hk).2⟩
  · rw [hF' 23 (by omega) (by omega), clR_n c1 (b2 k hk).1]; exact ⟨okV_n (b2 k hk).1, (b2 k hk).2⟩
  · refine List.pairwise_append.mpr ⟨c2, List.pairwise_singleton _ _, fun a ha b hb => ?_⟩
    rw [List.mem_singleton] at hb
    have := (c1.2 a ha).1
    omega
  · rw [hF' 2 (by omega) (by omega)]; exact c6
  · rw [hF' 5 (by omega) (by omega), hF' 6 (by omega) (by omega), vR_n c1 (c7 k (by omega))]; exact c8 k hk
  · rw [hI' 7 (by omega)]; exact c9
  · rw [hI' 8 (by omega), vR_n c1 (c7 2048 (by omega))]; exact c10
end NEW
