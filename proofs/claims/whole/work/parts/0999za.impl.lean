/-! Primitive 40: a list of bytes becomes a string -/
section IM
variable {N : Nat}
variable {nk : Nat → Nat} {nm : Nat} {nid : Nat} {G : Nat → GO} {lE : List Nat} {gg : Nat → AV} {t : Nat} {gs : Nat → AV} {fr : Nat} {gc : Nat → AV} {hn : Nat} {gb : Nat → Nat} {gf : Nat → Nat} {gr : Nat → Int32} {hF : Nat → Nat} {hH : Nat → Nat} {hP : Nat → Int32} {hD : Nat → Int32} {lR : List Nat} {P_size : Int32} {P_constants : Int32} {P_closed : Int32} {P_open : Int32} {O_size : Int32} {S_top : Int32} {S_frames : Int32} {S_handlers : Int32} {H_globalsUsed : Int32} {H_used : Int32} {H_spareUsed : Int32} {H_old : Int32} {H_oldLeadsToNew : Int32} {H_limit : Int32} {H_every : Int32} {H_fresh : Int32} {H_made : Int32} {H_madeLimit : Int32} {H_reachedFromGlobals : Int32} {H_reachedInAll : Int32} {H_keptGlobalsUsed : Int32} {H_kept : Int32} {B_names : Int32} {Q_size : Int32} {M_status : Int32} {M_place : Int32} {M_next : Int32} {M_fuel : Int32} {M_ticks : Int32} {M_depth : Int32} {M_depthLimit : Int32} {M_done : Int32} {n_P_words : Nat} {f_P_words : Nat → Int32} {n_P_bytes : Nat} {f_P_bytes : Nat → Int32} {n_P_ends : Nat} {f_P_ends : Nat → Int32} {n_O_bytes : Nat} {f_O_bytes : Nat → Int32} {n_S_values : Nat} {f_S_values : Nat → Int64} {n_S_bases : Nat} {f_S_bases : Nat → Int32} {n_S_floors : Nat} {f_S_floors : Nat → Int32} {n_S_returns : Nat} {f_S_returns : Nat → Int32} {n_S_closures : Nat} {f_S_closures : Nat → Int64} {n_S_handlerFrames : Nat} {f_S_handlerFrames : Nat → Int32} {n_S_handlerPlaces : Nat} {f_S_handlerPlaces : Nat → Int32} {n_S_handlerHeights : Nat} {f_S_handlerHeights : Nat → Int32} {n_S_handlerDepths : Nat} {f_S_handlerDepths : Nat → Int32} {n_H_globals : Nat} {f_H_globals : Nat → Int64} {n_H_cells : Nat} {f_H_cells : Nat → Int64} {n_H_spare : Nat} {f_H_spare : Nat → Int64} {n_Q_links : Nat} {f_Q_links : Nat → Int32} {n_Q_pairs : Nat} {f_Q_pairs : Nat → Int64} {I : Nat → Int32} {F : Nat → Nat → Int32}
theorem ne_l {a b : Nat} (h : a ≠ b) (ha : a < 2147483648) (hb : b < 2147483648) : ¬ nI a = nI b := by rw [q_eq_f h ha hb]; exact id
/-- how many of a row come no later than o -/
def rk : List Nat → Nat → Nat
  | [], _ => 0
  | x :: l, o => (if x ≤ o then 1 else 0) + rk l o
theorem rk_mono {l : List Nat} {a b : Nat} (h : a ≤ b) : rk l a ≤ rk l b := by
  induction l with
  | nil => exact Nat.le_refl _
  | cons x l ih =>
    simp only [rk]
    split
    · rw [if_pos (by omega)]; omega
    · split <;> omega
theorem rk_lt {l : List Nat} {a b : Nat} (h : a < b) (hb : b ∈ l) : rk l a < rk l b := by
  induction l with
  | nil => cases hb
  | cons x l ih =>
    have hm := rk_mono (l := l) (a := a) (b := b) (by omega)
    simp only [rk]
    rcases List.mem_cons.mp hb with e | e
    · subst e
      rw [if_neg (by omega), if_pos (by omega)]
      omega
    · have := ih e
      split
      · rw [if_pos (by omega)]; omega
      · split <;> omega
theorem rk_le {l : List Nat} {o : Nat} : rk l o ≤ l.length := by
  induction l with
  | nil => exact Nat.le_refl _
  | cons x l ih =>
    simp only [rk, List.length_cons]
    split <;> omega
def rkV (l : List Nat) : AV → Nat
  | .inr (.inr o) => rk l o
  | _ => 0
theorem rkV_le {l : List Nat} {v : AV} : rkV l v ≤ l.length := by
  rcases v with n | ⟨k, i⟩ | o
  · exact Nat.zero_le _
  · exact Nat.zero_le _
  · exact rk_le
theorem len_tot {l : List Nat} : l.length ≤ tot (gZ G) l := by
  have := tot_len (Z := gZ G) (l := l) (k := 1) (fun o _ => gZ_pos G o)
  omega
/-- a list of n bytes -/
def lst (G : Nat → GO) : Nat → AV → (Nat → Nat) → Prop
  | 0, v, _ => v = vS (nI 0)
  | n + 1, v, B => ∃ o p, v = vO o ∧ gK G o = 3 ∧ gN G o = nI 1 ∧ gP G o 1 = vO p ∧ gK G p = 2 ∧ gC G p = 2 ∧ gP G p 1 = vS (nI (B 0)) ∧ B 0 < 256 ∧ lst G n (gP G p 2) (fun i => B (i + 1))
theorem lst_u : ∀ {n n' : Nat} {v : AV} {B B' : Nat → Nat}, lst G n v B → lst G n' v B' → n = n' ∧ ∀ i, i < n → B i = B' i
  | 0, 0, v, B, B', _, _ => ⟨rfl, fun i h => absurd h (by omega)⟩
  | 0, n' + 1, v, B, B', h, ⟨o, p, h1, _⟩ => by
    have h : v = vS (nI 0) := h
    rw [h] at h1
    cases h1
  | n + 1, 0, v, B, B', ⟨o, p, h1, _⟩, h => by
    have h : v = vS (nI 0) := h
    rw [h] at h1
    cases h1
  | n + 1, n' + 1, v, B, B', ⟨o, p, h1, h2, h3, h4, h5, h6, h7, h8, h9⟩, ⟨o', p', k1, k2, k3, k4, k5, k6, k7, k8, k9⟩ => by
    have e1 : o = o' := by rw [h1] at k1; exact Sum.inr.inj (Sum.inr.inj k1)
    subst e1
    have e2 : p = p' := by rw [h4] at k4; exact Sum.inr.inj (Sum.inr.inj k4)
    subst e2
    have e3 : B 0 = B' 0 := by
      rw [h7] at k7
      exact (nI_eq (by omega) (by omega)).mp (Sum.inl.inj k7)
    obtain ⟨d1, d2⟩ := lst_u h9 k9
    refine ⟨by omega, fun i hi => ?_⟩
    by_cases e : i = 0
    · rw [e]; exact e3
    · have := d2 (i - 1) (by omega)
      rw [show i - 1 + 1 = i by omega] at this
      exact this
theorem lst_c : ∀ {n : Nat} {v : AV} {B B' : Nat → Nat}, lst G n v B → (∀ i, i < n → B' i = B i) → lst G n v B'
  | 0, v, B, B', h, _ => h
  | n + 1, v, B, B', ⟨o, p, h1, h2, h3, h4, h5, h6, h7, h8, h9⟩, h => by
    have e := h 0 (by omega)
    exact ⟨o, p, h1, h2, h3, h4, h5, h6, by rw [e]; exact h7, by rw [e]; exact h8, lst_c h9 (fun i hi => h (i + 1) (by omega))⟩
/-- a link and its pair -/
def cel (G : Nat → GO) (v : AV) (o p : Nat) : Prop := v = vO o ∧ gK G o = 3 ∧ gN G o = nI 1 ∧ gP G o 1 = vO p ∧ gK G p = 2 ∧ gC G p = 2
theorem cel_no {v : AV} (h : ∀ o p, ¬ cel G v o p) (h0 : v ≠ vS (nI 0)) : ∀ n B, ¬ lst G n v B
  | 0, _, hl => h0 hl
  | n + 1, _, ⟨o, p, h1, h2, h3, h4, h5, h6, _⟩ => h o p ⟨h1, h2, h3, h4, h5, h6⟩
theorem cel_no2 {v : AV} {o p : Nat} (hc : cel G v o p) (h : ∀ b, b < 256 → gP G p 1 ≠ vS (nI b)) : ∀ n B, ¬ lst G n v B
  | 0, _, hl => by
    have hl : v = vS (nI 0) := hl
    rw [hc.1] at hl
    cases hl
  | n + 1, B, ⟨o', p', k1, k2, k3, k4, k5, k6, k7, k8, _⟩ => by
    have e1 : o = o' := by rw [hc.1] at k1; exact Sum.inr.inj (Sum.inr.inj k1)
    subst e1
    have e2 : p = p' := by have := hc.2.2.2.1; rw [this] at k4; exact Sum.inr.inj (Sum.inr.inj k4)
    subst e2
    exact h _ k8 k7
theorem cel_no3 {v : AV} {o p : Nat} (hc : cel G v o p) (h : ∀ n B, ¬ lst G n (gP G p 2) B) : ∀ n B, ¬ lst G n v B
  | 0, _, hl => by
    have hl : v = vS (nI 0) := hl
    rw [hc.1] at hl
    cases hl
  | n + 1, B, ⟨o', p', k1, k2, k3, k4, k5, k6, k7, k8, k9⟩ => by
    have e1 : o = o' := by rw [hc.1] at k1; exact Sum.inr.inj (Sum.inr.inj k1)
    subst e1
    have e2 : p = p' := by have := hc.2.2.2.1; rw [this] at k4; exact Sum.inr.inj (Sum.inr.inj k4)
    subst e2
    exact h _ _ k9
theorem cel_w {l : List Nat} {v : AV} {o p : Nat} (hG : wf nk nm nid G l) (hv : okV nk nm l v) (hc : cel G v o p) : o ∈ l ∧ p ∈ l ∧ gNp G o = 1 ∧ gNp G p = 2 ∧ okV nk nm l (gP G p 1) ∧ okV nk nm l (gP G p 2) ∧ rkV l (gP G p 2) + 2 ≤ rkV l v := by
  obtain ⟨h1, h2, h3, h4, h5, h6⟩ := hc
  rw [h1] at hv
  have ho : o ∈ l := hv
  obtain ⟨a1, a2, a3, a4⟩ := hG.2 o ho
  have hC : gC G o = 1 := by
    unfold okO at a2
    omega
  have hnp : gNp G o = 1 := by unfold gNp; rw [if_neg (by omega), if_neg (by omega), hC]
  have hp := a3 1 (by omega) (by omega)
  rw [h4] at hp
  have hp : p ∈ l := hp
  have hpo := a4 (by omega) 1 p (by omega) (by omega) h4
  obtain ⟨b1, b2, b3, b4⟩ := hG.2 p hp
  have hnp2 : gNp G p = 2 := by unfold gNp; rw [if_neg (by omega), if_neg (by omega), h6]
  have hq := b3 2 (by omega) (by omega)
  refine ⟨ho, hp, hnp, hnp2, b3 1 (by omega) (by omega), hq, ?_⟩
  rw [h1]
  have r1 := rk_lt hpo ho
  have r2 : rkV l (gP G p 2) < rk l p ∨ rkV l (gP G p 2) = 0 := by
    generalize hg : gP G p 2 = w at hq
    rcases w with n | ⟨k, i⟩ | q
    · exact Or.inr rfl
    · exact Or.inr rfl
    · exact Or.inl (rk_lt (b4 (by omega) 2 q (by omega) (by omega) hg) hp)
  have r3 : 1 ≤ rk l p := by
    have := rk_mono (l := l) (a := 0) (b := p) (by omega)
    by_cases e : p = 0
    · have : ∀ l : List Nat, p ∈ l → 1 ≤ rk l p := by
        intro l hl
        induction l with
        | nil => cases hl
        | cons x l ih =>
          simp only [rk]
          rcases List.mem_cons.mp hl with e | e
          · rw [if_pos (by omega)]; omega
          · have := ih e; omega
      exact this l hp
    · have := rk_lt (l := l) (a := p - 1) (b := p) (by omega) hp
      omega
  show rkV l (gP G p 2) + 2 ≤ rk l o
  omega
theorem isB_N {l : List Nat} {v : AV} (hG : wf nk nm nid G l) (hv : okV nk nm l v) (h : kV G v ≠ 0) : m_Strings_isByte N (wE G l v) = some 0 := by
  have hk := kd_E (N := N) hG hv
  have h8 := kV_8 hG hv
  unfold m_Strings_isByte
  rw [hk, bind_s, if_neg (show ¬ nI (kV G v) = 0 from ne_l (b := 0) h (by omega) (by omega))]
theorem wE_0 {l : List Nat} {v : AV} (hG : wf nk nm nid G l) (hv : okV nk nm l v) (h : wE G l v = scW (nI 0)) : v = vS (nI 0) := by
  have h8 := kV_8 hG hv
  have hk := congrArg kdW h
  rw [kd_wE h8, show scW (nI 0) = wE G l (vS (nI 0)) from rfl, kd_wE (by show 0 < 8; omega)] at hk
  have hk0 : kV G v = 0 := (nI_eq (by omega) (by show 0 < 2 ^ 31; omega)).mp hk
  obtain ⟨n, rfl⟩ := kV_sc hG hv hk0
  rw [scW_inj (show scW n = scW (nI 0) from h)]
abbrev LL (N : Nat) (H_globalsUsed H_used H_spareUsed H_old H_oldLeadsToNew H_limit H_every H_fresh H_made H_madeLimit H_reachedFromGlobals H_reachedInAll H_keptGlobalsUsed H_kept : Int32) (n_H_cells : Nat) (f_H_cells : Nat → Int64) (m : Nat) (w : Int64) (i : Int32) : Option Int32 := lm_Strings_listLength_1 N H_globalsUsed H_used H_spareUsed H_old H_oldLeadsToNew H_limit H_every H_fresh H_made H_madeLimit H_reachedFromGlobals H_reachedInAll H_keptGlobalsUsed H_kept n_H_cells f_H_cells (fun (v1_3 : Int64) (v1_5 : Int32) => some (-1 : Int32)) (fun (v1_3 : Int64) (v1_5 : Int32) => some (-1 : Int32)) (fun (v1_3 : Int64) (v1_5 : Int32) => some (-1 : Int32)) (fun (v1_3 : Int64) (v1_5 : Int32) => some v1_5) m w i
theorem ll_st {m i : Nat} {w : Int64} (hi : i ≤ 65536) : LL N H_globalsUsed H_used H_spareUsed H_old H_oldLeadsToNew H_limit H_every H_fresh H_made H_madeLimit H_reachedFromGlobals H_reachedInAll H_keptGlobalsUsed H_kept n_H_cells f_H_cells (m + 1) w (nI i) = if lg_cmp w (scW (nI 0)) = 0 then some (nI i) else (m_Value_kind N w).bind fun z4_1 => if z4_1 = 3 then (m_Heap_told N H_globalsUsed H_used H_spareUsed H_old H_oldLeadsToNew H_limit H_every H_fresh H_made H_madeLimit H_reachedFromGlobals H_reachedInAll H_keptGlobalsUsed H_kept n_H_cells f_H_cells w).bind fun z6_1 => if z6_1 = 1 then (m_Heap_part N H_globalsUsed H_used H_spareUsed H_old H_oldLeadsToNew H_limit H_every H_fresh H_made H_madeLimit H_reachedFromGlobals H_reachedInAll H_keptGlobalsUsed H_kept n_H_cells f_H_cells w (1 : Int32)).bind fun z8_1 => (m_Value_kind N z8_1).bind fun z9_1 => if z9_1 = 2 then (m_Heap_parts N H_globalsUsed H_used H_spareUsed H_old H_oldLeadsToNew H_limit H_every H_fresh H_made H_madeLimit H_reachedFromGlobals H_reachedInAll H_keptGlobalsUsed H_kept n_H_cells f_H_cells z8_1).bind fun z11_1 => if z11_1 = 2 then (m_Heap_part N H_globalsUsed H_used H_spareUsed H_old H_oldLeadsToNew H_limit H_every H_fresh H_made H_madeLimit H_reachedFromGlobals H_reachedInAll H_keptGlobalsUsed H_kept n_H_cells f_H_cells z8_1 (1 : Int32)).bind fun z13_1 => (m_Strings_isByte N z13_1).bind fun z14_1 => if z14_1 = 0 then some (-1) else (m_Heap_part N H_globalsUsed H_used H_spareUsed H_old H_oldLeadsToNew H_limit H_every H_fresh H_made H_madeLimit H_reachedFromGlobals H_reachedInAll H_keptGlobalsUsed H_kept n_H_cells f_H_cells z8_1 (2 : Int32)).bind fun z16_1 => LL N H_globalsUsed H_used H_spareUsed H_old H_oldLeadsToNew H_limit H_every H_fresh H_made H_madeLimit H_reachedFromGlobals H_reachedInAll H_keptGlobalsUsed H_kept n_H_cells f_H_cells m z16_1 (nI (i + 1)) else some (-1) else some (-1) else some (-1) else some (-1) := by
  show lm_Strings_listLength_1 N _ _ _ _ _ _ _ _ _ _ _ _ _ _ _ _ _ _ _ _ _ _ _ = _
  rw [lm_Strings_listLength_1, if_neg (show ¬ (131072 : Int32) ≤ nI i by rw [show (131072 : Int32) = nI 131072 from rfl, q_le_f (by omega) (by omega)]; exact id), show m_Value_scalar N 0 = some (scW (nI 0)) from rfl, bind_s, nI_1]
theorem ll1 (he : eR nk nm nid G lE gg t gs fr gc hn gb gf gr hF hH hP hD S_top S_frames S_handlers n_S_values f_S_values n_S_bases f_S_bases n_S_floors f_S_floors n_S_returns f_S_returns n_S_closures f_S_closures n_S_handlerFrames f_S_handlerFrames n_S_handlerPlaces f_S_handlerPlaces n_S_handlerHeights f_S_handlerHeights n_S_handlerDepths f_S_handlerDepths H_globalsUsed H_used H_old H_oldLeadsToNew f_H_globals n_H_cells f_H_cells n_H_spare) : ∀ (m : Nat) (v : AV) (i : Nat), okV nk nm lE v → 2 * i + rkV lE v ≤ 131072 → rkV lE v < m →
    (∃ n B, lst G n v B ∧ 2 * n ≤ rkV lE v ∧ LL N H_globalsUsed H_used H_spareUsed H_old H_oldLeadsToNew H_limit H_every H_fresh H_made H_madeLimit H_reachedFromGlobals H_reachedInAll H_keptGlobalsUsed H_kept n_H_cells f_H_cells m (wE G lE v) (nI i) = some (nI (i + n))) ∨ ((∀ n B, ¬ lst G n v B) ∧ LL N H_globalsUsed H_used H_spareUsed H_old H_oldLeadsToNew H_limit H_every H_fresh H_made H_madeLimit H_reachedFromGlobals H_reachedInAll H_keptGlobalsUsed H_kept n_H_cells f_H_cells m (wE G lE v) (nI i) = some (-1))
  | 0, v, i, _, _, h => absurd h (Nat.not_lt_zero _)
  | m + 1, v, i, hv, hi, hm => by
    obtain ⟨hG, hT, hC, hH', hnn⟩ := eR_hp he
    have hst := ll_st (N := N) (H_globalsUsed := H_globalsUsed) (H_used := H_used) (H_spareUsed := H_spareUsed) (H_old := H_old) (H_oldLeadsToNew := H_oldLeadsToNew) (H_limit := H_limit) (H_every := H_every) (H_fresh := H_fresh) (H_made := H_made) (H_madeLimit := H_madeLimit) (H_reachedFromGlobals := H_reachedFromGlobals) (H_reachedInAll := H_reachedInAll) (H_keptGlobalsUsed := H_keptGlobalsUsed) (H_kept := H_kept) (n_H_cells := n_H_cells) (f_H_cells := f_H_cells) (m := m) (i := i) (w := wE G lE v) (by omega)
    by_cases h0 : v = vS (nI 0)
    · refine Or.inl ⟨0, fun _ => 0, h0, by omega, ?_⟩
      rw [hst, h0, if_pos (show lg_cmp (wE G lE (vS (nI 0))) (scW (nI 0)) = 0 from (lg_cmp_eq _ _).mpr rfl), Nat.add_zero]
    · rw [if_neg (fun h => h0 (wE_0 hG hv ((lg_cmp_eq _ _).mp h)))] at hst
      have hk := kd_E (N := N) hG hv
      have hk8 := kV_8 hG hv
      rw [hk, bind_s] at hst
      by_cases hk3 : kV G v = 3
      · rw [hk3, if_pos (show nI 3 = 3 from rfl)] at hst
        obtain ⟨o, hvo, hgo⟩ := kV_obj (G := G) (v := v) (by omega)
        rw [hk3] at hgo
        subst hvo
        have ho : o ∈ lE := hv
        have htd := told_O (N := N) he ho
        rw [if_neg (by omega)] at htd
        rw [htd, bind_s] at hst
        by_cases hn1 : gN G o = 1
        · rw [if_pos hn1] at hst
          have hC1 : gC G o = 1 := by
            have := (hG.2 o ho).2.1
            unfold okO at this
            omega
          have hnp : gNp G o = 1 := by unfold gNp; rw [if_neg (by omega), if_neg (by omega), hC1]
          have hp1 := part_O (N := N) (i := 1) he ho (by omega) (by omega)
          have hp1' : ∀ (H_globalsUsed : Int32) (H_used : Int32) (H_spareUsed : Int32) (H_old : Int32) (H_oldLeadsToNew : Int32) (H_limit : Int32) (H_every : Int32) (H_fresh : Int32) (H_made : Int32) (H_madeLimit : Int32) (H_reachedFromGlobals : Int32) (H_reachedInAll : Int32) (H_keptGlobalsUsed : Int32) (H_kept : Int32), m_Heap_part N H_globalsUsed H_used H_spareUsed H_old H_oldLeadsToNew H_limit H_every H_fresh H_made H_madeLimit H_reachedFromGlobals H_reachedInAll H_keptGlobalsUsed H_kept n_H_cells f_H_cells (wE G lE (vO o)) 1 = some (wE G lE (gP G o 1)) := hp1
          have okp := (hG.2 o ho).2.2.1 1 (by omega) (by omega)
          have hkp := kd_E (N := N) hG okp
          have hkp8 := kV_8 hG okp
          rw [hp1', bind_s, hkp, bind_s] at hst
          by_cases hk2 : kV G (gP G o 1) = 2
          · rw [hk2, if_pos (show nI 2 = 2 from rfl)] at hst
            obtain ⟨q, hvq, hgq⟩ := kV_obj (G := G) (v := gP G o 1) (by omega)
            rw [hk2] at hgq
            have hq : q ∈ lE := by rw [hvq] at okp; exact okp
            rw [hvq, parts_O he hq, bind_s] at hst
            have hnpq : gNp G q = gC G q := by unfold gNp; rw [if_neg (by omega), if_neg (by omega)]
            have hbq := np_bd (hG.2 q hq).2.1 hnn
            by_cases hc2 : gC G q = 2
            · rw [hnpq, hc2, if_pos (show nI 2 = 2 from rfl)] at hst
              have hcel : cel G (vO o) o q := ⟨rfl, hgo, hn1, hvq, hgq, hc2⟩
              obtain ⟨c1, c2, c3, c4, c5, c6, c7⟩ := cel_w hG hv hcel
              have hq1 : ∀ (H_globalsUsed : Int32) (H_used : Int32) (H_spareUsed : Int32) (H_old : Int32) (H_oldLeadsToNew : Int32) (H_limit : Int32) (H_every : Int32) (H_fresh : Int32) (H_made : Int32) (H_madeLimit : Int32) (H_reachedFromGlobals : Int32) (H_reachedInAll : Int32) (H_keptGlobalsUsed : Int32) (H_kept : Int32), m_Heap_part N H_globalsUsed H_used H_spareUsed H_old H_oldLeadsToNew H_limit H_every H_fresh H_made H_madeLimit H_reachedFromGlobals H_reachedInAll H_keptGlobalsUsed H_kept n_H_cells f_H_cells (wE G lE (vO q)) 1 = some (wE G lE (gP G q 1)) := part_O (N := N) (i := 1) he hq (by omega) (by omega)
              have hq2 : ∀ (H_globalsUsed : Int32) (H_used : Int32) (H_spareUsed : Int32) (H_old : Int32) (H_oldLeadsToNew : Int32) (H_limit : Int32) (H_every : Int32) (H_fresh : Int32) (H_made : Int32) (H_madeLimit : Int32) (H_reachedFromGlobals : Int32) (H_reachedInAll : Int32) (H_keptGlobalsUsed : Int32) (H_kept : Int32), m_Heap_part N H_globalsUsed H_used H_spareUsed H_old H_oldLeadsToNew H_limit H_every H_fresh H_made H_madeLimit H_reachedFromGlobals H_reachedInAll H_keptGlobalsUsed H_kept n_H_cells f_H_cells (wE G lE (vO q)) 2 = some (wE G lE (gP G q 2)) := part_O (N := N) (i := 2) he hq (by omega) (by omega)
              rw [hq1, bind_s] at hst
              have hbyte : (∃ b, b < 256 ∧ gP G q 1 = vS (nI b)) ∨ (m_Strings_isByte N (wE G lE (gP G q 1)) = some 0 ∧ ∀ b, b < 256 → gP G q 1 ≠ vS (nI b)) := by
                by_cases hks : kV G (gP G q 1) = 0
                · obtain ⟨x, hx6⟩ := kV_sc hG c5 hks
                  have hiB := isB_E (N := N) (G := G) (l := lE) (v := x)
                  by_cases x1 : x < 0
                  · rw [if_pos x1] at hiB
                    refine Or.inr ⟨by rw [hx6]; exact hiB, fun b hb e => ?_⟩
                    rw [hx6] at e
                    rw [Sum.inl.inj e] at x1
                    exact nI_pos (by omega) x1
                  · rw [if_neg x1] at hiB
                    obtain ⟨y, hy, rfl⟩ := nI_of x1
                    by_cases hyb : y < 256
                    · exact Or.inl ⟨y, hyb, hx6⟩
                    · rw [if_pos (show (255 : Int32) < nI y by rw [show (255 : Int32) = nI 255 from rfl, q_lt_t (by omega) (by omega)]; exact True.intro)] at hiB
                      refine Or.inr ⟨by rw [hx6]; exact hiB, fun b hb e => ?_⟩
                      rw [hx6] at e
                      have := (nI_eq (by omega) (by omega)).mp (Sum.inl.inj e)
                      omega
                · exact Or.inr ⟨isB_N hG c5 hks, fun b hb e => by rw [e] at hks; exact hks rfl⟩
              rcases hbyte with ⟨b, hb, hbv⟩ | ⟨hnb, hno⟩
              · have hiB := isB_E (N := N) (G := G) (l := lE) (v := nI b)
                rw [if_neg (nI_pos (by omega)), if_neg (show ¬ (255 : Int32) < nI b by rw [show (255 : Int32) = nI 255 from rfl, q_lt_f (by omega) (by omega)]; exact id)] at hiB
                rw [hbv, hiB, bind_s, if_neg (show ¬ nI 1 = 0 by decide), hq2, bind_s] at hst
                rcases ll1 he m (gP G q 2) (i + 1) c6 (by omega) (by omega) with ⟨n, B, d1, d2, d3⟩ | ⟨d1, d2⟩
                · refine Or.inl ⟨n + 1, fun j => if j = 0 then b else B (j - 1), ⟨o, q, rfl, hgo, hn1, hvq, hgq, hc2, ?_, ?_, ?_⟩, by omega, ?_⟩
                  · exact hbv
                  · exact hb
                  · refine lst_c d1 (fun j hj => ?_)
                    dsimp only
                    rw [if_neg (by omega), Nat.add_sub_cancel]
                  · rw [hst, d3, Nat.add_assoc, Nat.add_comm 1 n]
                · exact Or.inr ⟨cel_no3 hcel d1, by rw [hst, d2]⟩
              · rw [hnb, bind_s, if_pos rfl] at hst
                exact Or.inr ⟨cel_no2 hcel hno, hst⟩
            · rw [hnpq, if_neg (show ¬ nI (gC G q) = 2 from ne_l (b := 2) hc2 (by omega) (by omega))] at hst
              refine Or.inr ⟨cel_no (fun o' p' h => ?_) h0, hst⟩
              have e1 : o = o' := Sum.inr.inj (Sum.inr.inj h.1)
              subst e1
              have e2 : q = p' := by have := h.2.2.2.1; rw [hvq] at this; exact Sum.inr.inj (Sum.inr.inj this)
              subst e2
              exact hc2 h.2.2.2.2.2
          · rw [if_neg (show ¬ nI (kV G (gP G o 1)) = 2 from ne_l (b := 2) hk2 (by omega) (by omega))] at hst
            refine Or.inr ⟨cel_no (fun o' p' h => ?_) h0, hst⟩
            have e1 : o = o' := Sum.inr.inj (Sum.inr.inj h.1)
            subst e1
            rw [h.2.2.2.1] at hk2
            exact hk2 h.2.2.2.2.1
        · rw [if_neg hn1] at hst
          refine Or.inr ⟨cel_no (fun o' p' h => ?_) h0, hst⟩
          have e1 : o = o' := Sum.inr.inj (Sum.inr.inj h.1)
          subst e1
          exact hn1 h.2.2.1
      · rw [if_neg (show ¬ nI (kV G v) = 3 from ne_l (b := 3) hk3 (by omega) (by omega))] at hst
        refine Or.inr ⟨cel_no (fun o' p' h => ?_) h0, hst⟩
        rw [h.1] at hk3
        exact hk3 h.2.1
theorem isL_1 {v : AV} {o p : Nat} (hr : rR nk nm nid G lR gg t gs fr gc hn gb gf gr hF hH hP hD I F) (hv : okV nk nm lR v) (hc : cel G v o p) : m_Model_isList N I F (tR v) (vR G lR v) = some (nI 1) := by
  obtain ⟨c1, c2, c3, c4, c5, c6, c7⟩ := cel_w hr.2.2.1 hv hc
  obtain ⟨h1, h2, h3, h4, h5, h6⟩ := hc
  subst h1
  obtain ⟨a1, a2, a3, a4, a5, a6⟩ := obj_R hr c1
  obtain ⟨b1, b2, b3, b4, b5, b6⟩ := obj_R hr c2
  obtain ⟨d1, d2, d3⟩ := a6 1 (by omega) (by omega)
  rw [h4] at d1 d2
  have d1 : F 0 (adr (gZ G) lR o + 1) = 2 := d1
  have d2 : F 1 (adr (gZ G) lR o + 1) = nI (adr (gZ G) lR p) := d2
  have z1 := gZ_pos G o
  have hz : gZ G o = 2 := by rw [gZ_np (by omega), c3]
  have k1 := kindAt_R (N := N) (I := I) a3 (by omega) a4
  have k2 := kindAt_R (N := N) (I := I) b3 (by omega) b4
  have k3 := partsAt_R (N := N) (I := I) b3 (by omega) b4
  have e5 : F 1 (adr (gZ G) lR o) = 1 := by
    rw [a5]
    unfold chR
    rw [if_neg (by omega)]
    exact h3
  show m_Model_isList N I F 2 (nI (adr (gZ G) lR o)) = _
  unfold m_Model_isList
  rw [if_pos rfl, k1, bind_s, h2, if_pos (show nI 3 = 3 from rfl), if_neg (bd_n (by omega) (by omega)), q_cl (by omega), if_pos e5, nI_1, if_neg (bd_n (by omega) (by omega)), q_cl (by omega), if_pos d1, if_neg (bd_n' (by omega)), d2, k2, bind_s, h5, if_pos (show nI 2 = 2 from rfl), if_neg (bd_n' (by omega)), k3, bind_s, c4, if_pos (show nI 2 = 2 from rfl)]
  rfl
theorem isL_0 {v : AV} (hr : rR nk nm nid G lR gg t gs fr gc hn gb gf gr hF hH hP hD I F) (hv : okV nk nm lR v) (hc : ∀ o p, ¬ cel G v o p) : m_Model_isList N I F (tR v) (vR G lR v) = some (nI 0) := by
  by_cases hob : ∃ o, v = vO o
  · obtain ⟨o, rfl⟩ := hob
    have ho : o ∈ lR := hv
    obtain ⟨a1, a2, a3, a4, a5, a6⟩ := obj_R hr ho
    have k1 := kindAt_R (N := N) (I := I) a3 (by omega) a4
    have hK8 := okO_K a3
    show m_Model_isList N I F 2 (nI (adr (gZ G) lR o)) = _
    unfold m_Model_isList
    rw [if_pos rfl, k1, bind_s]
    by_cases h3 : gK G o = 3
    · have hC1 : gC G o = 1 := by
        have := a3
        unfold okO at this
        omega
      have hnp : gNp G o = 1 := by unfold gNp; rw [if_neg (by omega), if_neg (by omega), hC1]
      have hz : gZ G o = 2 := by rw [gZ_np (by omega), hnp]
      have e5 : F 1 (adr (gZ G) lR o) = gN G o := by
        rw [a5]
        unfold chR
        rw [if_neg (by omega)]
      obtain ⟨d1, d2, d3⟩ := a6 1 (by omega) (by omega)
      rw [h3, if_pos (show nI 3 = 3 from rfl), if_neg (bd_n (by omega) (by omega)), q_cl (by omega), e5]
      by_cases hn1 : gN G o = 1
      · rw [if_pos hn1, nI_1, if_neg (bd_n (by omega) (by omega)), q_cl (by omega), d1]
        by_cases hob2 : ∃ p, gP G o 1 = vO p
        · obtain ⟨p, hp⟩ := hob2
          rw [hp] at d2 d3
          have hpl : p ∈ lR := d3
          have d2 : F 1 (adr (gZ G) lR o + 1) = nI (adr (gZ G) lR p) := d2
          obtain ⟨b1, b2, b3, b4, b5, b6⟩ := obj_R hr hpl
          have k2 := kindAt_R (N := N) (I := I) b3 (by omega) b4
          have k3 := partsAt_R (N := N) (I := I) b3 (by omega) b4
          have hK8' := okO_K b3
          rw [hp, if_pos (show tR (vO p) = 2 from rfl), if_neg (bd_n' (by omega)), d2, k2, bind_s]
          by_cases h2 : gK G p = 2
          · rw [h2, if_pos (show nI 2 = 2 from rfl), if_neg (bd_n' (by omega)), k3, bind_s]
            have hnpq : gNp G p = gC G p := by unfold gNp; rw [if_neg (by omega), if_neg (by omega)]
            have hb : gNp G p ≤ 65535 := by
              rw [hnpq]
              have := b3
              unfold okO at this
              omega
            by_cases hc2 : gNp G p = 2
            · exact absurd ⟨rfl, h3, hn1, hp, h2, by omega⟩ (hc o p)
            · rw [if_neg (show ¬ nI (gNp G p) = 2 from ne_l (b := 2) hc2 (by omega) (by omega))]
              rfl
          · rw [if_neg (show ¬ nI (gK G p) = 2 from ne_l (b := 2) h2 (by omega) (by omega))]
            rfl
        · rw [if_neg (show ¬ tR (gP G o 1) = 2 from tR_ne d3 (fun p hp => hob2 ⟨p, hp⟩))]
          rfl
      · rw [if_neg hn1]
        rfl
    · rw [if_neg (show ¬ nI (gK G o) = 3 from ne_l (b := 3) h3 (by omega) (by omega))]
      rfl
  · unfold m_Model_isList
    rw [if_neg (show ¬ tR v = 2 from tR_ne hv (fun p hp => hob ⟨p, hp⟩))]
    rfl
theorem tv_0 {l : List Nat} {v : AV} (hv : okV nk nm l v) (h : tR v = 0 ∧ vR G l v = 0) : v = vS (nI 0) := by
  rcases v with n | ⟨k, i⟩ | o
  · have : n = 0 := h.2
    rw [this]
    rfl
  · have h1 : nI (1 + 256 * k) = nI 0 := h.1
    have := hv.1
    have := (nI_eq (by omega) (by omega)).mp h1
    omega
  · have h1 : nI 2 = nI 0 := h.1
    have := (nI_eq (by omega) (by omega)).mp h1
    omega
theorem li1 (hr : rR nk nm nid G lR gg t gs fr gc hn gb gf gr hF hH hP hD I F) : ∀ (m : Nat) (v : AV) (i : Nat), okV nk nm lR v → 2 * i + rkV lR v ≤ 131072 → rkV lR v < m →
    (∃ n B, lst G n v B ∧ ∀ (ζ : Type) (k1 k2 : Int32 → Int32 → Int32 → Option ζ), lm_Model_implode_1 N I F k1 k2 m (nI i) (tR v) (vR G lR v) = k1 (nI (i + n)) (nI 0) (nI 0)) ∨ ((∀ n B, ¬ lst G n v B) ∧ ((∃ c tg vl, ¬ (tg = 0 ∧ vl = 0) ∧ ∀ (ζ : Type) (k1 k2 : Int32 → Int32 → Int32 → Option ζ), lm_Model_implode_1 N I F k1 k2 m (nI i) (tR v) (vR G lR v) = k1 c tg vl) ∨ (∃ c tg vl, ∀ (ζ : Type) (k1 k2 : Int32 → Int32 → Int32 → Option ζ), lm_Model_implode_1 N I F k1 k2 m (nI i) (tR v) (vR G lR v) = k2 c tg vl)))
  | 0, v, i, _, _, h => absurd h (Nat.not_lt_zero _)
  | m + 1, v, i, hv, hi, hm => by
    have hG := hr.2.2.1
    by_cases hcel : ∃ o p, cel G v o p
    · obtain ⟨o, p, hcel⟩ := hcel
      have hL := isL_1 (N := N) hr hv hcel
      obtain ⟨c1, c2, c3, c4, c5, c6, c7⟩ := cel_w hG hv hcel
      have hcel' := hcel
      obtain ⟨h1, h2, h3, h4, h5, h6⟩ := hcel'
      obtain ⟨a1, a2, a3, a4, a5, a6⟩ := obj_R hr c1
      obtain ⟨b1, b2, b3, b4, b5, b6⟩ := obj_R hr c2
      obtain ⟨d1, d2, d3⟩ := a6 1 (by omega) (by omega)
      rw [h4] at d2
      have d2 : F 1 (adr (gZ G) lR o + 1) = nI (adr (gZ G) lR p) := d2
      have hz : gZ G o = 2 := by rw [gZ_np (by omega), c3]
      have hz2 : gZ G p = 3 := by rw [gZ_np (by omega), c4]
      obtain ⟨p1, p2, p3⟩ := b6 1 (by omega) (by omega)
      obtain ⟨r1, r2, r3⟩ := b6 2 (by omega) (by omega)
      have x1 : nI (adr (gZ G) lR o) + 1 = nI (adr (gZ G) lR o + 1) := nI_1 _
      have y1 : nI (adr (gZ G) lR p) + 1 = nI (adr (gZ G) lR p + 1) := nI_1 _
      have y2 : nI (adr (gZ G) lR p) + 2 = nI (adr (gZ G) lR p + 2) := q_add _ 2
      have hst : ∀ (ζ : Type) (k1 k2 : Int32 → Int32 → Int32 → Option ζ), lm_Model_implode_1 N I F k1 k2 (m + 1) (nI i) (tR v) (vR G lR v) = if tR (gP G p 1) = 0 then (if vR G lR (gP G p 1) < 0 then k2 (nI i) (tR v) (vR G lR v) else if vR G lR (gP G p 1) ≤ 255 then lm_Model_implode_1 N I F k1 k2 m (nI (i + 1)) (tR (gP G p 2)) (vR G lR (gP G p 2)) else k2 (nI i) (tR v) (vR G lR v)) else k2 (nI i) (tR v) (vR G lR v) := by
        intro ζ k1 k2
        have hvv : vR G lR v = nI (adr (gZ G) lR o) := by rw [h1]; rfl
        rw [lm_Model_implode_1, hL, bind_s, if_neg (show ¬ nI 1 = 0 by decide), hvv, x1, if_neg (bd_n (by omega) (by omega)), q_cl (by omega), d2, y1, if_neg (bd_n (by omega) (by omega)), q_cl (by omega), p1, p2, y2, if_neg (bd_n' (by omega)), if_neg (bd_n' (by omega)), if_neg (bd_n (by omega) (by omega)), if_neg (bd_n (by omega) (by omega)), q_cl (by omega), r1, r2, nI_1]
      by_cases hks : ∃ x, gP G p 1 = vS x
      · obtain ⟨x, hx6⟩ := hks
        rw [hx6] at hst
        have e0 : tR (vS x) = 0 := rfl
        have e1 : vR G lR (vS x) = x := rfl
        rw [e0, e1] at hst
        by_cases x1 : x < 0
        · refine Or.inr ⟨cel_no2 hcel (fun b hb e => ?_), Or.inr ⟨nI i, tR v, vR G lR v, fun ζ k1 k2 => ?_⟩⟩
          · rw [hx6] at e
            rw [Sum.inl.inj e] at x1
            exact nI_pos (by omega) x1
          · rw [hst, if_pos rfl, if_pos x1]
        · obtain ⟨y, hy, rfl⟩ := nI_of x1
          by_cases hyb : y < 256
          · have hle : nI y ≤ 255 := by rw [show (255 : Int32) = nI 255 from rfl, q_le_t (by omega) (by omega)]; exact True.intro
            rcases li1 hr m (gP G p 2) (i + 1) c6 (by omega) (by omega) with ⟨n, B, e1, e2⟩ | ⟨e1, e2⟩
            · refine Or.inl ⟨n + 1, fun j => if j = 0 then y else B (j - 1), ⟨o, p, h1, h2, h3, h4, h5, h6, ?_, ?_, ?_⟩, fun ζ k1 k2 => ?_⟩
              · exact hx6
              · exact hyb
              · refine lst_c e1 (fun j hj => ?_)
                dsimp only
                rw [if_neg (by omega), Nat.add_sub_cancel]
              · rw [hst, if_pos rfl, if_neg x1, if_pos hle, e2, Nat.add_assoc, Nat.add_comm 1 n]
            · refine Or.inr ⟨cel_no3 hcel e1, ?_⟩
              rcases e2 with ⟨cc, tg, vl, f1, f2⟩ | ⟨cc, tg, vl, f2⟩
              · exact Or.inl ⟨cc, tg, vl, f1, fun ζ k1 k2 => by rw [hst, if_pos rfl, if_neg x1, if_pos hle, f2]⟩
              · exact Or.inr ⟨cc, tg, vl, fun ζ k1 k2 => by rw [hst, if_pos rfl, if_neg x1, if_pos hle, f2]⟩
          · have hle : ¬ nI y ≤ 255 := by rw [show (255 : Int32) = nI 255 from rfl, q_le_f (by omega) (by omega)]; exact id
            refine Or.inr ⟨cel_no2 hcel (fun b hb e => ?_), Or.inr ⟨nI i, tR v, vR G lR v, fun ζ k1 k2 => ?_⟩⟩
            · rw [hx6] at e
              have := (nI_eq (by omega) (by omega)).mp (Sum.inl.inj e)
              omega
            · rw [hst, if_pos rfl, if_neg x1, if_neg hle]
      · have hne : ¬ tR (gP G p 1) = 0 := by
          revert hks c5
          generalize gP G p 1 = w
          intro c5 hks
          rcases w with n | ⟨k, j⟩ | q
          · exact absurd ⟨n, rfl⟩ hks
          · have := c5.1
            show ¬ nI (1 + 256 * k) = nI 0
            rw [q_eq_f (by omega) (by omega) (by omega)]
            exact id
          · show ¬ nI 2 = nI 0
            rw [q_eq_f (by omega) (by omega) (by omega)]
            exact id
        refine Or.inr ⟨cel_no2 hcel (fun b hb e => hks ⟨_, e⟩), Or.inr ⟨nI i, tR v, vR G lR v, fun ζ k1 k2 => ?_⟩⟩
        rw [hst, if_neg hne]
    · have hnc : ∀ o p, ¬ cel G v o p := fun o p h => hcel ⟨o, p, h⟩
      have hL := isL_0 (N := N) hr hv hnc
      have hst : ∀ (ζ : Type) (k1 k2 : Int32 → Int32 → Int32 → Option ζ), lm_Model_implode_1 N I F k1 k2 (m + 1) (nI i) (tR v) (vR G lR v) = k1 (nI i) (tR v) (vR G lR v) := by
        intro ζ k1 k2
        rw [lm_Model_implode_1, hL, bind_s, if_pos (show nI 0 = 0 from rfl)]
      by_cases h0 : v = vS (nI 0)
      · refine Or.inl ⟨0, fun _ => 0, h0, fun ζ k1 k2 => ?_⟩
        rw [hst, h0]
        rfl
      · exact Or.inr ⟨cel_no hnc h0, Or.inl ⟨_, _, _, fun h => h0 (tv_0 hv h), hst⟩⟩
theorem part_c {o i n : Nat} {b : Nat → Nat} {c : Nat → Int64} (he : eR nk nm nid G lE gg t gs fr gc hn gb gf gr hF hH hP hD S_top S_frames S_handlers n_S_values f_S_values n_S_bases f_S_bases n_S_floors f_S_floors n_S_returns f_S_returns n_S_closures f_S_closures n_S_handlerFrames f_S_handlerFrames n_S_handlerPlaces f_S_handlerPlaces n_S_handlerHeights f_S_handlerHeights n_S_handlerDepths f_S_handlerDepths H_globalsUsed H_used H_old H_oldLeadsToNew f_H_globals n_H_cells f_H_cells n_H_spare) (ho : o ∈ lE) (hi : 1 ≤ i) (hin : i ≤ gNp G o) (hs : sbE f_H_cells c (tot (gZ G) lE) n b) : ∀ (H_globalsUsed : Int32) (H_used : Int32) (H_spareUsed : Int32) (H_old : Int32) (H_oldLeadsToNew : Int32) (H_limit : Int32) (H_every : Int32) (H_fresh : Int32) (H_made : Int32) (H_madeLimit : Int32) (H_reachedFromGlobals : Int32) (H_reachedInAll : Int32) (H_keptGlobalsUsed : Int32) (H_kept : Int32), m_Heap_part N H_globalsUsed H_used H_spareUsed H_old H_oldLeadsToNew H_limit H_every H_fresh H_made H_madeLimit H_reachedFromGlobals H_reachedInAll H_keptGlobalsUsed H_kept n_H_cells c (wE G lE (vO o)) (nI i) = some (wE G lE (gP G o i)) := by
  intros
  obtain ⟨hG, ht, hC, hh, hn'⟩ := eR_hp he
  have hend := adr_end (Z := gZ G) ho
  have hiz := (np_lt hin hi).1
  have h2 : m_Value_number N (wE G lE (vO o)) = some (nI (adr (gZ G) lE o)) := nu_E (N := N) (v := vO o) hG ho hn' (by omega)
  have h3 := (hh o ho).2.1 i hi hin
  rw [← hs.1 _ (by omega)] at h3
  unfold m_Heap_part
  rw [h2, bind_s, q_add, if_neg (bd_n (by omega) (by omega)), q_cl (by omega), h3]
theorem imp1 {H_limit H_every H_madeLimit H_keptGlobalsUsed H_kept m6 m7 m8 m9 m10 m11 r3 r4 : Int32} {n : Nat} {B : Nat → Nat} (he : eR nk nm nid G lE gg t gs fr gc hn gb gf gr hF hH hP hD S_top S_frames S_handlers n_S_values f_S_values n_S_bases f_S_bases n_S_floors f_S_floors n_S_returns f_S_returns n_S_closures f_S_closures n_S_handlerFrames f_S_handlerFrames n_S_handlerPlaces f_S_handlerPlaces n_S_handlerHeights f_S_handlerHeights n_S_handlerDepths f_S_handlerDepths H_globalsUsed H_used H_old H_oldLeadsToNew f_H_globals n_H_cells f_H_cells n_H_spare) (hn6 : n ≤ 65535) (hroom : tot (gZ G) lE + 1 + (n + 3) / 4 ≤ n_H_cells) :
    ∀ (m i : Nat) (v : AV) (c : Nat → Int64), i ≤ n → n - i < m → lst G (n - i) v (fun j => B (i + j)) → okV nk nm lE v → sbE f_H_cells c (tot (gZ G) lE) n (cutB B i) → ∃ (x : Int64) (c' : Nat → Int64), (∀ (α : Type) (k : Int64 → Int32 → (Nat → Int64) → Option (α × Nat × Nat)), lm_Strings_implode_1 N H_globalsUsed H_limit H_every H_madeLimit H_keptGlobalsUsed H_kept (nI n) m6 m7 m8 m9 m10 m11 n_H_cells (nI (tot (gZ G) lE)) r3 r4 k m (wE G lE v) (nI i) c = k x (nI n) c') ∧ sbE f_H_cells c' (tot (gZ G) lE) n (cutB B n)
  | 0, i, v, c, _, h, _, _, _ => absurd h (Nat.not_lt_zero _)
  | m + 1, i, v, c, hi, h, hl, hv, hs => by
    by_cases q : i = n
    · subst q
      refine ⟨wE G lE v, c, fun α k => ?_, hs⟩
      rw [lm_Strings_implode_1, if_pos Int32.le_rfl]
    · obtain ⟨hG, ht, hC, hh, hn'⟩ := eR_hp he
      rw [show n - i = n - (i + 1) + 1 by omega] at hl
      obtain ⟨o, p, h1, h2, h3, h4, h5, h6, h7, h8, h9⟩ := hl
      dsimp only at h7 h8 h9
      rw [Nat.add_zero] at h7 h8
      have hcel : cel G v o p := ⟨h1, h2, h3, h4, h5, h6⟩
      obtain ⟨c1, c2, c3, c4, c5, c6, c7⟩ := cel_w hG hv hcel
      have g1 : ∀ (H_globalsUsed : Int32) (H_used : Int32) (H_spareUsed : Int32) (H_old : Int32) (H_oldLeadsToNew : Int32) (H_limit : Int32) (H_every : Int32) (H_fresh : Int32) (H_made : Int32) (H_madeLimit : Int32) (H_reachedFromGlobals : Int32) (H_reachedInAll : Int32) (H_keptGlobalsUsed : Int32) (H_kept : Int32), m_Heap_part N H_globalsUsed H_used H_spareUsed H_old H_oldLeadsToNew H_limit H_every H_fresh H_made H_madeLimit H_reachedFromGlobals H_reachedInAll H_keptGlobalsUsed H_kept n_H_cells c (wE G lE (vO o)) 1 = some (wE G lE (gP G o 1)) := part_c (N := N) (i := 1) he c1 (by omega) (by omega) hs
      have g2 : ∀ (H_globalsUsed : Int32) (H_used : Int32) (H_spareUsed : Int32) (H_old : Int32) (H_oldLeadsToNew : Int32) (H_limit : Int32) (H_every : Int32) (H_fresh : Int32) (H_made : Int32) (H_madeLimit : Int32) (H_reachedFromGlobals : Int32) (H_reachedInAll : Int32) (H_keptGlobalsUsed : Int32) (H_kept : Int32), m_Heap_part N H_globalsUsed H_used H_spareUsed H_old H_oldLeadsToNew H_limit H_every H_fresh H_made H_madeLimit H_reachedFromGlobals H_reachedInAll H_keptGlobalsUsed H_kept n_H_cells c (wE G lE (vO p)) 1 = some (wE G lE (gP G p 1)) := part_c (N := N) (i := 1) he c2 (by omega) (by omega) hs
      have nu : m_Value_number N (wE G lE (vS (nI (B i)))) = some (nI (B i)) := nu_E (v := vS (nI (B i))) hG trivial hn' (by omega)
      obtain ⟨cn, a1, a2⟩ := setB_E (N := N) (k := i) (x := nI (B i)) hs (by omega) hn6 hroom hC (cut_i B _)
      rw [byI_n h8, cut_s] at a2
      have g3 : ∀ (H_globalsUsed : Int32) (H_used : Int32) (H_spareUsed : Int32) (H_old : Int32) (H_oldLeadsToNew : Int32) (H_limit : Int32) (H_every : Int32) (H_fresh : Int32) (H_made : Int32) (H_madeLimit : Int32) (H_reachedFromGlobals : Int32) (H_reachedInAll : Int32) (H_keptGlobalsUsed : Int32) (H_kept : Int32), m_Heap_part N H_globalsUsed H_used H_spareUsed H_old H_oldLeadsToNew H_limit H_every H_fresh H_made H_madeLimit H_reachedFromGlobals H_reachedInAll H_keptGlobalsUsed H_kept n_H_cells cn (wE G lE (vO p)) 2 = some (wE G lE (gP G p 2)) := part_c (N := N) (i := 2) he c2 (by omega) (by omega) a2
      have e9 : (fun j => B (i + (j + 1))) = (fun j => B (i + 1 + j)) := by
        funext j
        congr 1
        omega
      rw [e9] at h9
      obtain ⟨x, c', d1, d2⟩ := imp1 (H_limit := H_limit) (H_every := H_every) (H_madeLimit := H_madeLimit) (H_keptGlobalsUsed := H_keptGlobalsUsed) (H_kept := H_kept) (m6 := m6) (m7 := m7) (m8 := m8) (m9 := m9) (m10 := m10) (m11 := m11) (r3 := r3) (r4 := r4) he hn6 hroom m (i + 1) (gP G p 2) cn (by omega) (by omega) h9 c6 a2
      refine ⟨x, c', fun α k => ?_, d2⟩
      rw [lm_Strings_implode_1, if_neg (by rw [q_le_f (by omega) (by omega)]; exact id), h1, g1, bind_s, h4, g2, bind_s, h7, nu, bind_s, a1, bind_s, g3, bind_s, nI_1]
      exact d1 α k
theorem imp2 {J : Nat → Int32} {n : Nat} {B : Nat → Nat} (hr : rR nk nm nid G lR gg t gs fr gc hn gb gf gr hF hH hP hD I F) (hn6 : n ≤ 65535) (hroom : tot (gZ G) lR + 1 + (n + 3) / 4 ≤ 131072) :
    ∀ (m i : Nat) (v : AV) (c : Nat → Nat → Int32), i ≤ n → n - i < m → lst G (n - i) v (fun j => B (i + j)) → okV nk nm lR v → sbR F c (tot (gZ G) lR) n (cutB B i) → ∃ (x : Int32) (c' : Nat → Nat → Int32), (∀ (ζ : Type) (k : Int32 → Int32 → (Nat → Nat → Int32) → Option ζ), lm_Model_implode_2 N (nI n) (nI (tot (gZ G) lR)) J k m (vR G lR v) (nI i) c = k x (nI n) c') ∧ sbR F c' (tot (gZ G) lR) n (cutB B n)
  | 0, i, v, c, _, h, _, _, _ => absurd h (Nat.not_lt_zero _)
  | m + 1, i, v, c, hi, h, hl, hv, hs => by
    by_cases q : i = n
    · subst q
      refine ⟨vR G lR v, c, fun α k => ?_, hs⟩
      rw [lm_Model_implode_2, if_pos Int32.le_rfl]
    · have hG := hr.2.2.1
      rw [show n - i = n - (i + 1) + 1 by omega] at hl
      obtain ⟨o, p, h1, h2, h3, h4, h5, h6, h7, h8, h9⟩ := hl
      dsimp only at h7 h8 h9
      rw [Nat.add_zero] at h7 h8
      have hcel : cel G v o p := ⟨h1, h2, h3, h4, h5, h6⟩
      obtain ⟨c1, c2, c3, c4, c5, c6, c7⟩ := cel_w hG hv hcel
      obtain ⟨a1, a2, a3, a4, a5, a6⟩ := obj_R hr c1
      obtain ⟨b1, b2, b3, b4, b5, b6⟩ := obj_R hr c2
      have hz : gZ G o = 2 := by rw [gZ_np (by omega), c3]
      have hz2 : gZ G p = 3 := by rw [gZ_np (by omega), c4]
      have end1 := adr_end (Z := gZ G) c1
      have end2 := adr_end (Z := gZ G) c2
      obtain ⟨d1, d2, d3⟩ := a6 1 (by omega) (by omega)
      obtain ⟨p1, p2, p3⟩ := b6 1 (by omega) (by omega)
      obtain ⟨r1, r2, r3⟩ := b6 2 (by omega) (by omega)
      rw [h4] at d2
      have d2 : F 1 (adr (gZ G) lR o + 1) = nI (adr (gZ G) lR p) := d2
      rw [h7] at p2
      have p2 : F 1 (adr (gZ G) lR p + 1) = nI (B i) := p2
      obtain ⟨cn, e1, e2⟩ := setB_R (N := N) (I := J) (k := i) (x := nI (B i)) hs (by omega) hn6 hroom (cut_i B _)
      rw [byI_n h8, cut_s] at e2
      rw [← (hs.1 _ (by omega)).2] at d2 p2
      rw [← (e2.1 _ (by omega)).2] at r2
      have e9 : (fun j => B (i + (j + 1))) = (fun j => B (i + 1 + j)) := by
        funext j
        congr 1
        omega
      rw [e9] at h9
      obtain ⟨x, c', f1, f2⟩ := imp2 (J := J) hr hn6 hroom m (i + 1) (gP G p 2) cn (by omega) (by omega) h9 c6 e2
      refine ⟨x, c', fun ζ k => ?_, f2⟩
      have x1 : nI (adr (gZ G) lR o) + 1 = nI (adr (gZ G) lR o + 1) := nI_1 _
      have y1 : nI (adr (gZ G) lR p) + 1 = nI (adr (gZ G) lR p + 1) := nI_1 _
      have y2 : nI (adr (gZ G) lR p) + 2 = nI (adr (gZ G) lR p + 2) := q_add _ 2
      have hvv : vR G lR v = nI (adr (gZ G) lR o) := by rw [h1]; rfl
      rw [lm_Model_implode_2, if_neg (by rw [q_le_f (by omega) (by omega)]; exact id), hvv, x1, if_neg (bd_n (by omega) (by omega)), q_cl (by omega), d2, y1, if_neg (bd_n (by omega) (by omega)), q_cl (by omega), p2, e1, bind_s, y2, if_neg (bd_n (by omega) (by omega)), q_cl (by omega), r2, nI_1]
      exact f1 ζ k
theorem im_F {w0 : Int64} (h1 : m_Stacks_peek N S_top S_frames S_handlers n_S_values f_S_values 0 = some w0) (h2 : m_Strings_listLength N H_globalsUsed H_used H_spareUsed H_old H_oldLeadsToNew H_limit H_every H_fresh H_made H_madeLimit H_reachedFromGlobals H_reachedInAll H_keptGlobalsUsed H_kept n_H_cells f_H_cells w0 = some (-1)) : m_Strings_implode N S_top S_frames S_handlers H_globalsUsed H_used H_spareUsed H_old H_oldLeadsToNew H_limit H_every H_fresh H_made H_madeLimit H_reachedFromGlobals H_reachedInAll H_keptGlobalsUsed H_kept n_S_values f_S_values n_S_closures f_S_closures n_H_globals f_H_globals n_H_cells f_H_cells n_H_spare f_H_spare = some ((nI 4, f_H_globals, f_S_closures, f_S_values, H_fresh, H_made, H_old, H_oldLeadsToNew, H_reachedFromGlobals, H_reachedInAll, H_spareUsed, H_used, S_top, n_H_cells, f_H_cells, n_H_spare, f_H_spare), 0, 0) := by
  unfold m_Strings_implode
  rw [h1, bind_s, h2, bind_s, if_neg (by decide)]
  rfl
theorem im_G {w0 : Int64} {n : Int32} (h1 : m_Stacks_peek N S_top S_frames S_handlers n_S_values f_S_values 0 = some w0) (h2 : m_Strings_listLength N H_globalsUsed H_used H_spareUsed H_old H_oldLeadsToNew H_limit H_every H_fresh H_made H_madeLimit H_reachedFromGlobals H_reachedInAll H_keptGlobalsUsed H_kept n_H_cells f_H_cells w0 = some n) (h3 : 0 ≤ n) (h4 : ¬ n ≤ 65535) : m_Strings_implode N S_top S_frames S_handlers H_globalsUsed H_used H_spareUsed H_old H_oldLeadsToNew H_limit H_every H_fresh H_made H_madeLimit H_reachedFromGlobals H_reachedInAll H_keptGlobalsUsed H_kept n_S_values f_S_values n_S_closures f_S_closures n_H_globals f_H_globals n_H_cells f_H_cells n_H_spare f_H_spare = some ((nI 21, f_H_globals, f_S_closures, f_S_values, H_fresh, H_made, H_old, H_oldLeadsToNew, H_reachedFromGlobals, H_reachedInAll, H_spareUsed, H_used, S_top, n_H_cells, f_H_cells, n_H_spare, f_H_spare), 0, 0) := by
  unfold m_Strings_implode
  rw [h1, bind_s, h2, bind_s, if_pos h3, if_neg h4]
  rfl
theorem im_0 {w0 : Int64} {n sz : Int32} {g' cl' va' c' sp' : Nat → Int64} {fresh' made' old' olt' rG' rA' su' used' : Int32} {nC' nSp' cc ss : Nat} (h1 : m_Stacks_peek N S_top S_frames S_handlers n_S_values f_S_values 0 = some w0) (h2 : m_Strings_listLength N H_globalsUsed H_used H_spareUsed H_old H_oldLeadsToNew H_limit H_every H_fresh H_made H_madeLimit H_reachedFromGlobals H_reachedInAll H_keptGlobalsUsed H_kept n_H_cells f_H_cells w0 = some n) (h3 : 0 ≤ n) (h4 : n ≤ 65535) (h6 : m_Value_cellsOfString N n = some sz) (h7 : m_Heap_ask N S_top S_frames S_handlers H_globalsUsed H_used H_spareUsed H_old H_oldLeadsToNew H_limit H_every H_fresh H_made H_madeLimit H_reachedFromGlobals H_reachedInAll H_keptGlobalsUsed H_kept n_S_values f_S_values n_S_closures f_S_closures n_H_globals f_H_globals n_H_cells f_H_cells n_H_spare f_H_spare sz sz = some ((0, g', cl', va', fresh', made', old', olt', rG', rA', su', used', nC', c', nSp', sp'), cc, ss)) :
    m_Strings_implode N S_top S_frames S_handlers H_globalsUsed H_used H_spareUsed H_old H_oldLeadsToNew H_limit H_every H_fresh H_made H_madeLimit H_reachedFromGlobals H_reachedInAll H_keptGlobalsUsed H_kept n_S_values f_S_values n_S_closures f_S_closures n_H_globals f_H_globals n_H_cells f_H_cells n_H_spare f_H_spare = some ((nI 3, g', cl', va', fresh', made', old', olt', rG', rA', su', used', S_top, nC', c', nSp', sp'), cc, ss) := by
  unfold m_Strings_implode
  rw [h1, bind_s, h2, bind_s, if_pos h3, if_pos h4, h6, bind_s, h7, bind_s]
  dsimp only
  rw [if_pos rfl, tk_s, Nat.zero_add, Nat.zero_add]
  rfl
theorem im_1 {w0 v0 wo x5 : Int64} {n sz u f1 u1 n1 st2 top2 : Int32} {g' cl' va' c' sp' c1 c2 va2 : Nat → Int64} {fresh' made' old' olt' rG' rA' su' used' : Int32} {nC' nSp' cc ss : Nat} (h1 : m_Stacks_peek N S_top S_frames S_handlers n_S_values f_S_values 0 = some w0) (h2 : m_Strings_listLength N H_globalsUsed H_used H_spareUsed H_old H_oldLeadsToNew H_limit H_every H_fresh H_made H_madeLimit H_reachedFromGlobals H_reachedInAll H_keptGlobalsUsed H_kept n_H_cells f_H_cells w0 = some n) (h3 : 0 ≤ n) (h4 : n ≤ 65535) (h6 : m_Value_cellsOfString N n = some sz) (h7 : m_Heap_ask N S_top S_frames S_handlers H_globalsUsed H_used H_spareUsed H_old H_oldLeadsToNew H_limit H_every H_fresh H_made H_madeLimit H_reachedFromGlobals H_reachedInAll H_keptGlobalsUsed H_kept n_S_values f_S_values n_S_closures f_S_closures n_H_globals f_H_globals n_H_cells f_H_cells n_H_spare f_H_spare sz sz = some ((1, g', cl', va', fresh', made', old', olt', rG', rA', su', used', nC', c', nSp', sp'), cc, ss))
    (h8 : m_Heap_layString N H_globalsUsed used' su' old' olt' H_limit H_every fresh' made' H_madeLimit rG' rA' H_keptGlobalsUsed H_kept nC' c' n = some (u, c1, f1, u1)) (h9 : m_Stacks_peek N S_top S_frames S_handlers n_S_values va' 0 = some v0) (h10 : ∀ (α : Type) (k : Int64 → Int32 → (Nat → Int64) → Option (α × Nat × Nat)), lm_Strings_implode_1 N H_globalsUsed H_limit H_every H_madeLimit H_keptGlobalsUsed H_kept n made' old' olt' rG' rA' su' nC' u f1 u1 k N v0 0 c1 = k x5 n1 c2) (h12 : m_Value_object N 6 u = some wo) (h13 : m_Stacks_replace N S_top S_frames S_handlers n_S_values va' 1 wo = some (st2, va2, top2)) :
    m_Strings_implode N S_top S_frames S_handlers H_globalsUsed H_used H_spareUsed H_old H_oldLeadsToNew H_limit H_every H_fresh H_made H_madeLimit H_reachedFromGlobals H_reachedInAll H_keptGlobalsUsed H_kept n_S_values f_S_values n_S_closures f_S_closures n_H_globals f_H_globals n_H_cells f_H_cells n_H_spare f_H_spare = some ((st2, g', cl', va2, f1, made', old', olt', rG', rA', su', u1, top2, nC', c2, nSp', sp'), cc, ss) := by
  unfold m_Strings_implode
  rw [h1, bind_s, h2, bind_s, if_pos h3, if_pos h4, h6, bind_s, h7, bind_s]
  dsimp only
  rw [if_neg (by decide), h8, bind_s]
  dsimp only
  rw [h9, bind_s, h10, h12, bind_s, h13, bind_s]
  dsimp only
  rw [tk_s, Nat.zero_add, Nat.zero_add]
theorem imR_F1 {a c tg vl t0 v0 : Int32} (h0 : I 29 - 1 = a) (h1 : ¬ (a < 0 ∨ 65536 ≤ a.toNatClampNeg)) (ht : F 27 a.toNatClampNeg = t0) (hv : F 28 a.toNatClampNeg = v0) (h2 : ∀ (ζ : Type) (k1 k2 : Int32 → Int32 → Int32 → Option ζ), lm_Model_implode_1 N I F k1 k2 N 0 t0 v0 = k1 c tg vl) (h3 : ¬ (tg = 0 ∧ vl = 0)) : m_Model_implode N I F = some (nI 4, F, I) := by
  unfold m_Model_implode
  rw [h0, if_neg h1, if_neg h1, ht, hv, h2]
  by_cases c1 : tg = 0
  · rw [if_pos c1, if_neg (fun h => h3 ⟨c1, h⟩)]
    rfl
  · rw [if_neg c1]
    rfl
theorem imR_F2 {a c tg vl t0 v0 : Int32} (h0 : I 29 - 1 = a) (h1 : ¬ (a < 0 ∨ 65536 ≤ a.toNatClampNeg)) (ht : F 27 a.toNatClampNeg = t0) (hv : F 28 a.toNatClampNeg = v0) (h2 : ∀ (ζ : Type) (k1 k2 : Int32 → Int32 → Int32 → Option ζ), lm_Model_implode_1 N I F k1 k2 N 0 t0 v0 = k2 c tg vl) : m_Model_implode N I F = some (nI 4, F, I) := by
  unfold m_Model_implode
  rw [h0, if_neg h1, if_neg h1, ht, hv, h2]
  rfl
theorem imR_G {a n t0 v0 : Int32} (h0 : I 29 - 1 = a) (h1 : ¬ (a < 0 ∨ 65536 ≤ a.toNatClampNeg)) (ht : F 27 a.toNatClampNeg = t0) (hv : F 28 a.toNatClampNeg = v0) (h2 : ∀ (ζ : Type) (k1 k2 : Int32 → Int32 → Int32 → Option ζ), lm_Model_implode_1 N I F k1 k2 N 0 t0 v0 = k1 n (nI 0) (nI 0)) (h3 : ¬ n ≤ 65535) : m_Model_implode N I F = m_Model_raiseGlobal N I F (nI 1) (nI 5) := by
  unfold m_Model_implode
  rw [h0, if_neg h1, if_neg h1, ht, hv, h2, if_pos (show nI 0 = 0 from rfl), if_pos (show nI 0 = 0 from rfl), if_neg h3]
  exact bind_3 _
theorem imR_0 {a n t0 v0 sz : Int32} {F' : Nat → Nat → Int32} {I' : Nat → Int32} (h0 : I 29 - 1 = a) (h1 : ¬ (a < 0 ∨ 65536 ≤ a.toNatClampNeg)) (ht : F 27 a.toNatClampNeg = t0) (hv : F 28 a.toNatClampNeg = v0) (h2 : ∀ (ζ : Type) (k1 k2 : Int32 → Int32 → Int32 → Option ζ), lm_Model_implode_1 N I F k1 k2 N 0 t0 v0 = k1 n (nI 0) (nI 0)) (h3 : n ≤ 65535) (h4 : 1 + (n + 3) / 4 = sz) (h5 : m_Model_makes N I F sz = some (0, F', I')) : m_Model_implode N I F = some (nI 3, F', I') := by
  unfold m_Model_implode
  rw [h0, if_neg h1, if_neg h1, ht, hv, h2, if_pos (show nI 0 = 0 from rfl), if_pos (show nI 0 = 0 from rfl), if_pos h3, h4, h5, bind_s]
  dsimp only
  rw [if_pos rfl]
  rfl
theorem imR_1 {a n t0 v0 sz u a2 v2 x n1 : Int32} {F1 F2 F3 F4 : Nat → Nat → Int32} {I1 I2 I4 : Nat → Int32} (h0 : I 29 - 1 = a) (h1 : ¬ (a < 0 ∨ 65536 ≤ a.toNatClampNeg)) (ht : F 27 a.toNatClampNeg = t0) (hv : F 28 a.toNatClampNeg = v0) (h2 : ∀ (ζ : Type) (k1 k2 : Int32 → Int32 → Int32 → Option ζ), lm_Model_implode_1 N I F k1 k2 N 0 t0 v0 = k1 n (nI 0) (nI 0)) (h3 : n ≤ 65535) (h4 : 1 + (n + 3) / 4 = sz) (h5 : m_Model_makes N I F sz = some (1, F1, I1)) (h6 : m_Model_string N I1 F1 n = some (u, F2, I2)) (h7 : I2 29 - 1 = a2) (h8 : ¬ (a2 < 0 ∨ 65536 ≤ a2.toNatClampNeg)) (h9 : F2 28 a2.toNatClampNeg = v2) (h10 : ∀ (ζ : Type) (k : Int32 → Int32 → (Nat → Nat → Int32) → Option ζ), lm_Model_implode_2 N n u I2 k N v2 0 F2 = k x n1 F3) (h11 : m_Model_give N I2 F3 1 2 u = some (nI 5, F4, I4)) : m_Model_implode N I F = some (nI 5, F4, upd I4 35 (I4 35 + nI 2)) := by
  unfold m_Model_implode
  rw [h0, if_neg h1, if_neg h1, ht, hv, h2, if_pos (show nI 0 = 0 from rfl), if_pos (show nI 0 = 0 from rfl), if_pos h3, h4, h5, bind_s]
  dsimp only
  rw [if_neg (by decide), h6, bind_s]
  dsimp only
  rw [h7, if_neg h8, h9, h10, h11, bind_s]
  dsimp only
  rw [next_5, bind_s]
  rfl
set_option maxRecDepth 4000 in
set_option maxHeartbeats 4000000 in
theorem pq_40 {rs} {p L : Nat} (hN : 400000 ≤ N) (he : eR nk nm nid G lE gg t gs fr gc hn gb gf gr hF hH hP hD S_top S_frames S_handlers n_S_values f_S_values n_S_bases f_S_bases n_S_floors f_S_floors n_S_returns f_S_returns n_S_closures f_S_closures n_S_handlerFrames f_S_handlerFrames n_S_handlerPlaces f_S_handlerPlaces n_S_handlerHeights f_S_handlerHeights n_S_handlerDepths f_S_handlerDepths H_globalsUsed H_used H_old H_oldLeadsToNew f_H_globals n_H_cells f_H_cells n_H_spare) (hr : rR nk nm nid G lR gg t gs fr gc hn gb gf gr hF hH hP hD I F) (hx : xR nm M_fuel M_ticks H_made M_depth B_names O_size n_O_bytes f_O_bytes n_Q_links f_Q_links n_Q_pairs n_H_cells I F) (h35 : I 35 = nI p) (h43 : I 43 = nI L) (hL : L ≤ 131072) (hkt : gf (fr - 1) + 1 ≤ t)
    (hfit : m_Machine_primitiveFits N S_top S_frames S_handlers M_status (nI p) (nI (p + 2)) M_fuel M_ticks M_depth (I 45) M_done n_S_values f_S_values n_S_floors f_S_floors (nI 40) = some (nI 1)) (hR : rs = m_Model_implode N I F) :
    opR nm n_H_cells I F (potE n_S_values n_S_bases n_S_handlerFrames n_H_cells n_H_spare n_Q_links n_Q_pairs n_O_bytes) (m_Machine_perform N P_size P_constants P_closed P_open O_size S_top S_frames S_handlers H_globalsUsed H_used H_spareUsed H_old H_oldLeadsToNew (nI L) H_every H_fresh H_made (I 44) H_reachedFromGlobals H_reachedInAll H_keptGlobalsUsed H_kept B_names Q_size M_status (nI p) (nI (p + 2)) M_fuel M_ticks M_depth (I 45) M_done n_P_words f_P_words n_P_bytes f_P_bytes n_P_ends f_P_ends n_O_bytes f_O_bytes n_S_values f_S_values n_S_bases f_S_bases n_S_floors f_S_floors n_S_returns f_S_returns n_S_closures f_S_closures n_S_handlerFrames f_S_handlerFrames n_S_handlerPlaces f_S_handlerPlaces n_S_handlerHeights f_S_handlerHeights n_S_handlerDepths f_S_handlerDepths 2049 f_H_globals n_H_cells f_H_cells n_H_spare f_H_spare n_Q_links f_Q_links n_Q_pairs f_Q_pairs (nI 34) (nI 40)) rs := by
  obtain ⟨q1, q2, q3, qt, qs, qh, qb, qf, q4, q5, q6, q7, q8, q9, qx, qy, qz⟩ := frE he
  obtain ⟨y1, y2, y3, y4, y5⟩ := frR hr q1
  subst qt qs qh
  obtain ⟨hG, hT, hC, hH', hnn⟩ := eR_hp he
  have pk0 := eR_peek (N := N) (k := 0) he (by omega)
  rw [Nat.sub_zero] at pk0
  have okE := (vE he (k := t - 1) (by omega)).2
  obtain ⟨t27, t28, okR⟩ := vRr hr (k := t - 1) (by omega)
  have rE := rkV_le (l := lE) (v := gs (t - 1))
  have rR' := rkV_le (l := lR) (v := gs (t - 1))
  have lE1 := len_tot (G := G) (l := lE)
  have lR1 := len_tot (G := G) (l := lR)
  have lR2 := hr.2.2.2.2.2.1
  have h29 : I 29 - 1 = nI (t - 1) := by rw [hr.1.1, show (1 : Int32) = nI 1 from rfl, q_sub (by omega)]
  have hbd : ¬ (nI (t - 1) < 0 ∨ 65536 ≤ (nI (t - 1)).toNatClampNeg) := bd_n (by omega) (by omega)
  have e27 : F 27 (nI (t - 1)).toNatClampNeg = tR (gs (t - 1)) := by rw [q_cl (by omega)]; exact t27
  have e28 : F 28 (nI (t - 1)).toNatClampNeg = vR G lR (gs (t - 1)) := by rw [q_cl (by omega)]; exact t28
  have hE := ll1 (N := N) (H_spareUsed := H_spareUsed) (H_limit := nI L) (H_every := H_every) (H_fresh := H_fresh) (H_made := H_made) (H_madeLimit := I 44) (H_reachedFromGlobals := H_reachedFromGlobals) (H_reachedInAll := H_reachedInAll) (H_keptGlobalsUsed := H_keptGlobalsUsed) (H_kept := H_kept) he N (gs (t - 1)) 0 okE (by omega) (by omega)
  have hM := li1 (N := N) hr N (gs (t - 1)) 0 okR (by omega) (by omega)
  rcases hE with ⟨n, B, b1, b2, b3⟩ | ⟨b1, b3⟩
  · rw [Nat.zero_add] at b3
    have b3 : m_Strings_listLength N H_globalsUsed H_used H_spareUsed H_old H_oldLeadsToNew (nI L) H_every H_fresh H_made (I 44) H_reachedFromGlobals H_reachedInAll H_keptGlobalsUsed H_kept n_H_cells f_H_cells (wE G lE (gs (t - 1))) = some (nI n) := b3
    rcases hM with ⟨n', B', d1, d2⟩ | ⟨d1, _⟩
    · have en := (lst_u b1 d1).1
      subst en
      clear d1
      simp only [Nat.zero_add] at d2
      have h0n : 0 ≤ nI n := by rw [show (0 : Int32) = nI 0 from rfl, q_le_t (by omega) (by omega)]; exact True.intro
      by_cases h65 : n ≤ 65535
      · have hle : nI n ≤ 65535 := by rw [show (65535 : Int32) = nI 65535 from rfl, q_le_t (by omega) (by omega)]; exact True.intro
        have hce := cells_E (N := N) h65
        obtain ⟨B2, hB2, hB3⟩ : ∃ B2 : Nat → Nat, lst G n (gs (t - 1)) B2 ∧ ∀ i, n ≤ i → B2 i = 0 :=
          ⟨fun i => if i < n then B i else 0, lst_c b1 (fun i hi => if_pos hi), fun i hi => if_neg (by omega)⟩
        obtain ⟨b, l', l2, g', cl', va', c', sp', fresh', made', old', olt', rG', rA', su', nC', nSp', cc, ss, I1, F1, a1, a2, a3, a4, a5, a6, a7, a8⟩ := room_ER (N := N) (H_spareUsed := H_spareUsed) (H_every := H_every) (H_fresh := H_fresh) (H_reachedFromGlobals := H_reachedFromGlobals) (H_reachedInAll := H_reachedInAll) (H_keptGlobalsUsed := H_keptGlobalsUsed) (H_kept := H_kept) (f_H_spare := f_H_spare) (n := 1 + (n + 3) / 4) hN he hr hx h43 hL (by omega) (by omega)
        rcases a8 with rfl | ⟨rfl, m1, m2⟩
        · refine no_op (f_Q_pairs := f_Q_pairs) (Q_size := Q_size) (fresh' := fresh') (rG' := rG') (rA' := rA') (su' := su') (sp' := sp') (p := p) a3 a4 a5 a6 a7 ?_ ?_
          · exact pf34_S (by omega) (by decide) hfit (ap_40 (im_0 pk0 b3 h0n hle hce a1))
          · rw [hR]
            exact imR_0 h29 hbd e27 e28 d2 hle (cells_R h65) a2
        · obtain ⟨c1, l1, l3⟩ := layString_E (N := N) (c := c') (n := n) (by omega) m1 (eR_hp a3).2.2.1 h65
          obtain ⟨F2, s2, s3⟩ := string_R (N := N) (I := I1) (F := F1) (u := tot (gZ G) l2) (n := n) (by omega) a4.2.2.2.2.1 m2 h65
          rw [← cut_0 B2] at l3 s3
          have okE' := (vE a3 (k := t - 1) (by omega)).2
          obtain ⟨u27, u28, okR'⟩ := vRr a4 (k := t - 1) (by omega)
          have hl0 : lst G (n - 0) (gs (t - 1)) (fun j => B2 (0 + j)) := by
            rw [Nat.sub_zero, show (fun j => B2 (0 + j)) = B2 from funext (fun j => by rw [Nat.zero_add])]
            exact hB2
          obtain ⟨x5, c2, k1, k2⟩ := imp1 (N := N) (H_limit := nI L) (H_every := H_every) (H_madeLimit := I 44) (H_keptGlobalsUsed := H_keptGlobalsUsed) (H_kept := H_kept) (m6 := made') (m7 := old') (m8 := olt') (m9 := rG') (m10 := rA') (m11 := su') (r3 := fresh' + nI (1 + (n + 3) / 4)) (r4 := nI (tot (gZ G) l' + (1 + (n + 3) / 4))) (B := B2) a3 h65 (by omega) N 0 (gs (t - 1)) c1 (by omega) (by omega) hl0 okE' l3
          obtain ⟨x6, F3, j1, j2⟩ := imp2 (N := N) (J := upd I1 3 (nI (tot (gZ G) l2 + (1 + (n + 3) / 4)))) (B := B2) a4 h65 (by omega) N 0 (gs (t - 1)) F2 (by omega) (by omega) hl0 okR' s3
          rw [cut_n hB3] at k2 j2
          have pk0' := eR_peek (N := N) (k := 0) a3 (by omega)
          rw [Nat.sub_zero] at pk0'
          have h29' : upd I1 3 (nI (tot (gZ G) l2 + (1 + (n + 3) / 4))) 29 - 1 = nI (t - 1) := by rw [upd_n (by omega), a4.1.1, show (1 : Int32) = nI 1 from rfl, q_sub (by omega)]
          have e28' : F2 28 (nI (t - 1)).toNatClampNeg = vR G l2 (gs (t - 1)) := by rw [q_cl (by omega), s3.2.2.2.2.2 28 (by omega) (by omega)]; exact u28
          refine mkS_op (N := N) (f_Q_pairs := f_Q_pairs) (Q_size := Q_size) (fresh' := fresh' + nI (1 + (n + 3) / 4)) (rG' := rG') (rA' := rA') (su' := su') (sp' := sp') (k := 1) h35 a3 a4 a5 a6 a7 k2 j2 h65 m1 m2 (by omega) hkt ?_ ?_
          · intro hh
            exact pf34_S (by omega) (by decide) hfit (ap_40 (im_1 pk0 b3 h0n hle hce a1 (l1 ..) pk0' k1 (ob_E (K := 6) (by omega) (by have := eR_hp a3; omega)) hh))
          · intro F4 I4 hh
            rw [hR]
            exact imR_1 h29 hbd e27 e28 d2 hle (cells_R h65) a2 s2 h29' hbd e28' j1 hh
      · have hle : ¬ nI n ≤ 65535 := by rw [show (65535 : Int32) = nI 65535 from rfl, q_le_f (by omega) (by omega)]; exact id
        refine prG_op (N := N) (f_Q_pairs := f_Q_pairs) (f_H_spare := f_H_spare) (Q_size := Q_size) (H_fresh := H_fresh) (H_reachedFromGlobals := H_reachedFromGlobals) (H_reachedInAll := H_reachedInAll) (H_spareUsed := H_spareUsed) (H_limit := nI L) (H_every := H_every) (H_madeLimit := I 44) (H_keptGlobalsUsed := H_keptGlobalsUsed) (H_kept := H_kept) (M_status := M_status) (M_place := nI p) (M_depthLimit := I 45) (M_done := M_done) (g := 5) (q := 40) he hr hx h35 (by omega) (by omega) hkt ?_ ?_
        · exact pf34_G (by omega) (by omega) hfit (ap_40 (im_G pk0 b3 h0n hle))
        · rw [hR]
          exact imR_G h29 hbd e27 e28 d2 hle
    · exact absurd b1 (d1 n B)
  · have b3 : m_Strings_listLength N H_globalsUsed H_used H_spareUsed H_old H_oldLeadsToNew (nI L) H_every H_fresh H_made (I 44) H_reachedFromGlobals H_reachedInAll H_keptGlobalsUsed H_kept n_H_cells f_H_cells (wE G lE (gs (t - 1))) = some (-1) := b3
    rcases hM with ⟨n', B', d1, d2⟩ | ⟨d1, d2⟩
    · exact absurd d1 (b1 n' B')
    · refine opR_same (M_next := nI (p + 2)) (st := 4) (by omega) he hr hx (pf34_S (by omega) (by decide) hfit (ap_40 (im_F pk0 b3))) ?_
      rw [hR]
      rcases d2 with ⟨cc, tg, vl, f1, f2⟩ | ⟨cc, tg, vl, f2⟩
      · exact imR_F1 h29 hbd e27 e28 f2 f1
      · exact imR_F2 h29 hbd e27 e28 f2
end IM
