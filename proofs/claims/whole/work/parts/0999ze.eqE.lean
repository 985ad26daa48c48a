/-! EQUAL on the engine's side -/
section EQ
variable {N : Nat}
variable {nk : Nat → Nat} {nm : Nat} {nid : Nat} {G : Nat → GO} {lE : List Nat} {gg : Nat → AV} {t : Nat} {gs : Nat → AV} {fr : Nat} {gc : Nat → AV} {hn : Nat} {gb : Nat → Nat} {gf : Nat → Nat} {gr : Nat → Int32} {hF : Nat → Nat} {hH : Nat → Nat} {hP : Nat → Int32} {hD : Nat → Int32} {lR : List Nat} {P_size : Int32} {P_constants : Int32} {P_closed : Int32} {P_open : Int32} {O_size : Int32} {S_top : Int32} {S_frames : Int32} {S_handlers : Int32} {H_globalsUsed : Int32} {H_used : Int32} {H_spareUsed : Int32} {H_old : Int32} {H_oldLeadsToNew : Int32} {H_limit : Int32} {H_every : Int32} {H_fresh : Int32} {H_made : Int32} {H_madeLimit : Int32} {H_reachedFromGlobals : Int32} {H_reachedInAll : Int32} {H_keptGlobalsUsed : Int32} {H_kept : Int32} {B_names : Int32} {Q_size : Int32} {M_status : Int32} {M_place : Int32} {M_next : Int32} {M_fuel : Int32} {M_ticks : Int32} {M_depth : Int32} {M_depthLimit : Int32} {M_done : Int32} {n_P_words : Nat} {f_P_words : Nat → Int32} {n_P_bytes : Nat} {f_P_bytes : Nat → Int32} {n_P_ends : Nat} {f_P_ends : Nat → Int32} {n_O_bytes : Nat} {f_O_bytes : Nat → Int32} {n_S_values : Nat} {f_S_values : Nat → Int64} {n_S_bases : Nat} {f_S_bases : Nat → Int32} {n_S_floors : Nat} {f_S_floors : Nat → Int32} {n_S_returns : Nat} {f_S_returns : Nat → Int32} {n_S_closures : Nat} {f_S_closures : Nat → Int64} {n_S_handlerFrames : Nat} {f_S_handlerFrames : Nat → Int32} {n_S_handlerPlaces : Nat} {f_S_handlerPlaces : Nat → Int32} {n_S_handlerHeights : Nat} {f_S_handlerHeights : Nat → Int32} {n_S_handlerDepths : Nat} {f_S_handlerDepths : Nat → Int32} {n_H_globals : Nat} {f_H_globals : Nat → Int64} {n_H_cells : Nat} {f_H_cells : Nat → Int64} {n_H_spare : Nat} {f_H_spare : Nat → Int64} {n_Q_links : Nat} {f_Q_links : Nat → Int32} {n_Q_pairs : Nat} {f_Q_pairs : Nat → Int64} {I : Nat → Int32} {F : Nat → Nat → Int32}
variable {v w : AV} {ps : List (Nat × Nat)} {nl : List Nat} {lk : Nat → Option Nat} {ld d : Nat → Nat}
/-- the engine's links stand for lk -/
def lkW (G : Nat → GO) (l : List Nat) : Option Nat → Int32
  | none => nI 0
  | some p => nI (adr (gZ G) l p + 1)
def lkE (G : Nat → GO) (l : List Nat) (nL : Nat) (f : Nat → Int32) (lk : Nat → Option Nat) : Prop := (∀ o, o ∈ l → f (adr (gZ G) l o) = lkW G l (lk o)) ∧ (∀ a, a < nL → f a ≠ nI 0 → ∃ o, o ∈ l ∧ a = adr (gZ G) l o)
def inP (ps : List (Nat × Nat)) (x : Nat) : Prop := ∃ q, q ∈ ps ∧ (x = q.1 ∨ x = q.2)
/-- those that lead no more are few -/
theorem nl_few {l : List Nat} (h : eqI G l v w ps nl lk ld d) (ht : tot (gZ G) l ≤ 131072) {o : Nat} (ho : o ∈ l) (hlo : lk o = none) : tot (gZ G) nl + gZ G o ≤ tot (gZ G) l ∧ ps.length + 1 ≤ 131072 := by
  obtain ⟨a1, a2, a3, a4, a5, a6, a7, a8⟩ := h
  have hno : o ∉ nl := fun hm => (a7 o hm).2 hlo
  have h1 := tot_sub (Z := gZ G) (l := nl ++ [o]) (m := l) (nodup_snoc a6 hno) (fun x hx => by
    rcases mem_snoc.mp hx with hx | rfl
    · exact (a7 x hx).1
    · exact ho)
  rw [tot_append, tot_one] at h1
  have h2 := len_tot (G := G) (l := nl)
  have h3 := gZ_pos G o
  exact ⟨h1, by omega⟩
theorem d_few {l : List Nat} (h : eqI G l v w ps nl lk ld d) (ht : tot (gZ G) l ≤ 131072) {o : Nat} (ho : o ∈ l) : d o < 131072 := by
  have h1 := nl_few h ht (ld_l h _ o (Nat.le_refl _) ho) (uf_ld' h.1 o).1
  have := h.1.2.2 o
  omega
theorem lead1 {l : List Nat} {nL : Nat} (hadr : tot (gZ G) l ≤ nL) (hL : nL ≤ 131072) :
    ∀ (m o tn : Nat) (lk : Nat → Option Nat) (f : Nat → Int32), eqI G l v w ps nl lk ld d → lkE G l nL f lk → (∀ a b, lk a = some b → inP ps a ∧ inP ps b) → o ∈ l → d o < m → tn + d o < 131072 →
      ∃ (lk' : Nat → Option Nat) (f' : Nat → Int32) (tn' : Int32), (∀ (ζ : Type) (k : Int32 → Int32 → (Nat → Int32) → Option ζ), lm_Equality_leader_1 N nL k m (nI (adr (gZ G) l o)) (nI tn) f = k (nI (adr (gZ G) l (ld o))) tn' f') ∧ eqI G l v w ps nl lk' ld d ∧ lkE G l nL f' lk' ∧ (∀ a b, lk' a = some b → inP ps a ∧ inP ps b)
  | 0, o, tn, lk, f, _, _, _, _, h, _ => absurd h (Nat.not_lt_zero _)
  | m + 1, o, tn, lk, f, hI, hE6, hP6, ho, hm, ht => by
    have b1 := adr_end (Z := gZ G) ho
    have g1 := gZ_pos G o
    have e1 : ¬ (131072 : Int32) ≤ nI tn := by rw [show (131072 : Int32) = nI 131072 from rfl, q_le_f (by omega) (by omega)]; exact id
    have z1 : ¬ (nI (adr (gZ G) l o) < 0 ∨ nL ≤ (nI (adr (gZ G) l o)).toNatClampNeg) := bd_n (by omega) (by omega)
    have f1 := hE6.1 o ho
    cases hlo : lk o with
    | none =>
      rw [hlo] at f1
      have f1 : f (adr (gZ G) l o) = 0 := f1
      refine ⟨lk, f, nI tn, fun ζ k => ?_, hI, hE6, hP6⟩
      rw [lm_Equality_leader_1, if_neg e1, if_neg z1, q_cl (by omega), if_pos f1, (hI.1.1 o hlo).1]
    | some b =>
      rw [hlo] at f1
      have f1 : f (adr (gZ G) l o) = nI (adr (gZ G) l b + 1) := f1
      obtain ⟨_, hb⟩ := hI.2.1 o b hlo
      obtain ⟨hld, hd6⟩ := hI.1.2.1 o b hlo
      have b2 := adr_end (Z := gZ G) hb
      have g2 := gZ_pos G b
      have f0 : ¬ nI (adr (gZ G) l b + 1) = 0 := by rw [show (0 : Int32) = nI 0 from rfl, q_eq_f (by omega) (by omega) (by omega)]; exact id
      have fs : nI (adr (gZ G) l b + 1) - 1 = nI (adr (gZ G) l b) := by rw [show (1 : Int32) = nI 1 from rfl, q_sub (by omega), Nat.add_sub_cancel]
      have z2 : ¬ (nI (adr (gZ G) l b) < 0 ∨ nL ≤ (nI (adr (gZ G) l b)).toNatClampNeg) := bd_n (by omega) (by omega)
      have f2 := hE6.1 b hb
      cases hlb : lk b with
      | none =>
        rw [hlb] at f2
        have f2 : f (adr (gZ G) l b) = 0 := f2
        obtain ⟨lk', f', tn', d1, d2⟩ := lead1 hadr hL m b (tn + 1) lk f hI hE6 hP6 hb (by omega) (by omega)
        refine ⟨lk', f', tn', fun ζ k => ?_, d2⟩
        rw [lm_Equality_leader_1, if_neg e1, if_neg z1, q_cl (by omega), f1, if_neg f0, if_neg (fun h => z1 (by rw [q_cl (by omega)]; exact h))]
        unfold lm_Equality_leader_2
        rw [q_cl (by omega), f1, fs, if_neg z2, q_cl (by omega), if_pos f2, nI_1, hld]
        exact d1 ζ k
      | some c =>
        rw [hlb] at f2
        have f2 : f (adr (gZ G) l b) = nI (adr (gZ G) l c + 1) := f2
        obtain ⟨_, hc⟩ := hI.2.1 b c hlb
        have b3 := adr_end (Z := gZ G) hc
        have g3 := gZ_pos G c
        have f3 : ¬ f (adr (gZ G) l b) = 0 := by rw [f2, show (0 : Int32) = nI 0 from rfl, q_eq_f (by omega) (by omega) (by omega)]; exact id
        have hE2 : lkE G l nL (upd f (adr (gZ G) l o) (nI (adr (gZ G) l c + 1))) (upL lk o (some c)) := by
          refine ⟨fun x hx => ?_, fun a ha hne => ?_⟩
          · by_cases e : x = o
            · rw [upL_e e, e, upd_e rfl]
              rfl
            · rw [upL_n e, upd_n (fun h => e (adr_inj (gZ_pos G) hx ho h))]
              exact hE6.1 x hx
          · by_cases e : a = adr (gZ G) l o
            · exact ⟨o, ho, e⟩
            · rw [upd_n e] at hne
              exact hE6.2 a ha hne
        obtain ⟨lk', f', tn', d1, d2⟩ := lead1 hadr hL m b (tn + 1) (upL lk o (some c)) _ (eqI_half hI hlo hlb) hE2 (fun x y hx => by
          by_cases e : x = o
          · rw [upL_e e] at hx
            have hy : c = y := Option.some.inj hx
            subst hy
            rw [e]
            exact ⟨(hP6 o b hlo).1, (hP6 b c hlb).2⟩
          · rw [upL_n e] at hx
            exact hP6 x y hx) hb (by omega) (by omega)
        refine ⟨lk', f', tn', fun ζ k => ?_, d2⟩
        rw [lm_Equality_leader_1, if_neg e1, if_neg z1, q_cl (by omega), f1, if_neg f0, if_neg (fun h => z1 (by rw [q_cl (by omega)]; exact h))]
        unfold lm_Equality_leader_2
        rw [q_cl (by omega), f1, fs, if_neg z2, q_cl (by omega), if_neg f3, if_neg (fun h => z2 (by rw [q_cl (by omega)]; exact h)), if_neg (fun h => z1 (by rw [q_cl (by omega)]; exact h)), let_d, f2, nI_1, hld]
        exact d1 ζ k
theorem lead_E {l : List Nat} {nL o : Nat} {f : Nat → Int32} {Q_size : Int32} (hN : 400000 ≤ N) (hadr : tot (gZ G) l ≤ nL) (hL : nL ≤ 131072) (hI : eqI G l v w ps nl lk ld d) (hE6 : lkE G l nL f lk) (hP6 : ∀ a b, lk a = some b → inP ps a ∧ inP ps b) (ho : o ∈ l) :
    ∃ (lk' : Nat → Option Nat) (f' : Nat → Int32), m_Equality_leader N Q_size nL f (nI (adr (gZ G) l o)) = some (nI (adr (gZ G) l (ld o)), f') ∧ eqI G l v w ps nl lk' ld d ∧ lkE G l nL f' lk' ∧ (∀ a b, lk' a = some b → inP ps a ∧ inP ps b) := by
  have hd6 := d_few hI (by omega) ho
  obtain ⟨lk', f', tn', d1, d2⟩ := lead1 (N := N) hadr hL N o 0 lk f hI hE6 hP6 ho (by omega) (by omega)
  exact ⟨lk', f', d1 _ _, d2⟩
/-- a pair's word -/
def prW (a b : Nat) : Int64 := lN (a * 4294967296 + b)
theorem pr_mk {a b : Nat} (ha : a < 131072) (hb : b < 131072) : ((nI a).toInt64 <<< ((32 : Int32).toInt64 &&& 63)) ||| (nI b).toInt64 = prW a b := by
  rw [q_l (n := a) (by omega), q_l (n := b) (by omega), show (32 : Int32) = nI 32 from rfl, wb_shl a (by decide)]
  exact g_or (k := 32) (p := 2 ^ 32) rfl (by omega) (by omega)
theorem pr_a {a b : Nat} (ha : a < 131072) (hb : b < 131072) : (prW a b >>> ((32 : Int32).toInt64 &&& 63)).toInt32 = nI a := by
  unfold prW
  rw [pf_shr (d := 32) (by decide) (by omega), lN_i]
  congr 1
  omega
theorem pr_b {a b : Nat} (ha : a < 131072) (hb : b < 131072) : (prW a b).toInt32 = nI b := by
  unfold prW
  rw [lN_i]
  apply Int32.toBitVec_inj.mp
  apply BitVec.eq_of_toNat_eq
  rw [nI_tn, nI_tn]
  omega
/-- the engine's pairs -/
def prE (G : Nat → GO) (l : List Nat) (ps : List (Nat × Nat)) (nP : Nat) (fP : Nat → Int64) : Prop := ps.length ≤ nP ∧ 16 ≤ nP ∧ nP ≤ 131072 ∧ ∀ i q, ps[i]? = some q → fP i = prW (adr (gZ G) l q.1) (adr (gZ G) l q.2)
theorem addP_E {l : List Nat} {nP o p : Nat} {fP : Nat → Int64} (hp : prE G l ps nP fP) (hk : ps.length < 131072) (ho : adr (gZ G) l o < 131072) (hp2 : adr (gZ G) l p < 131072) : ∃ (nP' : Nat) (fP' : Nat → Int64) (cc ss : Nat), m_Equality_addPair N (nI ps.length) nP fP (nI (adr (gZ G) l o)) (nI (adr (gZ G) l p)) = some ((nI (ps.length + 1), nP', fP'), cc, ss) ∧ prE G l (ps ++ [(o, p)]) nP' fP' ∧ ss + 150 * cc + pot 131072 nP ≤ pot 131072 nP' := by
  obtain ⟨h1, h2, h3, h4⟩ := hp
  have key : ∀ (nP' : Nat) (fP' : Nat → Int64), ps.length < nP' → 16 ≤ nP' → nP' ≤ 131072 → (∀ i, i < ps.length → fP' i = fP i) → prE G l (ps ++ [(o, p)]) nP' (vp_updL fP' ps.length (prW (adr (gZ G) l o) (adr (gZ G) l p))) := by
    intro nP' fP' k1 k2 k3 k4
    refine ⟨by rw [List.length_append]; exact k1, k2, k3, fun i q hq => ?_⟩
    by_cases hi : i < ps.length
    · rw [List.getElem?_append_left hi] at hq
      rw [updL_n (by omega), k4 i hi]
      exact h4 i q hq
    · by_cases hi2 : i = ps.length
      · subst hi2
        rw [List.getElem?_append_right (Nat.le_refl _), Nat.sub_self] at hq
        have hq : (o, p) = q := Option.some.inj hq
        subst hq
        rw [updL_e rfl]
      · rw [List.getElem?_eq_none (by rw [List.length_append]; show ps.length + 1 ≤ i; omega)] at hq
        cases hq
  by_cases hlt : ps.length < nP
  · refine ⟨nP, _, 0, 0, ?_, key nP fP hlt h2 h3 (fun _ _ => rfl), by omega⟩
    unfold m_Equality_addPair lm_Equality_addPair_1
    rw [q_o, if_pos (show nI ps.length < nI nP by rw [q_lt_t (by omega) (by omega)]; exact True.intro)]
    dsimp only
    rw [if_neg (bd_n (by omega) (by omega)), let_d, q_cl (by omega), pr_mk ho hp2, nI_1]
  · have e : ps.length = nP := by omega
    have hl := longer_E (N := N) (n := nP) (need := ps.length + 1) (m := 131072) (by omega) (by omega) (by omega)
    have hM : nP < min 131072 (max (ps.length + 1) (2 * nP)) := by omega
    have hp := pot_new (n := nP) (m := 131072) (k := min 131072 (max (ps.length + 1) (2 * nP))) (by omega) (by omega)
    have hc := copyJ_E (N := N) (f := fP) hM (by omega)
    refine ⟨min 131072 (max (ps.length + 1) (2 * nP)), _, 1, min 131072 (max (ps.length + 1) (2 * nP)), ?_, key _ (va_cpy fP (fun _ => 0) 0 0 nP) (by omega) (by omega) (by omega) (fun i hi => cpy_lt (by omega)), by omega⟩
    unfold m_Equality_addPair lm_Equality_addPair_1
    rw [q_o, if_neg (show ¬ nI ps.length < nI nP by rw [q_lt_f (by omega) (by omega)]; exact id), nI_1, show m_Engine_longer N (nI nP) (nI (ps.length + 1)) 131072 = _ from hl, bind_s, hc, bind_s]
    dsimp only
    rw [if_neg (bd_n (by omega) (by omega)), let_d, q_cl (by omega), pr_mk ho hp2, tk_s, Nat.zero_add, Nat.zero_add]
theorem hdW_inj {K c c' : Nat} {n n' : Int32} (hK : K < 8) (hc : c < 134217728) (hc' : c' < 134217728) (h : hdW K n c = hdW K n' c') : n = n' ∧ c = c' := by
  have l1 := n.toBitVec.isLt
  have l2 := n'.toBitVec.isLt
  unfold hdW at h
  have e := lN_inj (by omega) (by omega) h
  refine ⟨?_, by omega⟩
  apply Int32.toBitVec_inj.mp
  apply BitVec.eq_of_toNat_eq
  omega
theorem hE_hd {l : List Nat} {o p : Nat} (hG : wf nk nm nid G l) (hnn : nm < 134217728) (ho : o ∈ l) (hp : p ∈ l) (hk : gK G o = gK G p) (hK : gK G o = 2 ∨ gK G o = 3 ∨ gK G o = 6) : hE G o = hE G p ↔ hd2 G o p := by
  have O1 := (hG.2 o ho).2.1
  have O2 := (hG.2 p hp).2.1
  have hb : ∀ x, okO nk nm G x → gC G x < 134217728 := by
    intro x hx
    unfold okO at hx
    omega
  have c1 := hb o O1
  have c2 := hb p O2
  constructor
  · intro h
    unfold hE at h
    by_cases h6 : gK G o = 6
    · rw [if_pos h6, if_pos (by omega)] at h
      have := lN_inj (by omega) (by omega) h
      exact ⟨hk, by omega, fun h => absurd h6 h, hK⟩
    · rw [if_neg h6, if_neg (by omega), hk] at h
      obtain ⟨e1, e2⟩ := hdW_inj (by omega) c1 c2 h
      exact ⟨hk, e2, fun _ => e1, hK⟩
  · intro h
    unfold hE
    by_cases h6 : gK G o = 6
    · rw [if_pos h6, if_pos (by omega), h.2.1]
    · rw [if_neg h6, if_neg (by omega), hk, h.2.1, h.2.2.1 h6]
abbrev eqC (G : Nat → GO) (l : List Nat) (v w : AV) (nL nP : Nat) (f : Nat → Int32) (fP : Nat → Int64) (ps : List (Nat × Nat)) (ld : Nat → Nat) : Prop := ∃ (nl : List Nat) (lk : Nat → Option Nat) (d : Nat → Nat), eqI G l v w ps nl lk ld d ∧ lkE G l nL f lk ∧ (∀ a b, lk a = some b → inP ps a ∧ inP ps b) ∧ prE G l ps nP fP
theorem jn_same {Q_size : Int32} {p0 p1 : Int64} (h : lg_cmp p0 p1 = 0) : m_Equality_join N H_globalsUsed H_used H_spareUsed H_old H_oldLeadsToNew H_limit H_every H_fresh H_made H_madeLimit H_reachedFromGlobals H_reachedInAll H_keptGlobalsUsed H_kept Q_size n_H_cells f_H_cells n_Q_links f_Q_links n_Q_pairs f_Q_pairs p0 p1 = some ((1, f_Q_links, Q_size, n_Q_pairs, f_Q_pairs), 0, 0) := by
  unfold m_Equality_join
  rw [if_pos h]
theorem jn_kd {Q_size : Int32} {p0 p1 : Int64} {k0 k1 : Int32} (h : ¬ lg_cmp p0 p1 = 0) (h0 : m_Value_kind N p0 = some k0) (h1 : m_Value_kind N p1 = some k1) (hk : ¬ k0 = k1) : m_Equality_join N H_globalsUsed H_used H_spareUsed H_old H_oldLeadsToNew H_limit H_every H_fresh H_made H_madeLimit H_reachedFromGlobals H_reachedInAll H_keptGlobalsUsed H_kept Q_size n_H_cells f_H_cells n_Q_links f_Q_links n_Q_pairs f_Q_pairs p0 p1 = some ((0, f_Q_links, Q_size, n_Q_pairs, f_Q_pairs), 0, 0) := by
  unfold m_Equality_join
  rw [if_neg h, h0, bind_s, h1, bind_s, if_neg hk]
theorem jn_kb {Q_size : Int32} {p0 p1 : Int64} {k0 : Int32} (h : ¬ lg_cmp p0 p1 = 0) (h0 : m_Value_kind N p0 = some k0) (h1 : m_Value_kind N p1 = some k0) (hk2 : ¬ k0 = 2) (hk3 : ¬ k0 = 3) (hk6 : ¬ k0 = 6) : m_Equality_join N H_globalsUsed H_used H_spareUsed H_old H_oldLeadsToNew H_limit H_every H_fresh H_made H_madeLimit H_reachedFromGlobals H_reachedInAll H_keptGlobalsUsed H_kept Q_size n_H_cells f_H_cells n_Q_links f_Q_links n_Q_pairs f_Q_pairs p0 p1 = some ((0, f_Q_links, Q_size, n_Q_pairs, f_Q_pairs), 0, 0) := by
  unfold m_Equality_join
  rw [if_neg h, h0, bind_s, h1, bind_s, if_pos rfl, if_neg hk2, if_neg hk3, if_neg hk6]
theorem jn_hd {Q_size : Int32} {p0 p1 : Int64} {k0 a b : Int32} (h : ¬ lg_cmp p0 p1 = 0) (h0 : m_Value_kind N p0 = some k0) (h1 : m_Value_kind N p1 = some k0) (hk : k0 = 2 ∨ k0 = 3 ∨ k0 = 6) (ha : m_Value_number N p0 = some a) (hb : m_Value_number N p1 = some b) (za : ¬ (a < 0 ∨ n_H_cells ≤ a.toNatClampNeg)) (zb : ¬ (b < 0 ∨ n_H_cells ≤ b.toNatClampNeg)) (hh : ¬ lg_cmp (f_H_cells a.toNatClampNeg) (f_H_cells b.toNatClampNeg) = 0) : m_Equality_join N H_globalsUsed H_used H_spareUsed H_old H_oldLeadsToNew H_limit H_every H_fresh H_made H_madeLimit H_reachedFromGlobals H_reachedInAll H_keptGlobalsUsed H_kept Q_size n_H_cells f_H_cells n_Q_links f_Q_links n_Q_pairs f_Q_pairs p0 p1 = some ((0, f_Q_links, Q_size, n_Q_pairs, f_Q_pairs), 0, 0) := by
  unfold m_Equality_join
  rw [if_neg h, h0, bind_s, h1, bind_s, if_pos rfl]
  rcases hk with rfl | rfl | rfl
  · rw [if_pos rfl, ha, bind_s, hb, bind_s, if_neg za, if_neg zb, if_neg hh]
  · rw [if_neg (by decide), if_pos rfl, ha, bind_s, hb, bind_s, if_neg za, if_neg zb, if_neg hh]
  · rw [if_neg (by decide), if_neg (by decide), if_pos rfl, ha, bind_s, hb, bind_s, if_neg za, if_neg zb, if_neg hh]
theorem jn_l {Q_size : Int32} {p0 p1 : Int64} {k0 a b x : Int32} {f1 f2 : Nat → Int32} (h : ¬ lg_cmp p0 p1 = 0) (h0 : m_Value_kind N p0 = some k0) (h1 : m_Value_kind N p1 = some k0) (hk : k0 = 2 ∨ k0 = 3 ∨ k0 = 6) (ha : m_Value_number N p0 = some a) (hb : m_Value_number N p1 = some b) (za : ¬ (a < 0 ∨ n_H_cells ≤ a.toNatClampNeg)) (zb : ¬ (b < 0 ∨ n_H_cells ≤ b.toNatClampNeg)) (hh : lg_cmp (f_H_cells a.toNatClampNeg) (f_H_cells b.toNatClampNeg) = 0) (la : m_Equality_leader N Q_size n_Q_links f_Q_links a = some (x, f1)) (lb : m_Equality_leader N Q_size n_Q_links f1 b = some (x, f2)) : m_Equality_join N H_globalsUsed H_used H_spareUsed H_old H_oldLeadsToNew H_limit H_every H_fresh H_made H_madeLimit H_reachedFromGlobals H_reachedInAll H_keptGlobalsUsed H_kept Q_size n_H_cells f_H_cells n_Q_links f_Q_links n_Q_pairs f_Q_pairs p0 p1 = some ((1, f2, Q_size, n_Q_pairs, f_Q_pairs), 0, 0) := by
  unfold m_Equality_join
  rw [if_neg h, h0, bind_s, h1, bind_s, if_pos rfl]
  rcases hk with rfl | rfl | rfl
  · rw [if_pos rfl, ha, bind_s, hb, bind_s, if_neg za, if_neg zb, if_pos hh, la, bind_s]
    dsimp only
    rw [lb, bind_s]
    dsimp only
    rw [if_pos rfl]
  · rw [if_neg (by decide), if_pos rfl, ha, bind_s, hb, bind_s, if_neg za, if_neg zb, if_pos hh, la, bind_s]
    dsimp only
    rw [lb, bind_s]
    dsimp only
    rw [if_pos rfl]
  · rw [if_neg (by decide), if_neg (by decide), if_pos rfl, ha, bind_s, hb, bind_s, if_neg za, if_neg zb, if_pos hh, la, bind_s]
    dsimp only
    rw [lb, bind_s]
    dsimp only
    rw [if_pos rfl]
theorem jn_u {Q_size : Int32} {p0 p1 : Int64} {k0 a b x y s1 : Int32} {f1 f2 : Nat → Int32} {nP' cc ss : Nat} {fP' : Nat → Int64} (h : ¬ lg_cmp p0 p1 = 0) (h0 : m_Value_kind N p0 = some k0) (h1 : m_Value_kind N p1 = some k0) (hk : k0 = 2 ∨ k0 = 3 ∨ k0 = 6) (ha : m_Value_number N p0 = some a) (hb : m_Value_number N p1 = some b) (za : ¬ (a < 0 ∨ n_H_cells ≤ a.toNatClampNeg)) (zb : ¬ (b < 0 ∨ n_H_cells ≤ b.toNatClampNeg)) (hh : lg_cmp (f_H_cells a.toNatClampNeg) (f_H_cells b.toNatClampNeg) = 0) (la : m_Equality_leader N Q_size n_Q_links f_Q_links a = some (x, f1)) (lb : m_Equality_leader N Q_size n_Q_links f1 b = some (y, f2)) (hxy : ¬ x = y) (zx : ¬ (x < 0 ∨ n_Q_links ≤ x.toNatClampNeg)) (hp : m_Equality_addPair N Q_size n_Q_pairs f_Q_pairs a b = some ((s1, nP', fP'), cc, ss)) {f3 : Nat → Int32} (e3 : upd f2 x.toNatClampNeg (y + 1) = f3) : m_Equality_join N H_globalsUsed H_used H_spareUsed H_old H_oldLeadsToNew H_limit H_every H_fresh H_made H_madeLimit H_reachedFromGlobals H_reachedInAll H_keptGlobalsUsed H_kept Q_size n_H_cells f_H_cells n_Q_links f_Q_links n_Q_pairs f_Q_pairs p0 p1 = some ((1, f3, s1, nP', fP'), cc, ss) := by
  subst e3
  unfold m_Equality_join
  rw [if_neg h, h0, bind_s, h1, bind_s, if_pos rfl]
  rcases hk with rfl | rfl | rfl
  · rw [if_pos rfl, ha, bind_s, hb, bind_s, if_neg za, if_neg zb, if_pos hh, la, bind_s]
    dsimp only
    rw [lb, bind_s]
    dsimp only
    rw [if_neg hxy, if_neg zx, hp, bind_s]
    dsimp only
    rw [tk_s, Nat.zero_add, Nat.zero_add]
  · rw [if_neg (by decide), if_pos rfl, ha, bind_s, hb, bind_s, if_neg za, if_neg zb, if_pos hh, la, bind_s]
    dsimp only
    rw [lb, bind_s]
    dsimp only
    rw [if_neg hxy, if_neg zx, hp, bind_s]
    dsimp only
    rw [tk_s, Nat.zero_add, Nat.zero_add]
  · rw [if_neg (by decide), if_neg (by decide), if_pos rfl, ha, bind_s, hb, bind_s, if_neg za, if_neg zb, if_pos hh, la, bind_s]
    dsimp only
    rw [lb, bind_s]
    dsimp only
    rw [if_neg hxy, if_neg zx, hp, bind_s]
    dsimp only
    rw [tk_s, Nat.zero_add, Nat.zero_add]
theorem join_E {x y : AV} {nL nP : Nat} {f : Nat → Int32} {fP : Nat → Int64} (hN : 400000 ≤ N) (he : eR nk nm nid G lE gg t gs fr gc hn gb gf gr hF hH hP hD S_top S_frames S_handlers n_S_values f_S_values n_S_bases f_S_bases n_S_floors f_S_floors n_S_returns f_S_returns n_S_closures f_S_closures n_S_handlerFrames f_S_handlerFrames n_S_handlerPlaces f_S_handlerPlaces n_S_handlerHeights f_S_handlerHeights n_S_handlerDepths f_S_handlerDepths H_globalsUsed H_used H_old H_oldLeadsToNew f_H_globals n_H_cells f_H_cells n_H_spare) (hadr : n_H_cells ≤ nL) (hL : nL ≤ 131072) (hC : eqC G lE v w nL nP f fP ps ld) (hx : okV nk nm lE x) (hy : okV nk nm lE y) (hs : sEq G v w → sEq G x y) :
    ∃ (r : Nat) (ps' : List (Nat × Nat)) (ld' : Nat → Nat) (f' : Nat → Int32) (nP' : Nat) (fP' : Nat → Int64) (cc ss : Nat), m_Equality_join N H_globalsUsed H_used H_spareUsed H_old H_oldLeadsToNew H_limit H_every H_fresh H_made H_madeLimit H_reachedFromGlobals H_reachedInAll H_keptGlobalsUsed H_kept (nI ps.length) n_H_cells f_H_cells nL f nP fP (wE G lE x) (wE G lE y) = some ((nI r, f', nI ps'.length, nP', fP'), cc, ss) ∧ eqC G lE v w nL nP' f' fP' ps' ld' ∧ (∃ m, ps' = ps ++ m) ∧ (∀ a b, ld a = ld b → ld' a = ld' b) ∧ ss + 150 * cc + pot 131072 nP ≤ pot 131072 nP' ∧ (r = 1 ∧ rel ld' x y ∨ r = 0 ∧ ¬ sEq G v w) := by
  obtain ⟨hG, hT, hCl, hH', hnn⟩ := eR_hp he
  by_cases hxy : x = y
  · exact ⟨1, ps, ld, f, nP, fP, 0, 0, jn_same ((lg_cmp_eq _ _).mpr (by rw [hxy])), hC, ⟨[], (List.append_nil _).symm⟩, fun _ _ h => h, by omega, Or.inl ⟨rfl, Or.inl hxy⟩⟩
  · have hne : ¬ lg_cmp (wE G lE x) (wE G lE y) = 0 := fun h => hxy (wE_inj hG hx hy hnn (by omega) ((lg_cmp_eq _ _).mp h))
    have kx := kd_E (N := N) hG hx
    have ky := kd_E (N := N) hG hy
    have kx8 := kV_8 hG hx
    have ky8 := kV_8 hG hy
    by_cases hk : kV G x = kV G y
    · rw [← hk] at ky
      by_cases hK : kV G x = 2 ∨ kV G x = 3 ∨ kV G x = 6
      · obtain ⟨o, rfl, ho⟩ := kV_obj (G := G) (v := x) (by omega)
        obtain ⟨p, rfl, hp⟩ := kV_obj (G := G) (v := y) (by omega)
        have mo : o ∈ lE := hx
        have mp : p ∈ lE := hy
        have hop : gK G o = gK G p := hk
        have hKo : gK G o = 2 ∨ gK G o = 3 ∨ gK G o = 6 := hK
        have hK' : nI (kV G (vO o)) = 2 ∨ nI (kV G (vO o)) = 3 ∨ nI (kV G (vO o)) = 6 := by
          rcases hK with h | h | h
          · exact Or.inl (by rw [h]; rfl)
          · exact Or.inr (Or.inl (by rw [h]; rfl))
          · exact Or.inr (Or.inr (by rw [h]; rfl))
        have hnop : o ≠ p := fun e => hxy (by rw [e])
        have nu1 : m_Value_number N (wE G lE (vO o)) = some (nI (adr (gZ G) lE o)) := nu_E (v := vO o) hG mo hnn (by omega)
        have nu2 : m_Value_number N (wE G lE (vO p)) = some (nI (adr (gZ G) lE p)) := nu_E (v := vO p) hG mp hnn (by omega)
        have b1 := adr_end (Z := gZ G) mo
        have b2 := adr_end (Z := gZ G) mp
        have g1 := gZ_pos G o
        have g2 := gZ_pos G p
        have z1 : ¬ (nI (adr (gZ G) lE o) < 0 ∨ n_H_cells ≤ (nI (adr (gZ G) lE o)).toNatClampNeg) := bd_n (by omega) (by omega)
        have z2 : ¬ (nI (adr (gZ G) lE p) < 0 ∨ n_H_cells ≤ (nI (adr (gZ G) lE p)).toNatClampNeg) := bd_n (by omega) (by omega)
        have c1 : f_H_cells (nI (adr (gZ G) lE o)).toNatClampNeg = hE G o := by rw [q_cl (by omega)]; exact (hH' o mo).1
        have c2 : f_H_cells (nI (adr (gZ G) lE p)).toNatClampNeg = hE G p := by rw [q_cl (by omega)]; exact (hH' p mp).1
        have hhd := hE_hd hG hnn mo mp hop hKo
        by_cases hh : hd2 G o p
        · have hh0 : lg_cmp (f_H_cells (nI (adr (gZ G) lE o)).toNatClampNeg) (f_H_cells (nI (adr (gZ G) lE p)).toNatClampNeg) = 0 := by rw [c1, c2]; exact (lg_cmp_eq _ _).mpr (hhd.mpr hh)
          obtain ⟨nl, lk, d, i1, i2, i3, i4⟩ := hC
          obtain ⟨lk1, f1, l1, j1, j2, j3⟩ := lead_E (N := N) (Q_size := nI ps.length) hN (by omega) hL i1 i2 i3 mo
          obtain ⟨lk2, f2, l2, k1, k2, k3⟩ := lead_E (N := N) (Q_size := nI ps.length) hN (by omega) hL j1 j2 j3 mp
          have mo' := ld_l k1 _ o (Nat.le_refl _) mo
          have mp' := ld_l k1 _ p (Nat.le_refl _) mp
          have b3 := adr_end (Z := gZ G) mo'
          have b4 := adr_end (Z := gZ G) mp'
          have g3 := gZ_pos G (ld o)
          have g4 := gZ_pos G (ld p)
          by_cases hld : ld o = ld p
          · rw [hld] at l1
            exact ⟨1, ps, ld, f2, nP, fP, 0, 0, jn_l hne kx ky hK' nu1 nu2 z1 z2 hh0 l1 l2, ⟨nl, lk2, d, k1, k2, k3, i4⟩, ⟨[], (List.append_nil _).symm⟩, fun _ _ h => h, by omega, Or.inl ⟨rfl, Or.inr ⟨o, p, rfl, rfl, hld⟩⟩⟩
          · have few := nl_few k1 (by omega) mo' (uf_ld' k1.1 o).1
            obtain ⟨nP', fP', cc, ss, q1, q2, q3⟩ := addP_E (N := N) (o := o) (p := p) i4 (by omega) (by omega) (by omega)
            have hxy2 : ¬ nI (adr (gZ G) lE (ld o)) = nI (adr (gZ G) lE (ld p)) := fun h => hld (adr_inj (Z := gZ G) (gZ_pos G) mo' mp' ((nI_eq (by omega) (by omega)).mp h))
            refine ⟨1, ps ++ [(o, p)], ldU ld (ld o) (ld p), upd f2 (adr (gZ G) lE (ld o)) (nI (adr (gZ G) lE (ld p) + 1)), nP', fP', cc, ss, ?_, ⟨nl ++ [ld o], upL lk2 (ld o) (some (ld p)), _, eqI_u k1 mo mp hld hh hs, ⟨fun a ha => ?_, fun a ha hn => ?_⟩, fun a b hab => ?_, q2⟩, ⟨_, rfl⟩, fun a b h => ldU_m h, q3, Or.inl ⟨rfl, Or.inr ⟨o, p, rfl, rfl, ?_⟩⟩⟩
            · rw [List.length_append]
              exact jn_u hne kx ky hK' nu1 nu2 z1 z2 hh0 l1 l2 hxy2 (bd_n (by omega) (by omega)) q1 (by rw [q_cl (by omega), nI_1])
            · by_cases e : a = ld o
              · rw [e, upL_e rfl, upd_e rfl]
                rfl
              · rw [upL_n e, upd_n (fun h => e (adr_inj (Z := gZ G) (gZ_pos G) ha mo' h))]
                exact k2.1 a ha
            · by_cases e : a = adr (gZ G) lE (ld o)
              · exact ⟨_, mo', e⟩
              · rw [upd_n e] at hn
                exact k2.2 a ha hn
            · have mono : ∀ z, inP ps z → inP (ps ++ [(o, p)]) z := fun z ⟨q, hq, hz⟩ => ⟨q, List.mem_append_left _ hq, hz⟩
              have last : ∀ z, z = o ∨ z = p → inP (ps ++ [(o, p)]) z := fun z hz => ⟨(o, p), List.mem_append_right _ (List.mem_singleton.mpr rfl), hz⟩
              have ldin : ∀ z, (z = o ∨ z = p) → inP (ps ++ [(o, p)]) (ld z) := by
                intro z hz
                have : ∀ (n z : Nat), d z ≤ n → (inP (ps ++ [(o, p)]) z) → inP (ps ++ [(o, p)]) (ld z) := by
                  intro n
                  induction n with
                  | zero =>
                    intro z hz hi
                    cases e : lk2 z with
                    | none => rw [(k1.1.1 z e).1]; exact hi
                    | some b => have := k1.1.2.1 z b e; omega
                  | succ n ih =>
                    intro z hz hi
                    cases e : lk2 z with
                    | none => rw [(k1.1.1 z e).1]; exact hi
                    | some b =>
                      have hb := k1.1.2.1 z b e
                      rw [hb.1]
                      exact ih b (by omega) (mono b (k3 z b e).2)
                exact this _ z (Nat.le_refl _) (last z hz)
              by_cases e : a = ld o
              · rw [upL_e e] at hab
                have hb : ld p = b := Option.some.inj hab
                subst hb
                rw [e]
                exact ⟨ldin o (Or.inl rfl), ldin p (Or.inr rfl)⟩
              · rw [upL_n e] at hab
                exact ⟨mono a (k3 a b hab).1, mono b (k3 a b hab).2⟩
            · unfold ldU
              rw [if_pos rfl, if_neg (Ne.symm hld)]
        · refine ⟨0, ps, ld, f, nP, fP, 0, 0, jn_hd hne kx ky hK' nu1 nu2 z1 z2 (by rw [c1, c2]; exact fun h => hh (hhd.mp ((lg_cmp_eq _ _).mp h))), hC, ⟨[], (List.append_nil _).symm⟩, fun _ _ h => h, by omega, Or.inr ⟨rfl, fun h => hh (sEq_hd (hs h) hnop).1⟩⟩
      · have hK2 : ∀ c : Nat, c < 8 → kV G x ≠ c → ¬ nI (kV G x) = nI c := fun c hc h => by rw [q_eq_f h (by omega) (by omega)]; exact id
        refine ⟨0, ps, ld, f, nP, fP, 0, 0, jn_kb hne kx ky (hK2 2 (by omega) (by omega)) (hK2 3 (by omega) (by omega)) (hK2 6 (by omega) (by omega)), hC, ⟨[], (List.append_nil _).symm⟩, fun _ _ h => h, by omega, Or.inr ⟨rfl, fun h => ?_⟩⟩
        obtain ⟨o, p, rfl, rfl, hop⟩ := sEq_ob (hs h) hxy
        exact hK (sEq_hd (hs h) hop).1.2.2.2
    · refine ⟨0, ps, ld, f, nP, fP, 0, 0, jn_kd hne kx ky (by rw [q_eq_f hk (by omega) (by omega)]; exact id), hC, ⟨[], (List.append_nil _).symm⟩, fun _ _ h => h, by omega, Or.inr ⟨rfl, fun h => ?_⟩⟩
      obtain ⟨o, p, rfl, rfl, hop⟩ := sEq_ob (hs h) hxy
      exact hk (sEq_hd (hs h) hop).1.1
end EQ
