/-! EQUAL on the reference's side -/
section ER
variable {N : Nat}
variable {nk : Nat → Nat} {nm : Nat} {nid : Nat} {G : Nat → GO} {lE : List Nat} {gg : Nat → AV} {t : Nat} {gs : Nat → AV} {fr : Nat} {gc : Nat → AV} {hn : Nat} {gb : Nat → Nat} {gf : Nat → Nat} {gr : Nat → Int32} {hF : Nat → Nat} {hH : Nat → Nat} {hP : Nat → Int32} {hD : Nat → Int32} {lR : List Nat} {P_size : Int32} {P_constants : Int32} {P_closed : Int32} {P_open : Int32} {O_size : Int32} {S_top : Int32} {S_frames : Int32} {S_handlers : Int32} {H_globalsUsed : Int32} {H_used : Int32} {H_spareUsed : Int32} {H_old : Int32} {H_oldLeadsToNew : Int32} {H_limit : Int32} {H_every : Int32} {H_fresh : Int32} {H_made : Int32} {H_madeLimit : Int32} {H_reachedFromGlobals : Int32} {H_reachedInAll : Int32} {H_keptGlobalsUsed : Int32} {H_kept : Int32} {B_names : Int32} {Q_size : Int32} {M_status : Int32} {M_place : Int32} {M_next : Int32} {M_fuel : Int32} {M_ticks : Int32} {M_depth : Int32} {M_depthLimit : Int32} {M_done : Int32} {n_P_words : Nat} {f_P_words : Nat → Int32} {n_P_bytes : Nat} {f_P_bytes : Nat → Int32} {n_P_ends : Nat} {f_P_ends : Nat → Int32} {n_O_bytes : Nat} {f_O_bytes : Nat → Int32} {n_S_values : Nat} {f_S_values : Nat → Int64} {n_S_bases : Nat} {f_S_bases : Nat → Int32} {n_S_floors : Nat} {f_S_floors : Nat → Int32} {n_S_returns : Nat} {f_S_returns : Nat → Int32} {n_S_closures : Nat} {f_S_closures : Nat → Int64} {n_S_handlerFrames : Nat} {f_S_handlerFrames : Nat → Int32} {n_S_handlerPlaces : Nat} {f_S_handlerPlaces : Nat → Int32} {n_S_handlerHeights : Nat} {f_S_handlerHeights : Nat → Int32} {n_S_handlerDepths : Nat} {f_S_handlerDepths : Nat → Int32} {n_H_globals : Nat} {f_H_globals : Nat → Int64} {n_H_cells : Nat} {f_H_cells : Nat → Int64} {n_H_spare : Nat} {f_H_spare : Nat → Int64} {n_Q_links : Nat} {f_Q_links : Nat → Int32} {n_Q_pairs : Nat} {f_Q_pairs : Nat → Int64} {I : Nat → Int32} {F : Nat → Nat → Int32}
variable {v w : AV} {ps : List (Nat × Nat)} {nl : List Nat} {st : List (Nat × Nat × Nat × Nat)} {ld : Nat → Nat} {J : Nat → Int32} {C : Nat → Nat → Int32}
def lkV (G : Nat → GO) (l : List Nat) : Option Nat → Int32
  | none => mI1
  | some p => nI (adr (gZ G) l p)
def lkR (G : Nat → GO) (l : List Nat) (f : Nat → Int32) (lk : Nat → Option Nat) : Prop := (∀ o, o ∈ l → f (adr (gZ G) l o) = lkV G l (lk o)) ∧ (∀ a, a < 131072 → f a ≠ mI1 → ∃ o, o ∈ l ∧ a = adr (gZ G) l o)
def nlR (G : Nat → GO) (l : List Nat) (I : Nat → Int32) (F : Nat → Nat → Int32) (nl : List Nat) : Prop := I 49 = nI nl.length ∧ ∀ j a, nl[j]? = some a → F 48 j = nI (adr (gZ G) l a)
def stkR (G : Nat → GO) (l : List Nat) (I : Nat → Int32) (F : Nat → Nat → Int32) (st : List (Nat × Nat × Nat × Nat)) : Prop := I 47 = nI (3 * st.length) ∧ ∀ j e, st[j]? = some e → F 46 (3 * j) = nI (adr (gZ G) l e.1) ∧ F 46 (3 * j + 1) = nI (adr (gZ G) l e.2.1) ∧ F 46 (3 * j + 2) = nI e.2.2.1
def entR (G : Nat → GO) (ps : List (Nat × Nat)) (nl : List Nat) (e : Nat × Nat × Nat × Nat) : Prop := (e.1, e.2.1) ∈ ps ∧ 1 ≤ e.2.2.1 ∧ e.2.2.1 ≤ gNp G e.1 ∧ e.2.2.2 ∈ nl ∧ gZ G e.2.2.2 = gZ G e.1
def SR (G : Nat → GO) (l : List Nat) (v w : AV) (I : Nat → Int32) (F : Nat → Nat → Int32) (ps : List (Nat × Nat)) (nl : List Nat) (st : List (Nat × Nat × Nat × Nat)) (ld : Nat → Nat) : Prop :=
  ∃ (lk : Nat → Option Nat) (d : Nat → Nat), eqI G l v w ps nl lk ld d ∧ lkR G l (F 2) lk ∧ (∀ o, lk o ≠ none → o ∈ nl) ∧ (∀ q, q ∈ ps → gK G q.1 ≠ 6) ∧ (∀ a, a ∈ nl → 2 ≤ gZ G a) ∧ nlR G l I F nl ∧ stkR G l I F st ∧ (∀ e, e ∈ st → entR G ps nl e) ∧ (st.map (fun e => e.2.2.2)).Nodup
def frQ (I : Nat → Int32) (F : Nat → Nat → Int32) (J : Nat → Int32) (C : Nat → Nat → Int32) : Prop := (∀ j, j ≠ 47 → j ≠ 49 → J j = I j) ∧ (∀ j, j ≠ 2 → j ≠ 46 → j ≠ 48 → C j = F j)
theorem byte_c {a k : Int32} (h : C 1 = F 1) : m_Model_byteAt N J C a k = m_Model_byteAt N I F a k := by
  unfold m_Model_byteAt
  rw [h]
theorem comp2_c {ζ : Type} {a b y : Int32} {k1 k2 : Int32 → Option ζ} (h : C 1 = F 1) : ∀ (m : Nat) (i : Int32), lm_Model_compare_2 N J C a b y k1 k2 m i = lm_Model_compare_2 N I F a b y k1 k2 m i
  | 0, _ => rfl
  | m + 1, i => by
    rw [lm_Model_compare_2, lm_Model_compare_2, byte_c (I := I) h, byte_c (I := I) h]
    congr 1
    cases m_Model_byteAt N I F a i with
    | none => rfl
    | some x =>
      cases m_Model_byteAt N I F b i with
      | none => rfl
      | some y' =>
        rw [bind_s, bind_s, bind_s, bind_s, comp2_c h m]
theorem comp_c {a b : Int32} (h : C 1 = F 1) : m_Model_compare N J C a b = m_Model_compare N I F a b := by
  unfold m_Model_compare lm_Model_compare_1
  rw [h]
  simp only [comp2_c (I := I) (J := J) h, byte_c (I := I) (J := J) h]
theorem leadR {l : List Nat} {lk : Nat → Option Nat} {d : Nat → Nat} (hI : eqI G l v w ps nl lk ld d) (hk : lkR G l (C 2) lk) (ht : tot (gZ G) l ≤ 131072) : ∀ (m o : Nat), o ∈ l → d o < m → ∀ (ζ : Type) (k : Int32 → Option ζ), lm_Model_leader_1 N C k m (nI (adr (gZ G) l o)) = k (nI (adr (gZ G) l (ld o)))
  | 0, o, _, h => absurd h (Nat.not_lt_zero _)
  | m + 1, o, ho, hm => by
    intro ζ k
    have b1 := adr_end (Z := gZ G) ho
    have g1 := gZ_pos G o
    have f1 := hk.1 o ho
    rw [lm_Model_leader_1, if_neg (bd_n (by omega) (by omega)), q_cl (by omega)]
    cases hlo : lk o with
    | none =>
      rw [hlo] at f1
      have f1 : C 2 (adr (gZ G) l o) = mI1 := f1
      rw [f1, if_pos (by decide), (hI.1.1 o hlo).1]
    | some b =>
      rw [hlo] at f1
      have f1 : C 2 (adr (gZ G) l o) = nI (adr (gZ G) l b) := f1
      obtain ⟨_, hb⟩ := hI.2.1 o b hlo
      obtain ⟨hld, hd6⟩ := hI.1.2.1 o b hlo
      have b2 := adr_end (Z := gZ G) hb
      have g2 := gZ_pos G b
      rw [f1, if_neg (nI_pos (by omega)), if_neg (bd_n' (by omega)), hld]
      exact leadR hI hk ht m b hb (by omega) ζ k
theorem lead_R {l : List Nat} {lk : Nat → Option Nat} {d : Nat → Nat} {o : Nat} (hN : 400000 ≤ N) (hI : eqI G l v w ps nl lk ld d) (hk : lkR G l (C 2) lk) (ht : tot (gZ G) l ≤ 131072) (ho : o ∈ l) : m_Model_leader N J C (nI (adr (gZ G) l o)) = some (nI (adr (gZ G) l (ld o))) := by
  have := d_few hI ht ho
  exact leadR hI hk ht N o ho (by omega) _ _
theorem later_R {s : Nat} {a b c : Int32} (h47 : J 47 = nI (3 * s)) (hs : 3 * s + 2 < 132000) : ∃ C', m_Model_compareLater N J C a b c = some (C', upd J 47 (nI (3 * (s + 1)))) ∧ (∀ j, j ≠ 46 → C' j = C j) ∧ C' 46 (3 * s) = a ∧ C' 46 (3 * s + 1) = b ∧ C' 46 (3 * s + 2) = c ∧ ∀ j, j < 3 * s → C' 46 j = C 46 j := by
  refine ⟨updF (updF (updF C 46 (upd (C 46) (3 * s) a)) 46 (upd (updF C 46 (upd (C 46) (3 * s) a) 46) (3 * s + 1) b)) 46 (upd (updF (updF C 46 (upd (C 46) (3 * s) a)) 46 (upd (updF C 46 (upd (C 46) (3 * s) a) 46) (3 * s + 1) b) 46) (3 * s + 2) c), ?_, fun j hj => ?_, ?_, ?_, ?_, fun j hj => ?_⟩
  · unfold m_Model_compareLater
    rw [h47, show nI (3 * s) + 1 = nI (3 * s + 1) from nI_1 _, show nI (3 * s) + 2 = nI (3 * s + 2) from q_add _ 2, show nI (3 * s) + 3 = nI (3 * (s + 1)) from q_add _ 3, if_neg (bd_n (by omega) (by omega)), let_d, if_neg (bd_n (by omega) (by omega)), let_d, if_neg (bd_n (by omega) (by omega)), let_d, let_d, q_cl (by omega), q_cl (by omega), q_cl (by omega)]
  · rw [updF_n hj, updF_n hj, updF_n hj]
  · rw [updF_e rfl, upd_n (by omega), updF_e rfl, upd_n (by omega), updF_e rfl, upd_e rfl]
  · rw [updF_e rfl, upd_n (by omega), updF_e rfl, upd_e rfl]
  · rw [updF_e rfl, upd_e rfl]
  · rw [updF_e rfl, upd_n (by omega), updF_e rfl, upd_n (by omega), updF_e rfl, upd_n (by omega)]
section MT
variable {t1 v1 t2 v2 : Int32}
theorem mt_1 (h : m_Model_areSame N t1 v1 t2 v2 = some (nI 1)) : m_Model_meets N J C t1 v1 t2 v2 = some (nI 1, C, J) := by
  unfold m_Model_meets
  rw [h, bind_s, if_neg (show ¬ nI 1 = 0 by decide)]
  rfl
theorem mt_n1 (h : m_Model_areSame N t1 v1 t2 v2 = some (nI 0)) (h1 : ¬ t1 = 2) : m_Model_meets N J C t1 v1 t2 v2 = some (nI 0, C, J) := by
  unfold m_Model_meets
  rw [h, bind_s, if_pos (show nI 0 = 0 from rfl), if_neg h1]
  rfl
theorem mt_n2 (h : m_Model_areSame N t1 v1 t2 v2 = some (nI 0)) (h1 : t1 = 2) (h2 : ¬ t2 = 2) : m_Model_meets N J C t1 v1 t2 v2 = some (nI 0, C, J) := by
  unfold m_Model_meets
  rw [h, bind_s, if_pos (show nI 0 = 0 from rfl), if_pos h1, if_neg h2]
  rfl
theorem mt_k {k1 k2 : Int32} (h : m_Model_areSame N t1 v1 t2 v2 = some (nI 0)) (h1 : t1 = 2) (h2 : t2 = 2) (h3 : m_Model_kindAt N J C v1 = some k1) (h4 : m_Model_kindAt N J C v2 = some k2) (h5 : ¬ k1 = k2) : m_Model_meets N J C t1 v1 t2 v2 = some (nI 0, C, J) := by
  unfold m_Model_meets
  rw [h, bind_s, if_pos (show nI 0 = 0 from rfl), if_pos h1, if_pos h2, h3, bind_s, h4, bind_s, if_neg h5]
  rfl
theorem mt_6 {c : Int32} (h : m_Model_areSame N t1 v1 t2 v2 = some (nI 0)) (h1 : t1 = 2) (h2 : t2 = 2) (h3 : m_Model_kindAt N J C v1 = some 6) (h4 : m_Model_kindAt N J C v2 = some 6) (h5 : m_Model_compare N J C v1 v2 = some c) : m_Model_meets N J C t1 v1 t2 v2 = some (if c = 0 then nI 1 else nI 0, C, J) := by
  unfold m_Model_meets
  rw [h, bind_s, if_pos (show nI 0 = 0 from rfl), if_pos h1, if_pos h2, h3, bind_s, h4, bind_s, if_pos rfl, bind_s, if_pos rfl, h5, bind_s]
  by_cases hc : c = 0
  · rw [if_pos hc, if_pos hc]
    rfl
  · rw [if_neg hc, if_neg hc]
    rfl
theorem mt_o {k1 : Int32} (h : m_Model_areSame N t1 v1 t2 v2 = some (nI 0)) (h1 : t1 = 2) (h2 : t2 = 2) (h3 : m_Model_kindAt N J C v1 = some k1) (h4 : m_Model_kindAt N J C v2 = some k1) (h6 : ¬ k1 = 6) (h7 : ¬ k1 = 2) (h8 : ¬ k1 = 3) : m_Model_meets N J C t1 v1 t2 v2 = some (nI 0, C, J) := by
  unfold m_Model_meets
  rw [h, bind_s, if_pos (show nI 0 = 0 from rfl), if_pos h1, if_pos h2, h3, bind_s, h4, bind_s, if_pos rfl, bind_s, if_neg h6, if_neg h7, if_neg h8]
  rfl
theorem mt_h0 {k1 : Int32} (h : m_Model_areSame N t1 v1 t2 v2 = some (nI 0)) (h1 : t1 = 2) (h2 : t2 = 2) (h3 : m_Model_kindAt N J C v1 = some k1) (h4 : m_Model_kindAt N J C v2 = some k1) (hk : k1 = 2 ∨ k1 = 3) (z1 : ¬ (v1 < 0 ∨ 131072 ≤ v1.toNatClampNeg)) (z2 : ¬ (v2 < 0 ∨ 131072 ≤ v2.toNatClampNeg)) (h5 : ¬ C 0 v1.toNatClampNeg = C 0 v2.toNatClampNeg) : m_Model_meets N J C t1 v1 t2 v2 = some (nI 0, C, J) := by
  unfold m_Model_meets
  rw [h, bind_s, if_pos (show nI 0 = 0 from rfl), if_pos h1, if_pos h2, h3, bind_s, h4, bind_s, if_pos rfl, bind_s]
  rcases hk with rfl | rfl
  · rw [if_neg (by decide), if_pos rfl, if_neg z1, if_neg z2, if_neg h5]
    rfl
  · rw [if_neg (by decide), if_neg (by decide), if_pos rfl, if_neg z1, if_neg z2, if_neg h5]
    rfl
theorem mt_h1 (h : m_Model_areSame N t1 v1 t2 v2 = some (nI 0)) (h1 : t1 = 2) (h2 : t2 = 2) (h3 : m_Model_kindAt N J C v1 = some 3) (h4 : m_Model_kindAt N J C v2 = some 3) (z1 : ¬ (v1 < 0 ∨ 131072 ≤ v1.toNatClampNeg)) (z2 : ¬ (v2 < 0 ∨ 131072 ≤ v2.toNatClampNeg)) (h5 : C 0 v1.toNatClampNeg = C 0 v2.toNatClampNeg) (h6 : ¬ C 1 v1.toNatClampNeg = C 1 v2.toNatClampNeg) : m_Model_meets N J C t1 v1 t2 v2 = some (nI 0, C, J) := by
  unfold m_Model_meets
  rw [h, bind_s, if_pos (show nI 0 = 0 from rfl), if_pos h1, if_pos h2, h3, bind_s, h4, bind_s, if_pos rfl, bind_s, if_neg (by decide), if_neg (by decide), if_pos rfl, if_neg z1, if_neg z2, if_pos h5, if_pos rfl, if_neg z1, if_neg z2, if_neg h6]
  rfl
theorem mt_l {k1 x : Int32} (h : m_Model_areSame N t1 v1 t2 v2 = some (nI 0)) (h1 : t1 = 2) (h2 : t2 = 2) (h3 : m_Model_kindAt N J C v1 = some k1) (h4 : m_Model_kindAt N J C v2 = some k1) (hk : k1 = 2 ∨ k1 = 3) (z1 : ¬ (v1 < 0 ∨ 131072 ≤ v1.toNatClampNeg)) (z2 : ¬ (v2 < 0 ∨ 131072 ≤ v2.toNatClampNeg)) (h5 : C 0 v1.toNatClampNeg = C 0 v2.toNatClampNeg) (h6 : k1 = 3 → C 1 v1.toNatClampNeg = C 1 v2.toNatClampNeg) (l1 : m_Model_leader N J C v1 = some x) (l2 : m_Model_leader N J C v2 = some x) : m_Model_meets N J C t1 v1 t2 v2 = some (nI 1, C, J) := by
  unfold m_Model_meets
  rw [h, bind_s, if_pos (show nI 0 = 0 from rfl), if_pos h1, if_pos h2, h3, bind_s, h4, bind_s, if_pos rfl, bind_s]
  rcases hk with rfl | rfl
  · rw [if_neg (by decide), if_pos rfl, if_neg z1, if_neg z2, if_pos h5, if_neg (by decide), l1, bind_s, l2, bind_s, if_pos rfl]
    rfl
  · rw [if_neg (by decide), if_neg (by decide), if_pos rfl, if_neg z1, if_neg z2, if_pos h5, if_pos rfl, if_neg z1, if_neg z2, if_pos (h6 rfl), l1, bind_s, l2, bind_s, if_pos rfl]
    rfl
theorem mt_u {k1 x y : Int32} {C1 C2 C3 : Nat → Nat → Int32} {J1 J3 : Nat → Int32} (h : m_Model_areSame N t1 v1 t2 v2 = some (nI 0)) (h1 : t1 = 2) (h2 : t2 = 2) (h3 : m_Model_kindAt N J C v1 = some k1) (h4 : m_Model_kindAt N J C v2 = some k1) (hk : k1 = 2 ∨ k1 = 3) (z1 : ¬ (v1 < 0 ∨ 131072 ≤ v1.toNatClampNeg)) (z2 : ¬ (v2 < 0 ∨ 131072 ≤ v2.toNatClampNeg)) (h5 : C 0 v1.toNatClampNeg = C 0 v2.toNatClampNeg) (h6 : k1 = 3 → C 1 v1.toNatClampNeg = C 1 v2.toNatClampNeg) (l1 : m_Model_leader N J C v1 = some x) (l2 : m_Model_leader N J C v2 = some y) (hxy : ¬ x = y) (zx : ¬ (x < 0 ∨ 131072 ≤ x.toNatClampNeg)) (e1 : updF C 2 (upd (C 2) x.toNatClampNeg y) = C1) (zj : ¬ (J 49 < 0 ∨ 65536 ≤ (J 49).toNatClampNeg)) (e2 : updF C1 48 (upd (C1 48) (J 49).toNatClampNeg x) = C2) (e3 : upd J 49 (J 49 + 1) = J1) (h7 : m_Model_compareLater N J1 C2 v1 v2 1 = some (C3, J3)) : m_Model_meets N J C t1 v1 t2 v2 = some (nI 1, C3, J3) := by
  unfold m_Model_meets
  rw [h, bind_s, if_pos (show nI 0 = 0 from rfl), if_pos h1, if_pos h2, h3, bind_s, h4, bind_s, if_pos rfl, bind_s]
  rcases hk with rfl | rfl
  · rw [if_neg (by decide), if_pos rfl, if_neg z1, if_neg z2, if_pos h5, if_neg (by decide), l1, bind_s, l2, bind_s, if_neg hxy, if_neg zx, let_d, e1, if_neg zj, let_d, e2, let_d, e3, h7, bind_s]
    rfl
  · rw [if_neg (by decide), if_neg (by decide), if_pos rfl, if_neg z1, if_neg z2, if_pos h5, if_pos rfl, if_neg z1, if_neg z2, if_pos (h6 rfl), l1, bind_s, l2, bind_s, if_neg hxy, if_neg zx, let_d, e1, if_neg zj, let_d, e2, let_d, e3, h7, bind_s]
    rfl
end MT
/-- the stack's entries are few -/
theorem st_few {l : List Nat} (hS : SR G l v w J C ps nl st ld) (ht : tot (gZ G) l ≤ 131072) (h2 : ∀ e, e ∈ st → 2 ≤ gNp G e.1) : 3 * st.length ≤ 131072 := by
  obtain ⟨lk, d, i1, i2, i3, i4, i5, i6, i7, i8, i9⟩ := hS
  have h := tot_sub (Z := gZ G) i9 (m := l) (fun x hx => by
    obtain ⟨e, he, rfl⟩ := List.mem_map.mp hx
    exact (i1.2.2.2.2.2.2.1 _ (i8 e he).2.2.2.1).1)
  have h3 := tot_len (Z := gZ G) (l := st.map (fun e => e.2.2.2)) (k := 3) (fun x hx => by
    obtain ⟨e, he, rfl⟩ := List.mem_map.mp hx
    obtain ⟨e1, e2, e3, e4, e5⟩ := i8 e he
    rw [e5, gZ_np (show gK G e.1 ≠ 6 from i4 _ e1)]
    have := h2 e he
    omega)
  rw [List.length_map] at h3
  omega
theorem th_eq {o p : Nat} (hO : okO nk nm G o) (hO2 : okO nk nm G p) (hk : gK G o = gK G p) (h : gK G o = 2 ∨ gK G o = 3) : (thR G o = thR G p ↔ gC G o = gC G p) ∧ chR G o = gN G o ∧ chR G p = gN G p ∧ (gK G o = 2 → gN G o = gN G p) := by
  have hb : ∀ x, okO nk nm G x → (gK G x = 2 ∨ gK G x = 3) → gC G x ≤ 255 := by
    intro x hx hkx
    unfold okO at hx
    omega
  have b1 := hb o hO h
  have b2 := hb p hO2 (by rw [← hk]; exact h)
  refine ⟨⟨fun e => ?_, fun e => ?_⟩, ?_, ?_, fun e2 => ?_⟩
  · unfold thR at e
    rw [if_neg (by omega), if_neg (by omega), if_neg (by omega), if_neg (by omega)] at e
    have := (nI_eq (by omega) (by omega)).mp e
    omega
  · unfold thR
    rw [if_neg (by omega), if_neg (by omega), if_neg (by omega), if_neg (by omega), hk, e]
  · unfold chR
    rw [if_neg (by omega)]
  · unfold chR
    rw [if_neg (by omega)]
  · have n1 : gN G o = nI 0 := by
      unfold okO at hO
      rcases hO with h | h | h | h | h | h
      · exact h.2.1
      · omega
      · omega
      · omega
      · omega
      · omega
    have n2 : gN G p = nI 0 := by
      unfold okO at hO2
      rcases hO2 with h | h | h | h | h | h
      · exact h.2.1
      · omega
      · omega
      · omega
      · omega
      · omega
    rw [n1, n2]
end ER
