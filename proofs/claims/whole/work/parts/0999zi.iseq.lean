/-! EQUAL on the reference's side, whole; instruction 33 -/
section IQ
variable {N : Nat}
variable {nk : Nat → Nat} {nm : Nat} {nid : Nat} {G : Nat → GO} {lE : List Nat} {gg : Nat → AV} {t : Nat} {gs : Nat → AV} {fr : Nat} {gc : Nat → AV} {hn : Nat} {gb : Nat → Nat} {gf : Nat → Nat} {gr : Nat → Int32} {hF : Nat → Nat} {hH : Nat → Nat} {hP : Nat → Int32} {hD : Nat → Int32} {lR : List Nat} {P_size : Int32} {P_constants : Int32} {P_closed : Int32} {P_open : Int32} {O_size : Int32} {S_top : Int32} {S_frames : Int32} {S_handlers : Int32} {H_globalsUsed : Int32} {H_used : Int32} {H_spareUsed : Int32} {H_old : Int32} {H_oldLeadsToNew : Int32} {H_limit : Int32} {H_every : Int32} {H_fresh : Int32} {H_made : Int32} {H_madeLimit : Int32} {H_reachedFromGlobals : Int32} {H_reachedInAll : Int32} {H_keptGlobalsUsed : Int32} {H_kept : Int32} {B_names : Int32} {Q_size : Int32} {M_status : Int32} {M_place : Int32} {M_next : Int32} {M_fuel : Int32} {M_ticks : Int32} {M_depth : Int32} {M_depthLimit : Int32} {M_done : Int32} {n_P_words : Nat} {f_P_words : Nat → Int32} {n_P_bytes : Nat} {f_P_bytes : Nat → Int32} {n_P_ends : Nat} {f_P_ends : Nat → Int32} {n_O_bytes : Nat} {f_O_bytes : Nat → Int32} {n_S_values : Nat} {f_S_values : Nat → Int64} {n_S_bases : Nat} {f_S_bases : Nat → Int32} {n_S_floors : Nat} {f_S_floors : Nat → Int32} {n_S_returns : Nat} {f_S_returns : Nat → Int32} {n_S_closures : Nat} {f_S_closures : Nat → Int64} {n_S_handlerFrames : Nat} {f_S_handlerFrames : Nat → Int32} {n_S_handlerPlaces : Nat} {f_S_handlerPlaces : Nat → Int32} {n_S_handlerHeights : Nat} {f_S_handlerHeights : Nat → Int32} {n_S_handlerDepths : Nat} {f_S_handlerDepths : Nat → Int32} {n_H_globals : Nat} {f_H_globals : Nat → Int64} {n_H_cells : Nat} {f_H_cells : Nat → Int64} {n_H_spare : Nat} {f_H_spare : Nat → Int64} {n_Q_links : Nat} {f_Q_links : Nat → Int32} {n_Q_pairs : Nat} {f_Q_pairs : Nat → Int64} {I : Nat → Int32} {F : Nat → Nat → Int32}
variable {v w : AV}
def relR (G : Nat → GO) (ld : Nat → Nat) (x y : AV) : Prop := rel ld x y ∨ sEq G x y
def dunR (G : Nat → GO) (ld : Nat → Nat) (o p : Nat) : Prop := ∀ i, 1 ≤ i → i ≤ gNp G o → relR G ld (gP G o i) (gP G p i)
theorem relR_m {ld ld' : Nat → Nat} {x y : AV} (h : ∀ a b, ld a = ld b → ld' a = ld' b) (hr : relR G ld x y) : relR G ld' x y := hr.elim (fun h' => Or.inl (rel_m h h')) Or.inr
theorem all_eqR {ps : List (Nat × Nat)} {ld : Nat → Nat} (hc : clo ps ld) (hh : ∀ q, q ∈ ps → hd2 G q.1 q.2 ∧ gK G q.1 ≠ 6) (hd6 : ∀ q, q ∈ ps → dunR G ld q.1 q.2) : ∀ (n : Nat) (v w : AV), relR G ld v w → eqN G n v w := by
  intro n
  induction n with
  | zero => intro v w _; exact trivial
  | succ n ih =>
    intro v w hr
    rcases hr with hr | hr
    · rcases hr with rfl | ⟨x, y, rfl, rfl, h⟩
      · exact eq_refl _ _
      · exact hc (fun x y => eqN G (n + 1) (vO x) (vO y)) (fun x => eq_refl _ _) (fun x y => eq_sym) (fun x y z => eq_tr) (fun q hq => Or.inr ⟨q.1, q.2, rfl, rfl, (hh q hq).1, fun h => absurd h (hh q hq).2, fun h6 i hi hin => ih _ _ (hd6 q hq i hi hin)⟩) x y h
    · exact hr (n + 1)
def smR (G : Nat → GO) : List (Nat × Nat × Nat × Nat) → Nat
  | [] => 0
  | e :: s => (gNp G e.1 + 1 - e.2.2.1) + smR G s
theorem smR_a {s : List (Nat × Nat × Nat × Nat)} {e : Nat × Nat × Nat × Nat} : smR G (s ++ [e]) = smR G s + (gNp G e.1 + 1 - e.2.2.1) := by
  induction s with
  | nil => simp only [List.nil_append, smR]; omega
  | cons x s ih => simp only [List.cons_append, smR, ih]; omega
/-- parts before an entry's place are related; a pair that is not on the stack is done -/
def clmR (G : Nat → GO) (ld : Nat → Nat) (ps : List (Nat × Nat)) (st : List (Nat × Nat × Nat × Nat)) : Prop := (∀ e, e ∈ st → ∀ j, 1 ≤ j → j < e.2.2.1 → relR G ld (gP G e.1 j) (gP G e.2.1 j)) ∧ (∀ q, q ∈ ps → dunR G ld q.1 q.2 ∨ ∃ e, e ∈ st ∧ e.1 = q.1 ∧ e.2.1 = q.2)
theorem iq_x {ζ : Type} {m : Nat} {J : Nat → Int32} {C : Nat → Nat → Int32} {k : Int32 → (Nat → Nat → Int32) → (Nat → Int32) → Option ζ} : lm_Model_isEqual_1 N k (m + 1) (nI 0) C J = k (nI 0) C J := by
  rw [lm_Model_isEqual_1]
  by_cases h : J 47 ≤ 0
  · rw [if_pos h]
  · rw [if_neg h, if_pos (show nI 0 = 0 from rfl)]
theorem iq_st {ζ : Type} {m s a b i g r : Nat} {J J1 J2 : Nat → Int32} {C C1 C2 : Nat → Nat → Int32} {x1 x2 y1 y2 : Int32} {k : Int32 → (Nat → Nat → Int32) → (Nat → Int32) → Option ζ} (h47 : J 47 = nI (3 * (s + 1))) (hs : 3 * s + 3 < 132000) (ha : C 46 (3 * s) = nI a) (hb : C 46 (3 * s + 1) = nI b) (hi : C 46 (3 * s + 2) = nI i) (hpa : m_Model_partsAt N (upd J 47 (nI (3 * s))) C (nI a) = some (nI g)) (hg : g < 100000) (hi6 : i < 100000)
    (h1 : g ≤ i → C1 = C ∧ J1 = upd J 47 (nI (3 * s))) (h2 : ¬ g ≤ i → m_Model_compareLater N (upd J 47 (nI (3 * s))) C (nI a) (nI b) (nI (i + 1)) = some (C1, J1)) (ha2 : a + i < 131072) (hb2 : b + i < 131072) (e1 : C1 0 (a + i) = x1) (e2 : C1 1 (a + i) = x2) (e3 : C1 0 (b + i) = y1) (e4 : C1 1 (b + i) = y2) (hm : m_Model_meets N J1 C1 x1 x2 y1 y2 = some (nI r, C2, J2)) :
    lm_Model_isEqual_1 N k (m + 1) 1 C J = lm_Model_isEqual_1 N k m (nI r) C2 J2 := by
  have hJ : upd J 47 (J 47 - 3) = upd J 47 (nI (3 * s)) := by rw [h47, show (3 : Int32) = nI 3 from rfl, q_sub (by omega), show 3 * (s + 1) - 3 = 3 * s by omega]
  have w0 : (upd J 47 (nI (3 * s))) 47 = nI (3 * s) := upd_e rfl
  have x1' : nI (3 * s) + 1 = nI (3 * s + 1) := nI_1 _
  have x2' : nI (3 * s) + 2 = nI (3 * s + 2) := q_add _ 2
  have hl2 : ∀ (kk : (Nat → Nat → Int32) → (Nat → Int32) → Option ζ), lm_Model_isEqual_2 N C (upd J 47 (nI (3 * s))) kk C (upd J 47 (nI (3 * s))) = kk C1 J1 := by
    intro kk
    unfold lm_Model_isEqual_2
    rw [w0, x1', x2', q_cl (by omega), q_cl (by omega), q_cl (by omega), ha, hb, hi, hpa, bind_s]
    by_cases hgi : g ≤ i
    · obtain ⟨rfl, rfl⟩ := h1 hgi
      rw [if_pos (by rw [q_le_t (by omega) (by omega)]; exact True.intro)]
    · rw [if_neg (by rw [q_le_f (by omega) (by omega)]; exact id), nI_1, h2 hgi, bind_s]
  rw [lm_Model_isEqual_1, if_neg (show ¬ J 47 ≤ 0 by rw [h47, show (0 : Int32) = nI 0 from rfl, q_le_f (by omega) (by omega)]; exact id), if_neg (show ¬ (1 : Int32) = 0 by decide), let_d, hJ, w0, x1', x2', if_neg (bd_n (by omega) (by omega)), if_neg (bd_n (by omega) (by omega)), if_neg (bd_n (by omega) (by omega)), hl2]
  rw [q_cl (by omega), q_cl (by omega), q_cl (by omega), ha, hb, hi, q_add, q_add, let_d, if_neg (bd_n (by omega) (by omega)), let_d, if_neg (bd_n (by omega) (by omega)), let_d, if_neg (bd_n (by omega) (by omega)), let_d, if_neg (bd_n (by omega) (by omega)), q_cl (by omega), q_cl (by omega), e1, e2, e3, e4, hm, bind_s]
end IQ
