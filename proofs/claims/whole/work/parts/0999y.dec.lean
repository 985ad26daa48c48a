/-! Primitive 38: a scalar's decimal string -/
section DE
variable {N : Nat}
variable {nk : Nat → Nat} {nm : Nat} {nid : Nat} {G : Nat → GO} {lE : List Nat} {gg : Nat → AV} {t : Nat} {gs : Nat → AV} {fr : Nat} {gc : Nat → AV} {hn : Nat} {gb : Nat → Nat} {gf : Nat → Nat} {gr : Nat → Int32} {hF : Nat → Nat} {hH : Nat → Nat} {hP : Nat → Int32} {hD : Nat → Int32} {lR : List Nat} {P_size : Int32} {P_constants : Int32} {P_closed : Int32} {P_open : Int32} {O_size : Int32} {S_top : Int32} {S_frames : Int32} {S_handlers : Int32} {H_globalsUsed : Int32} {H_used : Int32} {H_spareUsed : Int32} {H_old : Int32} {H_oldLeadsToNew : Int32} {H_limit : Int32} {H_every : Int32} {H_fresh : Int32} {H_made : Int32} {H_madeLimit : Int32} {H_reachedFromGlobals : Int32} {H_reachedInAll : Int32} {H_keptGlobalsUsed : Int32} {H_kept : Int32} {B_names : Int32} {Q_size : Int32} {M_status : Int32} {M_place : Int32} {M_next : Int32} {M_fuel : Int32} {M_ticks : Int32} {M_depth : Int32} {M_depthLimit : Int32} {M_done : Int32} {n_P_words : Nat} {f_P_words : Nat → Int32} {n_P_bytes : Nat} {f_P_bytes : Nat → Int32} {n_P_ends : Nat} {f_P_ends : Nat → Int32} {n_O_bytes : Nat} {f_O_bytes : Nat → Int32} {n_S_values : Nat} {f_S_values : Nat → Int64} {n_S_bases : Nat} {f_S_bases : Nat → Int32} {n_S_floors : Nat} {f_S_floors : Nat → Int32} {n_S_returns : Nat} {f_S_returns : Nat → Int32} {n_S_closures : Nat} {f_S_closures : Nat → Int64} {n_S_handlerFrames : Nat} {f_S_handlerFrames : Nat → Int32} {n_S_handlerPlaces : Nat} {f_S_handlerPlaces : Nat → Int32} {n_S_handlerHeights : Nat} {f_S_handlerHeights : Nat → Int32} {n_S_handlerDepths : Nat} {f_S_handlerDepths : Nat → Int32} {n_H_globals : Nat} {f_H_globals : Nat → Int64} {n_H_cells : Nat} {f_H_cells : Nat → Int64} {n_H_spare : Nat} {f_H_spare : Nat → Int64} {n_Q_links : Nat} {f_Q_links : Nat → Int32} {n_Q_pairs : Nat} {f_Q_pairs : Nat → Int64} {I : Nat → Int32} {F : Nat → Nat → Int32}
theorem lN_div {x y : Nat} (hx : x < 2 ^ 62) (hy : y < 2 ^ 62) : lN x / lN y = lN (x / y) := by
  apply Int64.toInt_inj.mp
  have hle : x / y ≤ x := Nat.div_le_self x y
  rw [Int64.toInt_div, pf_lI (by omega), pf_lI (by omega), pf_lI (by omega)]
  have e : ((x : Nat) : Int).tdiv ((y : Nat) : Int) = ((x / y : Nat) : Int) := rfl
  rw [e]
  revert hle
  generalize x / y = z
  intro hle
  apply Int.bmod_eq_of_le <;> omega
theorem lN_mod {r : Nat} (h : r < 2 ^ 62) : lN r - lN r / 10 * 10 = lN (r % 10) := by
  rw [show (10 : Int64) = lN 10 from rfl, lN_div h (by omega), show lN (r / 10) * lN 10 = lN (r / 10 * 10) from lN_mul _ _, lN_sub (by omega)]
  congr 1
  omega
theorem lc_gt {x y : Nat} (hx : x < 2 ^ 62) (hy : y < 2 ^ 62) : (0 < lg_cmp (lN x) (lN y)) ↔ y < x := by
  refine (lg_cmp_gt _ _).trans ?_
  rw [Int64.lt_iff_toInt_lt, pf_lI (by omega), pf_lI (by omega)]
  omega
theorem lc_lt {x y : Nat} (hx : x < 2 ^ 62) (hy : y < 2 ^ 62) : (lg_cmp (lN x) (lN y) < 0) ↔ x < y := by
  refine (lg_cmp_lt _ _).trans ?_
  rw [Int64.lt_iff_toInt_lt, pf_lI (by omega), pf_lI (by omega)]
  omega
theorem p10 {k : Nat} (h : k ≤ 10) : 1 ≤ 10 ^ k ∧ 10 ^ k ≤ 10000000000 :=
  ⟨Nat.pos_of_ne_zero (by exact Nat.ne_of_gt (Nat.pow_pos (by omega))), Nat.pow_le_pow_right (n := 10) (by omega) h⟩
/-- how many digits -/
def dgC (a d : Nat) : Prop := 1 ≤ d ∧ d ≤ 10 ∧ (∀ j, 1 ≤ j → j < d → 10 ^ j ≤ a) ∧ a < 10 ^ d
theorem dg_ex {a : Nat} (ha : a ≤ 2147483648) : ∀ m k, k + m = 10 → 1 ≤ k → (∀ j, 1 ≤ j → j < k → 10 ^ j ≤ a) → ∃ d, dgC a d
  | 0, k, h, h1, h2 => ⟨k, h1, by omega, h2, by rw [show k = 10 by omega]; omega⟩
  | m + 1, k, h, h1, h2 => by
    by_cases hk : a < 10 ^ k
    · exact ⟨k, h1, by omega, h2, hk⟩
    · refine dg_ex ha m (k + 1) (by omega) (by omega) (fun j hj hjk => ?_)
      by_cases e : j = k
      · rw [e]; omega
      · exact h2 j hj (by omega)
theorem cnt3 {a f d : Nat} (ha : a ≤ 2147483648) (hf : f ≤ 1) (hd : dgC a d) : ∀ (m j : Nat), 1 ≤ j → j ≤ d → d - j < m → ∀ (α : Type) (k : Int32 → Int64 → Option (α × Nat × Nat)), lm_Strings_decimal_3 N (lN a) k m (nI (f + j)) (lN (10 ^ j)) = k (nI (f + d)) (lN (10 ^ d))
  | 0, j, _, _, h => absurd h (Nat.not_lt_zero _)
  | m + 1, j, h1, h2, h3 => by
    intro α k
    have pj := p10 (k := j) (by have := hd.2.1; omega)
    rw [lm_Strings_decimal_3]
    by_cases q : j = d
    · subst q
      rw [if_pos ((lc_gt (by omega) (by omega)).mpr hd.2.2.2)]
    · have := hd.2.2.1 j h1 (by omega)
      rw [if_neg (fun h => by have := (lc_gt (by omega) (by omega)).mp h; omega), nI_1, Nat.add_assoc, show lN (10 ^ j) * 10 = lN (10 ^ j * 10) from lN_mul _ _, ← Nat.pow_succ]
      exact cnt3 ha hf hd m (j + 1) (by omega) (by omega) (by omega) α k
theorem cnt2 {a d : Nat} (ha : a ≤ 2147483648) (hd : dgC a d) : ∀ (m j : Nat), j + 1 ≤ d → d - (j + 1) < m → ∀ (ζ : Type) (k : Int32 → Int64 → Option ζ), lm_Model_decimal_2 N (lN a) k m (nI (j + 1)) (lN (10 ^ j)) = k (nI d) (lN (10 ^ (d - 1)))
  | 0, j, _, h => absurd h (Nat.not_lt_zero _)
  | m + 1, j, h2, h3 => by
    intro ζ k
    have pj := p10 (k := j) (by have := hd.2.1; omega)
    have ha2 : a / 10 ^ j ≤ a := Nat.div_le_self _ _
    have e0 : ¬ lN (10 ^ j) = 0 := fun h => by have := lN_inj (b := 0) (by omega) (by omega) h; omega
    have hlt : a / 10 ^ j < 10 ↔ a < 10 ^ (j + 1) := by rw [Nat.div_lt_iff_lt_mul (by omega), Nat.pow_succ, Nat.mul_comm]
    rw [lm_Model_decimal_2, if_neg e0, lN_div (by omega) (by omega), show (10 : Int64) = lN 10 from rfl]
    by_cases q : j + 1 = d
    · rw [if_pos ((lc_lt (by omega) (by omega)).mpr (hlt.mpr (by rw [q]; exact hd.2.2.2))), q, show d - 1 = j by omega]
    · have := hd.2.2.1 (j + 1) (by omega) (by omega)
      rw [if_neg (fun h => by have := hlt.mp ((lc_lt (by omega) (by omega)).mp h); omega), nI_1, show lN (10 ^ j) * lN 10 = lN (10 ^ j * 10) from lN_mul _ _, ← Nat.pow_succ]
      exact cnt2 ha hd m (j + 1) (by omega) (by omega) ζ k
/-- the bytes from i on -/
def hiB (B : Nat → Nat) (i : Nat) : Nat → Nat := fun j => if i ≤ j then B j else 0
theorem hi_i (B : Nat → Nat) (i : Nat) : hiB B (i + 1) i = 0 := if_neg (by omega)
theorem hi_s (B : Nat → Nat) (i : Nat) : upN (hiB B (i + 1)) i (B i) = hiB B i := by
  funext j
  unfold hiB
  by_cases e : j = i
  · rw [upN_e e, if_pos (by omega), e]
  · rw [upN_n e]
    by_cases h : i ≤ j
    · rw [if_pos h, if_pos (by omega)]
    · rw [if_neg h, if_neg (by omega)]
theorem hi_0 (B : Nat → Nat) : hiB B 0 = B := by
  funext j
  exact if_pos (by omega)
theorem hi_n {B : Nat → Nat} {n : Nat} (h : ∀ i, n ≤ i → B i = 0) : hiB B n = fun _ => 0 := by
  funext j
  unfold hiB
  by_cases hj : n ≤ j
  · rw [if_pos hj, h j hj]
  · rw [if_neg hj]
def decB (f len a : Nat) : Nat → Nat := fun k => if len ≤ k then 0 else if k < f then 126 else 48 + a / 10 ^ (len - 1 - k) % 10
theorem dec5 {H_globalsUsed H_limit H_every H_madeLimit H_keptGlobalsUsed H_kept m6 m7 m8 m9 m10 m11 r3 r4 : Int32} {nC u len f a : Nat} {c0 : Nat → Int64} (ha : a ≤ 2147483648) (hf : f ≤ 1) (hl : len ≤ 11) (hfl : f < len) (hu : u + 1 + (len + 3) / 4 ≤ nC) (hC : nC ≤ 131072) :
    ∀ (m i : Nat) (c : Nat → Int64), f ≤ i → i ≤ len → i - f < m → sbE c0 c u len (hiB (decB f len a) i) → ∃ (x : Int64) (y : Int32) (c' : Nat → Int64), (∀ (α : Type) (k : Int64 → Int32 → (Nat → Int64) → Option (α × Nat × Nat)), lm_Strings_decimal_5 N H_globalsUsed H_limit H_every H_madeLimit H_keptGlobalsUsed H_kept m6 m7 m8 m9 m10 m11 nC (nI u) r3 r4 (nI f) k m (lN (a / 10 ^ (len - i))) (nI i - 1) c = k x y c') ∧ sbE c0 c' u len (hiB (decB f len a) f)
  | 0, i, c, _, _, h, _ => absurd h (Nat.not_lt_zero _)
  | m + 1, i, c, h1, h2, h3, hs => by
    by_cases q : i = f
    · subst q
      refine ⟨lN (a / 10 ^ (len - i)), nI i - 1, c, fun α k => ?_, hs⟩
      have e1 : nI i - 1 < nI i := by
        have : i = 0 ∨ i = 1 := by omega
        rcases this with rfl | rfl
        · decide
        · decide
      rw [lm_Strings_decimal_5, if_pos e1]
    · have e0 : nI i - 1 = nI (i - 1) := by rw [show (1 : Int32) = nI 1 from rfl, q_sub (by omega)]
      have e1 : ¬ nI (i - 1) < nI f := by rw [q_lt_f (by omega) (by omega)]; exact id
      have ha2 : a / 10 ^ (len - i) ≤ a := Nat.div_le_self _ _
      have hb : decB f len a (i - 1) = 48 + a / 10 ^ (len - i) % 10 := by
        unfold decB
        rw [if_neg (by omega), if_neg (by omega), show len - 1 - (i - 1) = len - i by omega]
      rw [show i = i - 1 + 1 by omega] at hs
      obtain ⟨c1, a1, a2⟩ := setB_E (N := N) (k := i - 1) (x := nI (48 + a / 10 ^ (len - i) % 10)) hs (by omega) (by omega) hu hC (hi_i _ _)
      rw [byI_n (by omega), ← hb, hi_s] at a2
      obtain ⟨x, y, c', d1, d2⟩ := dec5 (H_globalsUsed := H_globalsUsed) (H_limit := H_limit) (H_every := H_every) (H_madeLimit := H_madeLimit) (H_keptGlobalsUsed := H_keptGlobalsUsed) (H_kept := H_kept) (m6 := m6) (m7 := m7) (m8 := m8) (m9 := m9) (m10 := m10) (m11 := m11) (r3 := r3) (r4 := r4) ha hf hl hfl hu hC m (i - 1) c1 (by omega) (by omega) (by omega) a2
      refine ⟨x, y, c', fun α k => ?_, d2⟩
      rw [show len - (i - 1) = len - i + 1 by omega, Nat.pow_succ, ← Nat.div_div_eq_div_mul] at d1
      rw [lm_Strings_decimal_5, e0, if_neg e1, lN_mod (by omega), lN_i, show (48 : Int32) = nI 48 from rfl, q_add, a1, bind_s, show (10 : Int64) = lN 10 from rfl, lN_div (by omega) (by omega), show nI (i - 1) + (-1) = nI (i - 1) - 1 from (Int32.sub_eq_add_neg _ _).symm]
      exact d1 α k
theorem dec5R {J : Nat → Int32} {F0 : Nat → Nat → Int32} {u len f a : Nat} (ha : a ≤ 2147483648) (hf : f ≤ 1) (hl : len ≤ 11) (hfl : f < len) (hu : u + 1 + (len + 3) / 4 ≤ 131072) :
    ∀ (m i : Nat) (v : Int64) (c : Nat → Nat → Int32), f ≤ i → i ≤ len → len - i < m → (i < len → v = lN (10 ^ (len - 1 - i))) → sbR F0 c u len (cutB (decB f len a) i) → ∃ (x : Int64) (c' : Nat → Nat → Int32), (∀ (ζ : Type) (k : Int64 → Int32 → (Nat → Nat → Int32) → Option ζ), lm_Model_decimal_5 N (lN a) (nI len) (nI u) J k m v (nI i) c = k x (nI len) c') ∧ sbR F0 c' u len (cutB (decB f len a) len)
  | 0, i, v, c, _, _, h, _, _ => absurd h (Nat.not_lt_zero _)
  | m + 1, i, v, c, h1, h2, h3, hv, hs => by
    by_cases q : i = len
    · subst q
      refine ⟨v, c, fun ζ k => ?_, hs⟩
      rw [lm_Model_decimal_5, if_pos Int32.le_rfl]
    · have hv := hv (by omega)
      subst hv
      have pj := p10 (k := len - 1 - i) (by omega)
      have e0 : ¬ lN (10 ^ (len - 1 - i)) = 0 := fun h => by have := lN_inj (b := 0) (by omega) (by omega) h; omega
      have e1 : ¬ nI len ≤ nI i := by rw [q_le_f (by omega) (by omega)]; exact id
      have ha2 : a / 10 ^ (len - 1 - i) ≤ a := Nat.div_le_self _ _
      have hb : decB f len a i = 48 + a / 10 ^ (len - 1 - i) % 10 := by
        unfold decB
        rw [if_neg (by omega), if_neg (by omega)]
      obtain ⟨c1, a1, a2⟩ := setB_R (N := N) (I := J) (k := i) (x := nI (48 + a / 10 ^ (len - 1 - i) % 10)) hs (by omega) (by omega) hu (cut_i _ _)
      rw [byI_n (by omega), ← hb, cut_s] at a2
      obtain ⟨x, c', d1, d2⟩ := dec5R (J := J) ha hf hl hfl hu m (i + 1) (lN (10 ^ (len - 1 - i) / 10)) c1 (by omega) (by omega) (by omega) (fun hlt => by rw [show len - 1 - i = len - 1 - (i + 1) + 1 by omega, Nat.pow_succ, Nat.mul_div_cancel _ (by omega)]) a2
      refine ⟨x, c', fun ζ k => ?_, d2⟩
      rw [lm_Model_decimal_5, if_neg e1, if_neg e0, lN_div (by omega) (by omega), lN_mod (by omega), show (48 : Int64) + lN (a / 10 ^ (len - 1 - i) % 10) = lN (48 + a / 10 ^ (len - 1 - i) % 10) from lN_add _ _, lN_i, a1, bind_s, nI_1, show (10 : Int64) = lN 10 from rfl, lN_div (by omega) (by omega)]
      exact d1 ζ k
/-- the size of a scalar -/
theorem abs_l (v : Int32) : ∃ a, a ≤ 2147483648 ∧ (0 ≤ v → v.toInt64 = lN a) ∧ (¬ 0 ≤ v → -v.toInt64 = lN a) := by
  have hb := i32_bd v
  refine ⟨v.toInt.natAbs, by omega, fun h => ?_, fun h => ?_⟩
  · have h := Int32.le_iff_toInt_le.mp h
    have h : (0 : Int) ≤ v.toInt := h
    apply Int64.toInt_inj.mp
    rw [Int32.toInt_toInt64, pf_lI (by omega)]
    omega
  · have h : ¬ (0 : Int) ≤ v.toInt := fun h' => h (Int32.le_iff_toInt_le.mpr h')
    apply Int64.toInt_inj.mp
    rw [Int64.toInt_neg, Int32.toInt_toInt64, pf_lI (by omega)]
    have e : -v.toInt = ((v.toInt.natAbs : Nat) : Int) := by omega
    rw [e]
    apply Int.bmod_eq_of_le <;> omega
theorem dec_0 {w0 y1 bd : Int64} {v l0 len sz : Int32} {g' cl' va' c' sp' : Nat → Int64} {fresh' made' old' olt' rG' rA' su' used' : Int32} {nC' nSp' cc ss : Nat} (h1 : m_Stacks_peek N S_top S_frames S_handlers n_S_values f_S_values 0 = some w0) (h2 : m_Value_number N w0 = some v) (h3 : ∀ (α : Type) (k : Int64 → Option (α × Nat × Nat)), lm_Strings_decimal_1 N v k = k y1) (h4 : ∀ (α : Type) (k : Int32 → Option (α × Nat × Nat)), lm_Strings_decimal_2 N v k = k l0) (h5 : ∀ (α : Type) (k : Int32 → Int64 → Option (α × Nat × Nat)), lm_Strings_decimal_3 N y1 k N l0 10 = k len bd) (h6 : m_Value_cellsOfString N len = some sz) (h7 : m_Heap_ask N S_top S_frames S_handlers H_globalsUsed H_used H_spareUsed H_old H_oldLeadsToNew H_limit H_every H_fresh H_made H_madeLimit H_reachedFromGlobals H_reachedInAll H_keptGlobalsUsed H_kept n_S_values f_S_values n_S_closures f_S_closures n_H_globals f_H_globals n_H_cells f_H_cells n_H_spare f_H_spare sz sz = some ((0, g', cl', va', fresh', made', old', olt', rG', rA', su', used', nC', c', nSp', sp'), cc, ss)) :
    m_Strings_decimal N S_top S_frames S_handlers H_globalsUsed H_used H_spareUsed H_old H_oldLeadsToNew H_limit H_every H_fresh H_made H_madeLimit H_reachedFromGlobals H_reachedInAll H_keptGlobalsUsed H_kept n_S_values f_S_values n_S_closures f_S_closures n_H_globals f_H_globals n_H_cells f_H_cells n_H_spare f_H_spare = some ((nI 3, g', cl', va', fresh', made', old', olt', rG', rA', su', used', S_top, nC', c', nSp', sp'), cc, ss) := by
  unfold m_Strings_decimal
  rw [h1, bind_s, h2, bind_s, h3, h4, h5, h6, bind_s, h7, bind_s]
  dsimp only
  rw [if_pos rfl, tk_s, Nat.zero_add, Nat.zero_add]
  rfl
theorem dec_p {w0 y1 bd wo x5 : Int64} {v l0 len sz u f1 u1 ff y5 st2 top2 : Int32} {g' cl' va' c' sp' c1 c2 va2 : Nat → Int64} {fresh' made' old' olt' rG' rA' su' used' : Int32} {nC' nSp' cc ss : Nat} (h1 : m_Stacks_peek N S_top S_frames S_handlers n_S_values f_S_values 0 = some w0) (h2 : m_Value_number N w0 = some v) (h3 : ∀ (α : Type) (k : Int64 → Option (α × Nat × Nat)), lm_Strings_decimal_1 N v k = k y1) (h4 : ∀ (α : Type) (k : Int32 → Option (α × Nat × Nat)), lm_Strings_decimal_2 N v k = k l0) (h5 : ∀ (α : Type) (k : Int32 → Int64 → Option (α × Nat × Nat)), lm_Strings_decimal_3 N y1 k N l0 10 = k len bd) (h6 : m_Value_cellsOfString N len = some sz) (h7 : m_Heap_ask N S_top S_frames S_handlers H_globalsUsed H_used H_spareUsed H_old H_oldLeadsToNew H_limit H_every H_fresh H_made H_madeLimit H_reachedFromGlobals H_reachedInAll H_keptGlobalsUsed H_kept n_S_values f_S_values n_S_closures f_S_closures n_H_globals f_H_globals n_H_cells f_H_cells n_H_spare f_H_spare sz sz = some ((1, g', cl', va', fresh', made', old', olt', rG', rA', su', used', nC', c', nSp', sp'), cc, ss))
    (h8 : m_Heap_layString N H_globalsUsed used' su' old' olt' H_limit H_every fresh' made' H_madeLimit rG' rA' H_keptGlobalsUsed H_kept nC' c' len = some (u, c1, f1, u1)) (h9 : ∀ (α : Type) (k : Int32 → Option (α × Nat × Nat)), lm_Strings_decimal_4 N v k = k ff) (h10 : ∀ (α : Type) (k : Int64 → Int32 → (Nat → Int64) → Option (α × Nat × Nat)), lm_Strings_decimal_5 N H_globalsUsed H_limit H_every H_madeLimit H_keptGlobalsUsed H_kept made' old' olt' rG' rA' su' nC' u f1 u1 ff k N y1 (len - 1) c1 = k x5 y5 c2) (h11 : 0 ≤ v) (h12 : m_Value_object N 6 u = some wo) (h13 : m_Stacks_replace N S_top S_frames S_handlers n_S_values va' 1 wo = some (st2, va2, top2)) :
    m_Strings_decimal N S_top S_frames S_handlers H_globalsUsed H_used H_spareUsed H_old H_oldLeadsToNew H_limit H_every H_fresh H_made H_madeLimit H_reachedFromGlobals H_reachedInAll H_keptGlobalsUsed H_kept n_S_values f_S_values n_S_closures f_S_closures n_H_globals f_H_globals n_H_cells f_H_cells n_H_spare f_H_spare = some ((st2, g', cl', va2, f1, made', old', olt', rG', rA', su', u1, top2, nC', c2, nSp', sp'), cc, ss) := by
  unfold m_Strings_decimal
  rw [h1, bind_s, h2, bind_s, h3, h4, h5, h6, bind_s, h7, bind_s]
  dsimp only
  rw [if_neg (by decide), h8, bind_s]
  dsimp only
  rw [h9, h10, if_pos h11, h12, bind_s, h13, bind_s]
  dsimp only
  rw [tk_s, Nat.zero_add, Nat.zero_add]
theorem dec_n {w0 y1 bd wo x5 : Int64} {v l0 len sz u f1 u1 ff y5 st2 top2 : Int32} {g' cl' va' c' sp' c1 c2 c3 va2 : Nat → Int64} {fresh' made' old' olt' rG' rA' su' used' : Int32} {nC' nSp' cc ss : Nat} (h1 : m_Stacks_peek N S_top S_frames S_handlers n_S_values f_S_values 0 = some w0) (h2 : m_Value_number N w0 = some v) (h3 : ∀ (α : Type) (k : Int64 → Option (α × Nat × Nat)), lm_Strings_decimal_1 N v k = k y1) (h4 : ∀ (α : Type) (k : Int32 → Option (α × Nat × Nat)), lm_Strings_decimal_2 N v k = k l0) (h5 : ∀ (α : Type) (k : Int32 → Int64 → Option (α × Nat × Nat)), lm_Strings_decimal_3 N y1 k N l0 10 = k len bd) (h6 : m_Value_cellsOfString N len = some sz) (h7 : m_Heap_ask N S_top S_frames S_handlers H_globalsUsed H_used H_spareUsed H_old H_oldLeadsToNew H_limit H_every H_fresh H_made H_madeLimit H_reachedFromGlobals H_reachedInAll H_keptGlobalsUsed H_kept n_S_values f_S_values n_S_closures f_S_closures n_H_globals f_H_globals n_H_cells f_H_cells n_H_spare f_H_spare sz sz = some ((1, g', cl', va', fresh', made', old', olt', rG', rA', su', used', nC', c', nSp', sp'), cc, ss))
    (h8 : m_Heap_layString N H_globalsUsed used' su' old' olt' H_limit H_every fresh' made' H_madeLimit rG' rA' H_keptGlobalsUsed H_kept nC' c' len = some (u, c1, f1, u1)) (h9 : ∀ (α : Type) (k : Int32 → Option (α × Nat × Nat)), lm_Strings_decimal_4 N v k = k ff) (h10 : ∀ (α : Type) (k : Int64 → Int32 → (Nat → Int64) → Option (α × Nat × Nat)), lm_Strings_decimal_5 N H_globalsUsed H_limit H_every H_madeLimit H_keptGlobalsUsed H_kept made' old' olt' rG' rA' su' nC' u f1 u1 ff k N y1 (len - 1) c1 = k x5 y5 c2) (h11 : ¬ 0 ≤ v)
    (h14 : m_Heap_setByte N H_globalsUsed u1 su' old' olt' H_limit H_every f1 made' H_madeLimit rG' rA' H_keptGlobalsUsed H_kept nC' c2 u 0 126 = some c3) (h12 : m_Value_object N 6 u = some wo) (h13 : m_Stacks_replace N S_top S_frames S_handlers n_S_values va' 1 wo = some (st2, va2, top2)) :
    m_Strings_decimal N S_top S_frames S_handlers H_globalsUsed H_used H_spareUsed H_old H_oldLeadsToNew H_limit H_every H_fresh H_made H_madeLimit H_reachedFromGlobals H_reachedInAll H_keptGlobalsUsed H_kept n_S_values f_S_values n_S_closures f_S_closures n_H_globals f_H_globals n_H_cells f_H_cells n_H_spare f_H_spare = some ((st2, g', cl', va2, f1, made', old', olt', rG', rA', su', u1, top2, nC', c3, nSp', sp'), cc, ss) := by
  unfold m_Strings_decimal
  rw [h1, bind_s, h2, bind_s, h3, h4, h5, h6, bind_s, h7, bind_s]
  dsimp only
  rw [if_neg (by decide), h8, bind_s]
  dsimp only
  rw [h9, h10, if_neg h11, h14, bind_s, h12, bind_s, h13, bind_s]
  dsimp only
  rw [tk_s, Nat.zero_add, Nat.zero_add]
theorem nu_38 {v : Int32} (h1 : m_Model_scalar N I F 1 = some v) : m_Model_numbers N I F (nI 38) (nI 1) = (m_Model_decimal N I F v).bind fun (z31_1, z31_2, z31_3) => (m_Model_next N z31_3 z31_2 (nI 2) z31_1).bind fun (z32_1, z32_2) => some (z32_1, z31_2, z32_2) := by
  unfold m_Model_numbers
  rw [h1, bind_s, ln_1, ln_2, if_pos (show (5 : Int32) ≤ nI 38 by decide), if_neg (show ¬ nI 38 = 5 by decide), if_neg (show ¬ nI 38 = 6 by decide), if_neg (show ¬ nI 38 = 14 by decide), if_neg (show ¬ nI 38 = 15 by decide), if_neg (show ¬ nI 38 = 26 by decide), if_neg (show ¬ nI 38 = 29 by decide), if_pos (show nI 38 = 38 from rfl)]
  rfl
theorem decR_0 {v len d sz : Int32} {y1 pw : Int64} {F' : Nat → Nat → Int32} {I' : Nat → Int32} (h1 : ∀ (ζ : Type) (k : Int64 → Option ζ), lm_Model_decimal_1 N v k = k y1) (h2 : ∀ (ζ : Type) (k : Int32 → Int64 → Option ζ), lm_Model_decimal_2 N y1 k N 1 1 = k d pw) (h3 : ∀ (ζ : Type) (k : Int32 → Option ζ), lm_Model_decimal_3 N v d k = k len) (h4 : 1 + (len + 3) / 4 = sz) (h5 : m_Model_makes N I F sz = some (0, F', I')) : m_Model_decimal N I F v = some (nI 3, F', I') := by
  unfold m_Model_decimal
  rw [h1, h2, h3, h4, h5, bind_s]
  dsimp only
  rw [if_pos rfl]
  rfl
theorem decR_1 {v len d sz u i0 n1 : Int32} {y1 pw x5 : Int64} {F1 F2 F3 F4 F5 : Nat → Nat → Int32} {I1 I2 I5 : Nat → Int32} (h1 : ∀ (ζ : Type) (k : Int64 → Option ζ), lm_Model_decimal_1 N v k = k y1) (h2 : ∀ (ζ : Type) (k : Int32 → Int64 → Option ζ), lm_Model_decimal_2 N y1 k N 1 1 = k d pw) (h3 : ∀ (ζ : Type) (k : Int32 → Option ζ), lm_Model_decimal_3 N v d k = k len) (h4 : 1 + (len + 3) / 4 = sz) (h5 : m_Model_makes N I F sz = some (1, F1, I1)) (h6 : m_Model_string N I1 F1 len = some (u, F2, I2)) (h7 : ∀ (ζ : Type) (k : (Nat → Nat → Int32) → Option ζ), lm_Model_decimal_4 N v u I2 k F2 = k F3) (h0 : len - d = i0) (h8 : ∀ (ζ : Type) (k : Int64 → Int32 → (Nat → Nat → Int32) → Option ζ), lm_Model_decimal_5 N y1 len u I2 k N pw i0 F3 = k x5 n1 F4) (h9 : m_Model_give N I2 F4 1 2 u = some (nI 5, F5, I5)) : m_Model_decimal N I F v = some (nI 5, F5, I5) := by
  unfold m_Model_decimal
  rw [h1, h2, h3, h4, h5, bind_s]
  dsimp only
  rw [if_neg (by decide), h6, bind_s]
  dsimp only
  rw [h7, h0, h8, h9, bind_s]
set_option maxRecDepth 4000 in
set_option maxHeartbeats 4000000 in
theorem pq_38 {rs} {p L : Nat} {v : Int32} (hN : 400000 ≤ N) (he : eR nk nm nid G lE gg t gs fr gc hn gb gf gr hF hH hP hD S_top S_frames S_handlers n_S_values f_S_values n_S_bases f_S_bases n_S_floors f_S_floors n_S_returns f_S_returns n_S_closures f_S_closures n_S_handlerFrames f_S_handlerFrames n_S_handlerPlaces f_S_handlerPlaces n_S_handlerHeights f_S_handlerHeights n_S_handlerDepths f_S_handlerDepths H_globalsUsed H_used H_old H_oldLeadsToNew f_H_globals n_H_cells f_H_cells n_H_spare) (hr : rR nk nm nid G lR gg t gs fr gc hn gb gf gr hF hH hP hD I F) (hx : xR nm M_fuel M_ticks H_made M_depth B_names O_size n_O_bytes f_O_bytes n_Q_links f_Q_links n_Q_pairs n_H_cells I F) (h35 : I 35 = nI p) (h43 : I 43 = nI L) (hL : L ≤ 131072) (hkt : gf (fr - 1) + 1 ≤ t) (hv0 : gs (t - 1) = vS v)
    (hfit : m_Machine_primitiveFits N S_top S_frames S_handlers M_status (nI p) (nI (p + 2)) M_fuel M_ticks M_depth (I 45) M_done n_S_values f_S_values n_S_floors f_S_floors (nI 38) = some (nI 1)) (hR : rs = m_Model_numbers N I F (nI 38) (nI 1)) :
    opR nm n_H_cells I F (potE n_S_values n_S_bases n_S_handlerFrames n_H_cells n_H_spare n_Q_links n_Q_pairs n_O_bytes) (m_Machine_perform N P_size P_constants P_closed P_open O_size S_top S_frames S_handlers H_globalsUsed H_used H_spareUsed H_old H_oldLeadsToNew (nI L) H_every H_fresh H_made (I 44) H_reachedFromGlobals H_reachedInAll H_keptGlobalsUsed H_kept B_names Q_size M_status (nI p) (nI (p + 2)) M_fuel M_ticks M_depth (I 45) M_done n_P_words f_P_words n_P_bytes f_P_bytes n_P_ends f_P_ends n_O_bytes f_O_bytes n_S_values f_S_values n_S_bases f_S_bases n_S_floors f_S_floors n_S_returns f_S_returns n_S_closures f_S_closures n_S_handlerFrames f_S_handlerFrames n_S_handlerPlaces f_S_handlerPlaces n_S_handlerHeights f_S_handlerHeights n_S_handlerDepths f_S_handlerDepths 2049 f_H_globals n_H_cells f_H_cells n_H_spare f_H_spare n_Q_links f_Q_links n_Q_pairs f_Q_pairs (nI 34) (nI 38)) rs := by
  obtain ⟨q1, q2, q3, qt, qs, qh, qb, qf, q4, q5, q6, q7, q8, q9, qx, qy, qz⟩ := frE he
  obtain ⟨y1, y2, y3, y4, y5⟩ := frR hr q1
  subst qt qs qh
  obtain ⟨hG, hT, hC, hH', hnn⟩ := eR_hp he
  have pk0 := eR_peek (N := N) (k := 0) he (by omega)
  rw [Nat.sub_zero, hv0] at pk0
  have nu0 : m_Value_number N (wE G lE (vS v)) = some v := nu_E (v := vS v) hG trivial hnn (by omega)
  have s1 := scalar_R (N := N) (d := 1) hr (by omega) (by omega) q3
  rw [hv0] at s1
  have s1 : m_Model_scalar N I F 1 = some v := s1
  rw [nu_38 s1] at hR
  obtain ⟨a, ha, hp1, hp2⟩ := abs_l v
  obtain ⟨d, hd⟩ := dg_ex ha 9 1 (by omega) (by omega) (fun j h1 h2 => by omega)
  obtain ⟨f, hf, hf0, hf1⟩ : ∃ f, f ≤ 1 ∧ (0 ≤ v → f = 0) ∧ (¬ 0 ≤ v → f = 1) := by
    by_cases h : 0 ≤ v
    · exact ⟨0, by omega, fun _ => rfl, fun h' => absurd h h'⟩
    · exact ⟨1, by omega, fun h' => absurd h' h, fun _ => rfl⟩
  have hd1 := hd.1
  have hd2 := hd.2.1
  have h65 : f + d ≤ 65535 := by omega
  have t1 : ∀ (α : Type) (k : Int64 → Option (α × Nat × Nat)), lm_Strings_decimal_1 N v k = k (lN a) := by
    intro α k
    unfold lm_Strings_decimal_1
    by_cases h : 0 ≤ v
    · rw [if_pos h, hp1 h]
    · rw [if_neg h, hp2 h]
  have t2 : ∀ (α : Type) (k : Int32 → Option (α × Nat × Nat)), lm_Strings_decimal_2 N v k = k (nI (f + 1)) := by
    intro α k
    unfold lm_Strings_decimal_2
    by_cases h : 0 ≤ v
    · rw [if_pos h, hf0 h]
      rfl
    · rw [if_neg h, hf1 h]
      rfl
  have t3 := cnt3 (N := N) ha hf hd N 1 (by omega) hd1 (by omega)
  have t4 : ∀ (α : Type) (k : Int32 → Option (α × Nat × Nat)), lm_Strings_decimal_4 N v k = k (nI f) := by
    intro α k
    unfold lm_Strings_decimal_4
    by_cases h : 0 ≤ v
    · rw [if_pos h, hf0 h]
      rfl
    · rw [if_neg h, hf1 h]
      rfl
  have r1 : ∀ (ζ : Type) (k : Int64 → Option ζ), lm_Model_decimal_1 N v k = k (lN a) := by
    intro α k
    unfold lm_Model_decimal_1
    by_cases h : 0 ≤ v
    · rw [if_pos h, hp1 h]
    · rw [if_neg h, hp2 h]
  have r2 := cnt2 (N := N) ha hd N 0 (by omega) (by omega)
  have r3 : ∀ (ζ : Type) (k : Int32 → Option ζ), lm_Model_decimal_3 N v (nI d) k = k (nI (f + d)) := by
    intro α k
    unfold lm_Model_decimal_3
    by_cases h : 0 ≤ v
    · rw [if_pos h, hf0 h, Nat.zero_add]
    · rw [if_neg h, hf1 h, nI_1, Nat.add_comm]
  have hce := cells_E (N := N) h65
  obtain ⟨b, l', l2, g', cl', va', c', sp', fresh', made', old', olt', rG', rA', su', nC', nSp', cc, ss, I1, F1, a1, a2, a3, a4, a5, a6, a7, a8⟩ := room_ER (N := N) (H_spareUsed := H_spareUsed) (H_every := H_every) (H_fresh := H_fresh) (H_reachedFromGlobals := H_reachedFromGlobals) (H_reachedInAll := H_reachedInAll) (H_keptGlobalsUsed := H_keptGlobalsUsed) (H_kept := H_kept) (f_H_spare := f_H_spare) (n := 1 + (f + d + 3) / 4) hN he hr hx h43 hL (by omega) (by omega)
  rcases a8 with rfl | ⟨rfl, m1, m2⟩
  · refine no_op (f_Q_pairs := f_Q_pairs) (Q_size := Q_size) (fresh' := fresh') (rG' := rG') (rA' := rA') (su' := su') (sp' := sp') (p := p) a3 a4 a5 a6 a7 ?_ ?_
    · exact pf34_S (by omega) (by decide) hfit (ap_38 (dec_0 pk0 nu0 t1 t2 t3 hce a1))
    · rw [hR, decR_0 r1 r2 r3 (cells_R h65) a2, bind_s]
      dsimp only
      rw [next_n _ (by omega) (by omega), bind_s]
  · obtain ⟨c1, l1, l3⟩ := layString_E (N := N) (c := c') (n := f + d) (by omega) m1 (eR_hp a3).2.2.1 h65
    obtain ⟨F2, s2, s3⟩ := string_R (N := N) (I := I1) (F := F1) (u := tot (gZ G) l2) (n := f + d) (by omega) a4.2.2.2.2.1 m2 h65
    have hB2 : ∀ i, f + d ≤ i → decB f (f + d) a i = 0 := fun i hi => if_pos hi
    rw [← hi_n hB2] at l3
    rw [← cut_0 (decB f (f + d) a)] at s3
    obtain ⟨x5, y5, c2, k1, k2⟩ := dec5 (N := N) (H_globalsUsed := H_globalsUsed) (H_limit := nI L) (H_every := H_every) (H_madeLimit := I 44) (H_keptGlobalsUsed := H_keptGlobalsUsed) (H_kept := H_kept) (m6 := made') (m7 := old') (m8 := olt') (m9 := rG') (m10 := rA') (m11 := su') (r3 := fresh' + nI (1 + (f + d + 3) / 4)) (r4 := nI (tot (gZ G) l' + (1 + (f + d + 3) / 4))) ha hf (by omega) (by omega) (by omega) (eR_hp a3).2.2.1 N (f + d) c1 (by omega) (by omega) (by omega) l3
    rw [Nat.sub_self, Nat.pow_zero, Nat.div_one] at k1
    have hpw : f < f + d → lN (10 ^ (d - 1)) = lN (10 ^ (f + d - 1 - f)) := fun _ => by rw [show f + d - 1 - f = d - 1 by omega]
    have hi0 : nI (f + d) - nI d = nI f := by rw [q_sub (by omega), Nat.add_sub_cancel]
    have nu0' : m_Value_object N (nI 6) (nI (tot (gZ G) l')) = some (obW 6 (tot (gZ G) l')) := ob_E (by omega) (by have := eR_hp a3; omega)
    by_cases h : 0 ≤ v
    · have hf := hf0 h
      subst hf
      rw [hi_0] at k2
      have r4 : ∀ (ζ : Type) (k : (Nat → Nat → Int32) → Option ζ), lm_Model_decimal_4 N v (nI (tot (gZ G) l2)) (upd I1 3 (nI (tot (gZ G) l2 + (1 + (0 + d + 3) / 4)))) k F2 = k F2 := by
        intro ζ k
        unfold lm_Model_decimal_4
        rw [if_pos h]
      obtain ⟨x6, F3, j1, j2⟩ := dec5R (N := N) (J := upd I1 3 (nI (tot (gZ G) l2 + (1 + (0 + d + 3) / 4)))) ha (f := 0) (len := 0 + d) (by omega) (by omega) (by omega) (by omega) N 0 (lN (10 ^ (d - 1))) F2 (by omega) (by omega) (by omega) hpw s3
      rw [cut_n hB2] at j2
      refine mkS_op (N := N) (f_Q_pairs := f_Q_pairs) (Q_size := Q_size) (fresh' := fresh' + nI (1 + (0 + d + 3) / 4)) (rG' := rG') (rA' := rA') (su' := su') (sp' := sp') (k := 1) h35 a3 a4 a5 a6 a7 k2 j2 h65 m1 m2 (by omega) hkt ?_ ?_
      · intro hh
        exact pf34_S (by omega) (by decide) hfit (ap_38 (dec_p pk0 nu0 t1 t2 t3 hce a1 (l1 ..) t4 k1 h nu0' hh))
      · intro F4 I4 hh
        rw [hR, decR_1 r1 r2 r3 (cells_R h65) a2 s2 r4 hi0 j1 hh, bind_s]
        dsimp only
        rw [next_5, bind_s]
    · have hf := hf1 h
      subst hf
      obtain ⟨c3, k3, k4⟩ := setB_E (N := N) (k := 0) (x := 126) k2 (by omega) h65 (by omega) (eR_hp a3).2.2.1 (hi_i _ 0)
      have hB0 : decB 1 (1 + d) a 0 = 126 := by
        unfold decB
        rw [if_neg (by omega), if_pos (by omega)]
      rw [show byI 126 = decB 1 (1 + d) a 0 from by rw [hB0]; exact byI_n (n := 126) (by omega), hi_s, hi_0] at k4
      obtain ⟨F3, j3, j4⟩ := setB_R (N := N) (I := upd I1 3 (nI (tot (gZ G) l2 + (1 + (1 + d + 3) / 4)))) (k := 0) (x := 126) s3 (by omega) h65 (by omega) (cut_i _ 0)
      rw [show byI 126 = decB 1 (1 + d) a 0 from by rw [hB0]; exact byI_n (n := 126) (by omega), cut_s] at j4
      have r4 : ∀ (ζ : Type) (k : (Nat → Nat → Int32) → Option ζ), lm_Model_decimal_4 N v (nI (tot (gZ G) l2)) (upd I1 3 (nI (tot (gZ G) l2 + (1 + (1 + d + 3) / 4)))) k F2 = k F3 := by
        intro ζ k
        unfold lm_Model_decimal_4
        rw [if_neg h, show m_Model_setByte N (upd I1 3 (nI (tot (gZ G) l2 + (1 + (1 + d + 3) / 4)))) F2 (nI (tot (gZ G) l2)) 0 126 = _ from j3, bind_s]
      obtain ⟨x6, F4, j1, j2⟩ := dec5R (N := N) (J := upd I1 3 (nI (tot (gZ G) l2 + (1 + (1 + d + 3) / 4)))) ha (f := 1) (len := 1 + d) (by omega) (by omega) (by omega) (by omega) N 1 (lN (10 ^ (d - 1))) F3 (by omega) (by omega) (by omega) hpw j4
      rw [cut_n hB2] at j2
      refine mkS_op (N := N) (f_Q_pairs := f_Q_pairs) (Q_size := Q_size) (fresh' := fresh' + nI (1 + (1 + d + 3) / 4)) (rG' := rG') (rA' := rA') (su' := su') (sp' := sp') (k := 1) h35 a3 a4 a5 a6 a7 k4 j2 h65 m1 m2 (by omega) hkt ?_ ?_
      · intro hh
        exact pf34_S (by omega) (by decide) hfit (ap_38 (dec_n pk0 nu0 t1 t2 t3 hce a1 (l1 ..) t4 k1 h (k3 ..) nu0' hh))
      · intro F5 I5 hh
        rw [hR, decR_1 r1 r2 r3 (cells_R h65) a2 s2 r4 hi0 j1 hh, bind_s]
        dsimp only
        rw [next_5, bind_s]
end DE
