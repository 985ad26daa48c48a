/-! Numbers: what a primitive on scalars gives, on both sides -/
section NU
variable {N : Nat}
variable {nk : Nat → Nat} {nm : Nat} {nid : Nat} {G : Nat → GO} {lE : List Nat} {gg : Nat → AV} {t : Nat} {gs : Nat → AV} {fr : Nat} {gc : Nat → AV} {hn : Nat} {gb : Nat → Nat} {gf : Nat → Nat} {gr : Nat → Int32} {hF : Nat → Nat} {hH : Nat → Nat} {hP : Nat → Int32} {hD : Nat → Int32} {lR : List Nat} {P_size : Int32} {P_constants : Int32} {P_closed : Int32} {P_open : Int32} {O_size : Int32} {S_top : Int32} {S_frames : Int32} {S_handlers : Int32} {H_globalsUsed : Int32} {H_used : Int32} {H_spareUsed : Int32} {H_old : Int32} {H_oldLeadsToNew : Int32} {H_limit : Int32} {H_every : Int32} {H_fresh : Int32} {H_made : Int32} {H_madeLimit : Int32} {H_reachedFromGlobals : Int32} {H_reachedInAll : Int32} {H_keptGlobalsUsed : Int32} {H_kept : Int32} {B_names : Int32} {Q_size : Int32} {M_status : Int32} {M_place : Int32} {M_next : Int32} {M_fuel : Int32} {M_ticks : Int32} {M_depth : Int32} {M_depthLimit : Int32} {M_done : Int32} {n_P_words : Nat} {f_P_words : Nat → Int32} {n_P_bytes : Nat} {f_P_bytes : Nat → Int32} {n_P_ends : Nat} {f_P_ends : Nat → Int32} {n_O_bytes : Nat} {f_O_bytes : Nat → Int32} {n_S_values : Nat} {f_S_values : Nat → Int64} {n_S_bases : Nat} {f_S_bases : Nat → Int32} {n_S_floors : Nat} {f_S_floors : Nat → Int32} {n_S_returns : Nat} {f_S_returns : Nat → Int32} {n_S_closures : Nat} {f_S_closures : Nat → Int64} {n_S_handlerFrames : Nat} {f_S_handlerFrames : Nat → Int32} {n_S_handlerPlaces : Nat} {f_S_handlerPlaces : Nat → Int32} {n_S_handlerHeights : Nat} {f_S_handlerHeights : Nat → Int32} {n_S_handlerDepths : Nat} {f_S_handlerDepths : Nat → Int32} {n_H_globals : Nat} {f_H_globals : Nat → Int64} {n_H_cells : Nat} {f_H_cells : Nat → Int64} {n_H_spare : Nat} {f_H_spare : Nat → Int64} {n_Q_links : Nat} {f_Q_links : Nat → Int32} {n_Q_pairs : Nat} {f_Q_pairs : Nat → Int64} {I : Nat → Int32} {F : Nat → Nat → Int32}
/-- a long that must be an int -/
def chk (r : Int64) : Nat ⊕ Int32 := if r = r.toInt32.toInt64 then .inr r.toInt32 else .inl 2
theorem chk_i (x : Int32) : chk x.toInt64 = .inr x := by
  unfold chk
  rw [lg_l2i_i2l, if_pos rfl]
theorem chk_r {r : Int64} (h1 : -2 ^ 31 ≤ r.toInt) (h2 : r.toInt < 2 ^ 31) : chk r = .inr r.toInt32 := by
  unfold chk
  rw [lg_i2l_l2i h1 h2, if_pos rfl]
theorem c_ge (v w : Int32) : (nI 0 ≤ lg_cmp v.toInt64 w.toInt64) = (w ≤ v) := propext ((lg_cmp_ge _ _).trans Int32.toInt64_le)
theorem c_le (v w : Int32) : (lg_cmp v.toInt64 w.toInt64 ≤ nI 0) = (v ≤ w) := propext ((lg_cmp_le _ _).trans Int32.toInt64_le)
theorem c_gt (v w : Int32) : (nI 0 < lg_cmp v.toInt64 w.toInt64) = (w < v) := propext ((lg_cmp_gt _ _).trans Int32.toInt64_lt)
theorem c_lt (v w : Int32) : (lg_cmp v.toInt64 w.toInt64 < nI 0) = (v < w) := propext ((lg_cmp_lt _ _).trans Int32.toInt64_lt)
theorem c_ge0 (v : Int32) : (nI 0 ≤ lg_cmp v.toInt64 0) = (nI 0 ≤ v) := c_ge v 0
theorem i64_inj {v w : Int32} (h : v.toInt64 = w.toInt64) : v = w := by rw [← lg_l2i_i2l v, h, lg_l2i_i2l]
theorem c_eq0 (v : Int32) : (lg_cmp v.toInt64 0 = nI 0) = (v = nI 0) := propext ((lg_cmp_eq _ _).trans ⟨fun h => i64_inj (show v.toInt64 = (nI 0).toInt64 from h), fun h => by rw [h]; rfl⟩)
/-- the engine's division down -/
def fD (x y : Int64) : Int64 := if nI 0 ≤ lg_cmp (x ^^^ y) 0 then x / y else if lg_cmp (x / y * y) x = nI 0 then x / y else x / y - 1
def fM (x y : Int64) : Int64 := if nI 0 ≤ lg_cmp (x ^^^ y) 0 then x - x / y * y else if lg_cmp (x - x / y * y) 0 = nI 0 then x - x / y * y else x - x / y * y + y
theorem xor_s (x y : Int64) : (nI 0 ≤ lg_cmp (x ^^^ y) 0) ↔ ((0 ≤ x.toInt) ↔ (0 ≤ y.toInt)) := by
  refine (lg_cmp_ge _ _).trans ?_
  rw [Int64.le_iff_toInt_le]
  have h : ∀ z : Int64, (0 ≤ z.toInt) ↔ z.toBitVec.msb = false := by
    intro z
    rw [BitVec.msb_eq_toInt, decide_eq_false_iff_not]
    show 0 ≤ z.toBitVec.toInt ↔ _
    omega
  show 0 ≤ (x ^^^ y).toInt ↔ _
  rw [h, h, h, Int64.toBitVec_xor, BitVec.msb_xor]
  cases x.toBitVec.msb <;> cases y.toBitVec.msb <;> decide
theorem fM_r (v w : Int32) (h : ¬ w = nI 0) : -2 ^ 31 ≤ (fM v.toInt64 w.toInt64).toInt ∧ (fM v.toInt64 w.toInt64).toInt < 2 ^ 31 := by
  have hv := i32_bd v
  have hw := i32_bd w
  have ev : v.toInt64.toInt = v.toInt := Int32.toInt_toInt64 v
  have ew : w.toInt64.toInt = w.toInt := Int32.toInt_toInt64 w
  have hw0 : w.toInt ≠ 0 := fun e => h (Int32.toInt_inj.mp (by rw [e]; rfl))
  have hq : (v.toInt64 / w.toInt64).toInt = v.toInt.tdiv w.toInt := by
    rw [Int64.toInt_div, ev, ew]
    have h1 : (v.toInt.tdiv w.toInt).natAbs ≤ v.toInt.natAbs := by
      rw [Int.natAbs_tdiv]
      exact Nat.div_le_self _ _
    apply Int.bmod_eq_of_le <;> omega
  have hm : (v.toInt64 - v.toInt64 / w.toInt64 * w.toInt64).toInt = v.toInt.tmod w.toInt := by
    have hmm := Int.tmod_add_mul_tdiv v.toInt w.toInt
    have hle : (v.toInt.tmod w.toInt).natAbs ≤ v.toInt.natAbs := by
      rw [Int.natAbs_tmod]
      exact Nat.mod_le _ _
    have hx : v.toInt.tdiv w.toInt * w.toInt = v.toInt - v.toInt.tmod w.toInt := by
      rw [Int.mul_comm]
      omega
    rw [Int64.toInt_sub, Int64.toInt_mul, hq, ev, ew, hx]
    have e1 : (v.toInt - v.toInt.tmod w.toInt).bmod (2 ^ 64) = v.toInt - v.toInt.tmod w.toInt := by
      apply Int.bmod_eq_of_le <;> omega
    rw [e1]
    have e2 : v.toInt - (v.toInt - v.toInt.tmod w.toInt) = v.toInt.tmod w.toInt := by omega
    rw [e2]
    apply Int.bmod_eq_of_le <;> omega
  have hlt : (v.toInt.tmod w.toInt).natAbs < w.toInt.natAbs := by
    rw [Int.natAbs_tmod]
    exact Nat.mod_lt _ (by omega)
  unfold fM
  have hs := xor_s v.toInt64 w.toInt64
  rw [ev, ew] at hs
  by_cases c1 : nI 0 ≤ lg_cmp (v.toInt64 ^^^ w.toInt64) 0
  · rw [if_pos c1, hm]
    omega
  · rw [if_neg c1]
    have c1' : ¬ ((0 ≤ v.toInt) ↔ (0 ≤ w.toInt)) := fun h => c1 (hs.mpr h)
    by_cases c2 : lg_cmp (v.toInt64 - v.toInt64 / w.toInt64 * w.toInt64) 0 = nI 0
    · rw [if_pos c2, hm]
      omega
    · rw [if_neg c2, Int64.toInt_add, hm, ew]
      have hsg : (0 ≤ v.toInt → 0 ≤ v.toInt.tmod w.toInt) ∧ (v.toInt < 0 → v.toInt.tmod w.toInt ≤ 0) := by
        refine ⟨fun h => Int.tmod_nonneg _ h, fun h => ?_⟩
        have := Int.tmod_nonneg (a := -v.toInt) w.toInt (by omega)
        rw [Int.neg_tmod] at this
        omega
      have e3 : (v.toInt.tmod w.toInt + w.toInt).bmod (2 ^ 64) = v.toInt.tmod w.toInt + w.toInt := by
        apply Int.bmod_eq_of_le <;> omega
      rw [e3]
      have h1 := hsg.1
      have h2 := hsg.2
      by_cases hv0 : 0 ≤ v.toInt
      · have := h1 hv0
        have : ¬ 0 ≤ w.toInt := fun hw' => c1' ⟨fun _ => hw', fun _ => hv0⟩
        omega
      · have := h2 (by omega)
        have : 0 ≤ w.toInt := by
          by_cases hw' : 0 ≤ w.toInt
          · exact hw'
          · exact absurd ⟨fun h => absurd h hv0, fun h => absurd h hw'⟩ c1'
        omega
end NU
