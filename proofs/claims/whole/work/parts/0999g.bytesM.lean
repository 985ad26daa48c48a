/-! Bytes are read and set, on both sides -/
section BM
variable {N : Nat}
variable {nk : Nat → Nat} {nm : Nat} {nid : Nat} {G : Nat → GO} {lE : List Nat} {gg : Nat → AV} {t : Nat} {gs : Nat → AV} {fr : Nat} {gc : Nat → AV} {hn : Nat} {gb : Nat → Nat} {gf : Nat → Nat} {gr : Nat → Int32} {hF : Nat → Nat} {hH : Nat → Nat} {hP : Nat → Int32} {hD : Nat → Int32} {lR : List Nat} {P_size : Int32} {P_constants : Int32} {P_closed : Int32} {P_open : Int32} {O_size : Int32} {S_top : Int32} {S_frames : Int32} {S_handlers : Int32} {H_globalsUsed : Int32} {H_used : Int32} {H_spareUsed : Int32} {H_old : Int32} {H_oldLeadsToNew : Int32} {H_limit : Int32} {H_every : Int32} {H_fresh : Int32} {H_made : Int32} {H_madeLimit : Int32} {H_reachedFromGlobals : Int32} {H_reachedInAll : Int32} {H_keptGlobalsUsed : Int32} {H_kept : Int32} {B_names : Int32} {Q_size : Int32} {M_status : Int32} {M_place : Int32} {M_next : Int32} {M_fuel : Int32} {M_ticks : Int32} {M_depth : Int32} {M_depthLimit : Int32} {M_done : Int32} {n_P_words : Nat} {f_P_words : Nat → Int32} {n_P_bytes : Nat} {f_P_bytes : Nat → Int32} {n_P_ends : Nat} {f_P_ends : Nat → Int32} {n_O_bytes : Nat} {f_O_bytes : Nat → Int32} {n_S_values : Nat} {f_S_values : Nat → Int64} {n_S_bases : Nat} {f_S_bases : Nat → Int32} {n_S_floors : Nat} {f_S_floors : Nat → Int32} {n_S_returns : Nat} {f_S_returns : Nat → Int32} {n_S_closures : Nat} {f_S_closures : Nat → Int64} {n_S_handlerFrames : Nat} {f_S_handlerFrames : Nat → Int32} {n_S_handlerPlaces : Nat} {f_S_handlerPlaces : Nat → Int32} {n_S_handlerHeights : Nat} {f_S_handlerHeights : Nat → Int32} {n_S_handlerDepths : Nat} {f_S_handlerDepths : Nat → Int32} {n_H_globals : Nat} {f_H_globals : Nat → Int64} {n_H_cells : Nat} {f_H_cells : Nat → Int64} {n_H_spare : Nat} {f_H_spare : Nat → Int64} {n_Q_links : Nat} {f_Q_links : Nat → Int32} {n_Q_pairs : Nat} {f_Q_pairs : Nat → Int64} {I : Nat → Int32} {F : Nat → Nat → Int32}
theorem c31 : ∀ k, k < 32 → (nI k &&& nI 31) = nI k := by decide +kernel
theorem c31u : ∀ k, k < 32 → ((nI k).toUInt32 &&& Int32.toUInt32 (nI 31)) = UInt32.ofNat k := by decide +kernel
theorem s31 : ∀ k, k < 32 → (BitVec.ofNat 32 k).smod 32 = BitVec.ofNat 32 k := by decide +kernel
theorem ib_shl (n : Nat) {k : Nat} (hk : k < 32) : nI n <<< (nI k &&& nI 31) = nI (n * 2 ^ k) := by
  rw [c31 k hk]
  apply Int32.toBitVec_inj.mp
  rw [Int32.toBitVec_shiftLeft]
  show BitVec.ofNat 32 n <<< (BitVec.ofNat 32 k).smod 32 = BitVec.ofNat 32 _
  rw [s31 k hk]
  apply BitVec.eq_of_toNat_eq
  rw [BitVec.shiftLeft_eq', BitVec.toNat_shiftLeft, BitVec.toNat_ofNat, BitVec.toNat_ofNat, BitVec.toNat_ofNat, Nat.mod_eq_of_lt (show k < 2 ^ 32 by omega), Nat.shiftLeft_eq, Nat.mul_mod, Nat.mod_mod, ← Nat.mul_mod]
theorem ib_shr {n k : Nat} (hn : n < 4294967296) (hk : k < 32) : ((nI n).toUInt32 >>> ((nI k).toUInt32 &&& Int32.toUInt32 (nI 31))).toInt32 = nI (n / 2 ^ k) := by
  rw [c31u k hk]
  apply Int32.toBitVec_inj.mp
  apply BitVec.eq_of_toNat_eq
  show ((nI n).toUInt32 >>> UInt32.ofNat k).toNat = (BitVec.ofNat 32 _).toNat
  have h1 : (UInt32.ofNat k).toNat = k := by
    show (BitVec.ofNat 32 k).toNat = k
    rw [BitVec.toNat_ofNat, Nat.mod_eq_of_lt (by omega)]
  have h2 : (nI n).toUInt32.toNat = n := i32_tn hn
  rw [UInt32.toNat_shiftRight, h1, h2, Nat.mod_eq_of_lt hk, Nat.shiftRight_eq_div_pow, BitVec.toNat_ofNat, Nat.mod_eq_of_lt (Nat.lt_of_le_of_lt (Nat.div_le_self _ _) hn)]
theorem ib_or {a b : Nat} (ha : a < 4294967296) (hb : b < 4294967296) : nI a ||| nI b = nI (a ||| b) := by
  apply Int32.toBitVec_inj.mp
  rw [Int32.toBitVec_or]
  show BitVec.ofNat 32 a ||| BitVec.ofNat 32 b = BitVec.ofNat 32 _
  apply BitVec.eq_of_toNat_eq
  rw [BitVec.toNat_or, BitVec.toNat_ofNat, BitVec.toNat_ofNat, BitVec.toNat_ofNat, Nat.mod_eq_of_lt ha, Nat.mod_eq_of_lt hb, Nat.mod_eq_of_lt (Nat.or_lt_two_pow (n := 32) ha hb)]
/-- the low byte of an int -/
def byI (x : Int32) : Nat := x.toBitVec.toNat % 256
theorem byI_lt (x : Int32) : byI x < 256 := Nat.mod_lt _ (by decide)
theorem byI_and (x : Int32) : x &&& nI 255 = nI (byI x) := by
  obtain ⟨n, hn, rfl⟩ := wb_of32 x
  rw [r_and']
  unfold byI
  rw [nI_tn]
  congr 1
  omega
theorem byI_n {n : Nat} (h : n < 256) : byI (nI n) = n := by
  unfold byI
  rw [nI_tn]
  omega
theorem d4 {k : Nat} : 8 * (k - k / 4 * 4) = 8 * (k % 4) := by omega
theorem sh_lt {k : Nat} : 8 * (k % 4) ≤ 24 := by omega
/-- the engine reads and sets a byte -/
theorem byteAt_w {nC a k : Nat} {c : Nat → Int64} {b : Nat → Nat} (hb : ∀ i, b i < 256) (hk : k < 100000) (ha : a + 1 + k / 4 < nC) (hC : nC ≤ 131072) (h : c (a + 1 + k / 4) = lN (w4 b (k / 4))) : ∀ (H_globalsUsed : Int32) (H_used : Int32) (H_spareUsed : Int32) (H_old : Int32) (H_oldLeadsToNew : Int32) (H_limit : Int32) (H_every : Int32) (H_fresh : Int32) (H_made : Int32) (H_madeLimit : Int32) (H_reachedFromGlobals : Int32) (H_reachedInAll : Int32) (H_keptGlobalsUsed : Int32) (H_kept : Int32), m_Heap_byteAt N H_globalsUsed H_used H_spareUsed H_old H_oldLeadsToNew H_limit H_every H_fresh H_made H_madeLimit H_reachedFromGlobals H_reachedInAll H_keptGlobalsUsed H_kept nC c (nI a) (nI k) = some (nI (b k)) := by
  intros
  unfold m_Heap_byteAt
  have e1 : k / 4 * 4 ≤ k := by omega
  have hw := (w4_lt hb (k / 4)).1
  have e2 := (w4_byte hb (k / 4) (k % 4) (by omega)).1
  rw [show 4 * (k / 4) + k % 4 = k by omega] at e2
  simp (disch := omega) only [q_o, q_0, q_1, q_2, q_3, q_4, q_5, q_6, q_7, q_8, q_9, q_10, q_11, q_12, q_13, q_14, q_15, q_16, q_17, q_18, q_19, q_20, q_21, q_22, q_23, q_24, q_25, q_26, q_27, q_28, q_29, q_30, q_31, q_32, q_33, q_34, q_35, q_36, q_37, q_38, q_39, q_40, q_41, q_42, q_43, q_44, q_45, q_46, q_47, q_48, q_49, q_50, q_51, q_52, q_53, q_63, q_64, q_126, q_128, q_255, q_512, q_1024, q_1026, q_2000, q_2048, q_2049, q_4095, q_4096, q_8192, q_16383, q_65535, q_65536, q_69632, q_131072, q_132000, q_262144, q_300000, q_1000000, q_lt_t, q_lt_f, q_le_t, q_le_f, q_eq_t, q_eq_f, q_cl, q_add, q_mul, q_sub, q_nle_f, q_nle_t, q_nlt_f, q_nlt_t, q_neq_f, eq_self, q_n1, q_n2, q_m1, q_m1', q_m2, q_m21, q_m0, q_ml, upd_e, upd_n, updL_e, updL_n, updF_e, updF_n, let_d, tk_s, bind_s, or_false, false_or, and_true, true_and, if_true, if_false, ite_true, ite_false, reduceIte, not_true, not_false_iff, Nat.zero_add, Nat.add_zero, Nat.sub_zero, q_dv, h, d4]
  rw [wb_shr (by omega) (by omega), lN_i, r_and', e2]
theorem setByte_w {nC a k : Nat} {x : Int32} {c : Nat → Int64} {b : Nat → Nat} (hb : ∀ i, b i < 256) (hk : k < 100000) (ha : a + 1 + k / 4 < nC) (hC : nC ≤ 131072) (h : c (a + 1 + k / 4) = lN (w4 b (k / 4))) (h0 : b k = 0) : ∀ (H_globalsUsed : Int32) (H_used : Int32) (H_spareUsed : Int32) (H_old : Int32) (H_oldLeadsToNew : Int32) (H_limit : Int32) (H_every : Int32) (H_fresh : Int32) (H_made : Int32) (H_madeLimit : Int32) (H_reachedFromGlobals : Int32) (H_reachedInAll : Int32) (H_keptGlobalsUsed : Int32) (H_kept : Int32), m_Heap_setByte N H_globalsUsed H_used H_spareUsed H_old H_oldLeadsToNew H_limit H_every H_fresh H_made H_madeLimit H_reachedFromGlobals H_reachedInAll H_keptGlobalsUsed H_kept nC c (nI a) (nI k) x = some (vp_updL c (a + 1 + k / 4) (lN (w4 (upN b k (byI x)) (k / 4)))) := by
  intros
  unfold m_Heap_setByte
  have e1 : k / 4 * 4 ≤ k := by omega
  have hw := (w4_lt hb (k / 4)).1
  have hx := byI_lt x
  have hr : k % 4 < 4 := by omega
  have e2 := (w4_set hb (k / 4) (k % 4) (byI x) hr hx (by rw [show 4 * (k / 4) + k % 4 = k by omega]; exact h0)).1
  rw [show 4 * (k / 4) + k % 4 = k by omega] at e2
  have hlt : byI x * 2 ^ (24 - 8 * (k % 4)) < 2 ^ 64 := by
    have h1 : 2 ^ (24 - 8 * (k % 4)) ≤ 2 ^ 24 := Nat.pow_le_pow_right (by decide) (by omega)
    have h2 := Nat.mul_le_mul (Nat.le_of_lt hx) h1
    omega
  simp (disch := omega) only [q_o, q_0, q_1, q_2, q_3, q_4, q_5, q_6, q_7, q_8, q_9, q_10, q_11, q_12, q_13, q_14, q_15, q_16, q_17, q_18, q_19, q_20, q_21, q_22, q_23, q_24, q_25, q_26, q_27, q_28, q_29, q_30, q_31, q_32, q_33, q_34, q_35, q_36, q_37, q_38, q_39, q_40, q_41, q_42, q_43, q_44, q_45, q_46, q_47, q_48, q_49, q_50, q_51, q_52, q_53, q_63, q_64, q_126, q_128, q_255, q_512, q_1024, q_1026, q_2000, q_2048, q_2049, q_4095, q_4096, q_8192, q_16383, q_65535, q_65536, q_69632, q_131072, q_132000, q_262144, q_300000, q_1000000, q_lt_t, q_lt_f, q_le_t, q_le_f, q_eq_t, q_eq_f, q_cl, q_add, q_mul, q_sub, q_nle_f, q_nle_t, q_nlt_f, q_nlt_t, q_neq_f, eq_self, q_n1, q_n2, q_m1, q_m1', q_m2, q_m21, q_m0, q_ml, upd_e, upd_n, updL_e, updL_n, updF_e, updF_n, let_d, tk_s, bind_s, or_false, false_or, and_true, true_and, if_true, if_false, ite_true, ite_false, reduceIte, not_true, not_false_iff, Nat.zero_add, Nat.add_zero, Nat.sub_zero, q_dv, h, d4, byI_and]
  rw [q_l (n := byI x) (by omega), wb_shl _ (by omega), wb_or (by omega) hlt, e2]
/-- the reference -/
theorem byteAt_r {a k : Nat} {b : Nat → Nat} (hb : ∀ i, b i < 256) (hk : k < 100000) (ha : a + 1 + k / 4 < 131072) (h : F 1 (a + 1 + k / 4) = nI (w4R b (k / 4))) : m_Model_byteAt N I F (nI a) (nI k) = some (nI (b k)) := by
  unfold m_Model_byteAt
  have e1 : k / 4 * 4 ≤ k := by omega
  have hw := (w4_lt hb (k / 4)).2
  have e2 := (w4_byte hb (k / 4) (k % 4) (by omega)).2
  rw [show 4 * (k / 4) + k % 4 = k by omega] at e2
  simp (disch := omega) only [q_o, q_0, q_1, q_2, q_3, q_4, q_5, q_6, q_7, q_8, q_9, q_10, q_11, q_12, q_13, q_14, q_15, q_16, q_17, q_18, q_19, q_20, q_21, q_22, q_23, q_24, q_25, q_26, q_27, q_28, q_29, q_30, q_31, q_32, q_33, q_34, q_35, q_36, q_37, q_38, q_39, q_40, q_41, q_42, q_43, q_44, q_45, q_46, q_47, q_48, q_49, q_50, q_51, q_52, q_53, q_63, q_64, q_126, q_128, q_255, q_512, q_1024, q_1026, q_2000, q_2048, q_2049, q_4095, q_4096, q_8192, q_16383, q_65535, q_65536, q_69632, q_131072, q_132000, q_262144, q_300000, q_1000000, q_lt_t, q_lt_f, q_le_t, q_le_f, q_eq_t, q_eq_f, q_cl, q_add, q_mul, q_sub, q_nle_f, q_nle_t, q_nlt_f, q_nlt_t, q_neq_f, eq_self, q_n1, q_n2, q_m1, q_m1', q_m2, q_m21, q_m0, q_ml, upd_e, upd_n, updL_e, updL_n, updF_e, updF_n, let_d, tk_s, bind_s, or_false, false_or, and_true, true_and, if_true, if_false, ite_true, ite_false, reduceIte, not_true, not_false_iff, Nat.zero_add, Nat.add_zero, Nat.sub_zero, q_dv, h, d4]
  rw [ib_shr (by omega) (by omega), r_and', e2]
theorem setByte_r {a k : Nat} {x : Int32} {b : Nat → Nat} (hb : ∀ i, b i < 256) (hk : k < 100000) (ha : a + 1 + k / 4 < 131072) (h : F 1 (a + 1 + k / 4) = nI (w4R b (k / 4))) (h0 : b k = 0) : m_Model_setByte N I F (nI a) (nI k) x = some (updF F 1 (upd (F 1) (a + 1 + k / 4) (nI (w4R (upN b k (byI x)) (k / 4))))) := by
  unfold m_Model_setByte
  have e1 : k / 4 * 4 ≤ k := by omega
  have hw := (w4_lt hb (k / 4)).2
  have hx := byI_lt x
  have hr : k % 4 < 4 := by omega
  have e2 := (w4_set hb (k / 4) (k % 4) (byI x) hr hx (by rw [show 4 * (k / 4) + k % 4 = k by omega]; exact h0)).2
  rw [show 4 * (k / 4) + k % 4 = k by omega] at e2
  have hlt : byI x * 2 ^ (8 * (k % 4)) < 4294967296 := by
    have h1 : 2 ^ (8 * (k % 4)) ≤ 2 ^ 24 := Nat.pow_le_pow_right (by decide) (by omega)
    have h2 := Nat.mul_le_mul (show byI x ≤ 255 by omega) h1
    omega
  simp (disch := omega) only [q_o, q_0, q_1, q_2, q_3, q_4, q_5, q_6, q_7, q_8, q_9, q_10, q_11, q_12, q_13, q_14, q_15, q_16, q_17, q_18, q_19, q_20, q_21, q_22, q_23, q_24, q_25, q_26, q_27, q_28, q_29, q_30, q_31, q_32, q_33, q_34, q_35, q_36, q_37, q_38, q_39, q_40, q_41, q_42, q_43, q_44, q_45, q_46, q_47, q_48, q_49, q_50, q_51, q_52, q_53, q_63, q_64, q_126, q_128, q_255, q_512, q_1024, q_1026, q_2000, q_2048, q_2049, q_4095, q_4096, q_8192, q_16383, q_65535, q_65536, q_69632, q_131072, q_132000, q_262144, q_300000, q_1000000, q_lt_t, q_lt_f, q_le_t, q_le_f, q_eq_t, q_eq_f, q_cl, q_add, q_mul, q_sub, q_nle_f, q_nle_t, q_nlt_f, q_nlt_t, q_neq_f, eq_self, q_n1, q_n2, q_m1, q_m1', q_m2, q_m21, q_m0, q_ml, upd_e, upd_n, updL_e, updL_n, updF_e, updF_n, let_d, tk_s, bind_s, or_false, false_or, and_true, true_and, if_true, if_false, ite_true, ite_false, reduceIte, not_true, not_false_iff, Nat.zero_add, Nat.add_zero, Nat.sub_zero, q_dv, h, d4, byI_and]
  rw [ib_shl _ (by omega), ib_or (by omega) hlt, e2]
/-- a string in the making: the engine's cells c over c0 -/
def sbE (c0 c : Nat → Int64) (u n : Nat) (b : Nat → Nat) : Prop := (∀ a, a < u → c a = c0 a) ∧ c u = lN (n * 8 + 6) ∧ (∀ j, j < (n + 3) / 4 → c (u + 1 + j) = lN (w4 b j)) ∧ (∀ i, b i < 256 ∧ (n ≤ i → b i = 0))
def sbR (F0 F : Nat → Nat → Int32) (u n : Nat) (b : Nat → Nat) : Prop := (∀ a, a < u → F 0 a = F0 0 a ∧ F 1 a = F0 1 a) ∧ F 0 u = nI 6 ∧ F 1 u = nI n ∧ (∀ j, j < (n + 3) / 4 → F 1 (u + 1 + j) = nI (w4R b j)) ∧ (∀ i, b i < 256 ∧ (n ≤ i → b i = 0)) ∧ ∀ j, j ≠ 0 → j ≠ 1 → F j = F0 j
theorem w4_ne {b : Nat → Nat} {k x j : Nat} (h : j ≠ k / 4) : w4 (upN b k x) j = w4 b j ∧ w4R (upN b k x) j = w4R b j := by
  unfold w4 w4R
  rw [upN_n (show 4 * j ≠ k by omega), upN_n (show 4 * j + 1 ≠ k by omega), upN_n (show 4 * j + 2 ≠ k by omega), upN_n (show 4 * j + 3 ≠ k by omega)]
  exact ⟨rfl, rfl⟩
theorem up_ok {b : Nat → Nat} {k x n : Nat} (hb : ∀ i, b i < 256 ∧ (n ≤ i → b i = 0)) (hx : x < 256) (hk : k < n) : ∀ i, upN b k x i < 256 ∧ (n ≤ i → upN b k x i = 0) := by
  intro i
  by_cases e : i = k
  · rw [upN_e e]; exact ⟨hx, fun h => by omega⟩
  · rw [upN_n e]; exact hb i
theorem setB_E {c0 c : Nat → Int64} {u n k nC : Nat} {b : Nat → Nat} {x : Int32} (h : sbE c0 c u n b) (hk : k < n) (hn : n ≤ 65535) (hu : u + 1 + (n + 3) / 4 ≤ nC) (hC : nC ≤ 131072) (h0 : b k = 0) : ∃ c', (∀ (H_globalsUsed : Int32) (H_used : Int32) (H_spareUsed : Int32) (H_old : Int32) (H_oldLeadsToNew : Int32) (H_limit : Int32) (H_every : Int32) (H_fresh : Int32) (H_made : Int32) (H_madeLimit : Int32) (H_reachedFromGlobals : Int32) (H_reachedInAll : Int32) (H_keptGlobalsUsed : Int32) (H_kept : Int32), m_Heap_setByte N H_globalsUsed H_used H_spareUsed H_old H_oldLeadsToNew H_limit H_every H_fresh H_made H_madeLimit H_reachedFromGlobals H_reachedInAll H_keptGlobalsUsed H_kept nC c (nI u) (nI k) x = some c') ∧ sbE c0 c' u n (upN b k (byI x)) := by
  obtain ⟨h1, h2, h3, h4⟩ := h
  have hj : k / 4 < (n + 3) / 4 := by omega
  refine ⟨_, setByte_w (fun i => (h4 i).1) (by omega) (by omega) hC (h3 _ hj) h0, fun a ha => ?_, ?_, fun j hj => ?_, up_ok h4 (byI_lt x) hk⟩
  · rw [updL_n (by omega)]; exact h1 a ha
  · rw [updL_n (by omega)]; exact h2
  · by_cases e : j = k / 4
    · rw [updL_e (by omega), e]
    · rw [updL_n (by omega), (w4_ne e).1]; exact h3 j hj
theorem setB_R {F0 : Nat → Nat → Int32} {u n k : Nat} {b : Nat → Nat} {x : Int32} (h : sbR F0 F u n b) (hk : k < n) (hn : n ≤ 65535) (hu : u + 1 + (n + 3) / 4 ≤ 131072) (h0 : b k = 0) : ∃ F', m_Model_setByte N I F (nI u) (nI k) x = some F' ∧ sbR F0 F' u n (upN b k (byI x)) := by
  obtain ⟨h1, h2, h3, h4, h5, h6⟩ := h
  have hj : k / 4 < (n + 3) / 4 := by omega
  refine ⟨_, setByte_r (fun i => (h5 i).1) (by omega) (by omega) (h4 _ hj) h0, fun a ha => ?_, ?_, ?_, fun j hj => ?_, up_ok h5 (byI_lt x) hk, fun j h0 h1 => ?_⟩
  · rw [updF_n (by omega), updF_e rfl, upd_n (by omega)]; exact h1 a ha
  · rw [updF_n (by omega)]; exact h2
  · rw [updF_e rfl, upd_n (by omega)]; exact h3
  · rw [updF_e rfl]
    by_cases e : j = k / 4
    · rw [upd_e (by omega), e]
    · rw [upd_n (by omega), (w4_ne e).2]; exact h4 j hj
  · rw [updF_n h1]; exact h6 j h0 h1
end BM
