/-! Bytes for a constant: put -/
section PU
variable {N : Nat}
variable {nk : Nat → Nat} {nm : Nat} {nid : Nat} {G : Nat → GO} {lE : List Nat} {gg : Nat → AV} {t : Nat} {gs : Nat → AV} {fr : Nat} {gc : Nat → AV} {hn : Nat} {gb : Nat → Nat} {gf : Nat → Nat} {gr : Nat → Int32} {hF : Nat → Nat} {hH : Nat → Nat} {hP : Nat → Int32} {hD : Nat → Int32} {lR : List Nat} {P_size : Int32} {P_constants : Int32} {P_closed : Int32} {P_open : Int32} {O_size : Int32} {S_top : Int32} {S_frames : Int32} {S_handlers : Int32} {H_globalsUsed : Int32} {H_used : Int32} {H_spareUsed : Int32} {H_old : Int32} {H_oldLeadsToNew : Int32} {H_limit : Int32} {H_every : Int32} {H_fresh : Int32} {H_made : Int32} {H_madeLimit : Int32} {H_reachedFromGlobals : Int32} {H_reachedInAll : Int32} {H_keptGlobalsUsed : Int32} {H_kept : Int32} {B_names : Int32} {Q_size : Int32} {M_status : Int32} {M_place : Int32} {M_next : Int32} {M_fuel : Int32} {M_ticks : Int32} {M_depth : Int32} {M_depthLimit : Int32} {M_done : Int32} {n_P_words : Nat} {f_P_words : Nat → Int32} {n_P_bytes : Nat} {f_P_bytes : Nat → Int32} {n_P_ends : Nat} {f_P_ends : Nat → Int32} {n_O_bytes : Nat} {f_O_bytes : Nat → Int32} {n_S_values : Nat} {f_S_values : Nat → Int64} {n_S_bases : Nat} {f_S_bases : Nat → Int32} {n_S_floors : Nat} {f_S_floors : Nat → Int32} {n_S_returns : Nat} {f_S_returns : Nat → Int32} {n_S_closures : Nat} {f_S_closures : Nat → Int64} {n_S_handlerFrames : Nat} {f_S_handlerFrames : Nat → Int32} {n_S_handlerPlaces : Nat} {f_S_handlerPlaces : Nat → Int32} {n_S_handlerHeights : Nat} {f_S_handlerHeights : Nat → Int32} {n_S_handlerDepths : Nat} {f_S_handlerDepths : Nat → Int32} {n_H_globals : Nat} {f_H_globals : Nat → Int64} {n_H_cells : Nat} {f_H_cells : Nat → Int64} {n_H_spare : Nat} {f_H_spare : Nat → Int64} {n_Q_links : Nat} {f_Q_links : Nat → Int32} {n_Q_pairs : Nat} {f_Q_pairs : Nat → Int64} {I : Nat → Int32} {F : Nat → Nat → Int32}
variable {sz kc pd : Nat} {te : Nat → Nat}
/-- byte k of a long, the engine's way, the reference's way -/
def shL (x : Int64) (k : Nat) : Int64 := (x.toUInt64 >>> ((8 * nI k).toInt64.toUInt64 &&& Int64.toUInt64 63)).toInt64
def shA (x : Int64) (k : Nat) : Int64 := x >>> ((8 * nI k).toInt64 &&& 63)
theorem sh_bits (x : Int64) {k i : Nat} (hk : k < 8) (hi : i < 8) : (shL x k).toBitVec.getLsbD i = x.toBitVec.getLsbD (8 * k + i) ∧ (shA x k).toBitVec.getLsbD i = x.toBitVec.getLsbD (8 * k + i) := by
  have hD : ∀ k, k < 8 → ((((8 * nI k).toInt64 &&& 63).toBitVec.smod 64).toNat = 8 * k) ∧ (((8 * nI k).toInt64.toUInt64 &&& Int64.toUInt64 63).toBitVec % 64).toNat = 8 * k := by decide +kernel
  obtain ⟨h1, h2⟩ := hD k hk
  constructor
  · have e : (shL x k).toBitVec.getLsbD i = (x.toBitVec >>> (((8 * nI k).toInt64.toUInt64 &&& Int64.toUInt64 63).toBitVec % 64).toNat).getLsbD i := rfl
    rw [e, h2, BitVec.getLsbD_ushiftRight]
  · have e : (shA x k).toBitVec.getLsbD i = (x.toBitVec.sshiftRight (((8 * nI k).toInt64 &&& 63).toBitVec.smod 64).toNat).getLsbD i := rfl
    rw [e, h1, BitVec.getLsbD_sshiftRight, if_pos (by omega), decide_eq_false (by omega)]
    rfl
theorem sh_and (x : Int64) {k : Nat} (hk : k < 8) : shL x k &&& 255 = shA x k &&& 255 := by
  apply Int64.toBitVec_inj.mp
  rw [Int64.toBitVec_and, Int64.toBitVec_and]
  apply BitVec.eq_of_getLsbD_eq
  intro i hi
  rw [BitVec.getLsbD_and, BitVec.getLsbD_and]
  by_cases h8 : i < 8
  · rw [(sh_bits x hk h8).1, (sh_bits x hk h8).2]
  · have h255 : ∀ i, i < 64 → ¬ i < 8 → (255 : Int64).toBitVec.getLsbD i = false := by decide +kernel
    rw [h255 i hi h8, Bool.and_false, Bool.and_false]
theorem sh_8 (x : Int64) {k : Nat} (hk : k < 8) : (shL x k).toInt32.toInt8 = (shA x k).toInt32.toInt8 := by
  apply Int8.toBitVec_inj.mp
  apply BitVec.eq_of_getLsbD_eq
  intro i hi
  have e : ∀ y : Int64, y.toInt32.toInt8.toBitVec.getLsbD i = y.toBitVec.getLsbD i := by
    intro y
    show ((y.toBitVec.signExtend 32).signExtend 8).getLsbD i = _
    rw [BitVec.getLsbD_signExtend, BitVec.getLsbD_signExtend, decide_eq_true (by omega), decide_eq_true (by omega), if_pos (by omega), if_pos (by omega)]
    rfl
  rw [e, e, (sh_bits x hk hi).1, (sh_bits x hk hi).2]
/-- how many bytes stand before a zero -/
theorem before0 (x : Int64) : ∀ (m i : Nat), i ≤ 8 → 9 - i < m → ∃ n, i ≤ n ∧ n ≤ 8 ∧ lm_Program_bytesBeforeZero_1 N x (fun (v1_3 : Int32) => some (8 : Int32)) (fun (v1_3 : Int32) => some v1_3) m (nI i) = some (nI n) ∧ ∀ (ζ : Type) (k : Int32 → Option ζ), lm_Model_put_1 N x k m (nI i) = k (nI n)
  | 0, i, _, h => absurd h (Nat.not_lt_zero _)
  | m + 1, i, hi, hm => by
    by_cases q : i = 8
    · subst q
      refine ⟨8, Nat.le_refl _, Nat.le_refl _, ?_, fun ζ k => ?_⟩
      · rw [lm_Program_bytesBeforeZero_1, if_pos (by decide)]
        rfl
      · rw [lm_Model_put_1, if_pos (by decide)]
    · have e8 : ¬ (8 : Int32) ≤ nI i := by rw [show (8 : Int32) = nI 8 from rfl, q_le_f (by omega) (by omega)]; exact id
      have hand := sh_and x (k := i) (by omega)
      by_cases hz : lg_cmp (shL x i &&& 255) 0 = 0
      · refine ⟨i, Nat.le_refl _, hi, ?_, fun ζ k => ?_⟩
        · rw [lm_Program_bytesBeforeZero_1, if_neg e8, let_d]
          exact if_pos hz
        · rw [lm_Model_put_1, if_neg e8]
          exact if_pos (by rw [hand] at hz; exact hz)
      · obtain ⟨n, h1, h2, h3, h4⟩ := before0 x m (i + 1) (by omega) (by omega)
        refine ⟨n, by omega, h2, ?_, fun ζ k => ?_⟩
        · rw [lm_Program_bytesBeforeZero_1, if_neg e8, let_d, nI_1]
          exact (if_neg hz).trans h3
        · rw [lm_Model_put_1, if_neg e8, nI_1]
          exact (if_neg (by rw [hand] at hz; exact hz)).trans (h4 ζ k)
theorem copyB_E2 {n m : Nat} {f : Nat → Int32} (h : n < m) (hm : m ≤ 69632) (hf : ∀ k, k < n → fits .byte (.int (f k)) = true) : m_Arrays_copyOfB N n f (nI m) = some ((m, va_cpy f (fun _ => 0) 0 0 n), 1, m) := by
  unfold m_Arrays_copyOfB m_Math_min
  have hfn : ∀ i, i < n → fits .byte (.int (f (0 + i))) = true := fun i hi => by rw [Nat.zero_add]; exact hf i hi
  have hfn' : (¬ ∀ i, i < n → fits .byte (.int (f (0 + i))) = true) = False := eq_false (fun h => h hfn)
  simp (disch := omega) only [q_o, q_0, q_1, q_2, q_3, q_4, q_5, q_6, q_7, q_8, q_9, q_10, q_11, q_12, q_13, q_14, q_15, q_16, q_17, q_18, q_19, q_20, q_21, q_22, q_23, q_24, q_25, q_26, q_27, q_28, q_29, q_30, q_31, q_32, q_33, q_34, q_35, q_36, q_37, q_38, q_39, q_40, q_41, q_42, q_43, q_44, q_45, q_46, q_47, q_48, q_49, q_50, q_51, q_52, q_53, q_63, q_64, q_126, q_128, q_255, q_512, q_1024, q_1026, q_2000, q_2048, q_2049, q_4095, q_4096, q_8192, q_16383, q_65535, q_65536, q_69632, q_131072, q_132000, q_262144, q_300000, q_1000000, q_lt_t, q_lt_f, q_le_t, q_le_f, q_eq_t, q_eq_f, q_cl, q_add, q_mul, q_sub, q_nle_f, q_nle_t, q_nlt_f, q_nlt_t, q_neq_f, eq_self, q_n1, q_n2, q_m1, q_m1', q_m2, q_m21, q_m0, q_ml, upd_e, upd_n, updL_e, updL_n, updF_e, updF_n, let_d, tk_s, bind_s, or_false, false_or, and_true, true_and, if_true, if_false, ite_true, ite_false, reduceIte, not_true, not_false_iff, Nat.zero_add, Nat.add_zero, Nat.sub_zero, hfn']
  rw [if_neg (fun h => h hf), tk_s, Nat.zero_add, Nat.zero_add]
def pB (x : Int64) (k : Nat) : Int32 := vp_nar .byte (shL x k).toInt32.toInt8.toInt32
theorem addB1 {x : Int64} {c pd n nB : Nat} (hn6 : n ≤ 8) (hr : c + pd + n ≤ nB) (hB : nB ≤ 69632) : ∀ (m i : Nat) (f : Nat → Int32), i ≤ n → n - i < m → (∀ k, k < nB → fits .byte (.int (f k)) = true) → ∃ f', (∀ (α : Type) (k : Int32 → (Nat → Int32) → Option (α × Nat × Nat)), lm_Program_addBytes_1 N (nI c) (nI pd) nB x (nI n) k m (nI i) f = k (nI n) f') ∧ (∀ j, j < c + pd + i → f' j = f j) ∧ (∀ j, i ≤ j → j < n → f' (c + pd + j) = pB x j) ∧ (∀ k, k < nB → fits .byte (.int (f' k)) = true)
  | 0, i, f, _, h, _ => absurd h (Nat.not_lt_zero _)
  | m + 1, i, f, hi, hm, hf => by
    by_cases q : i = n
    · subst q
      refine ⟨f, fun α k => ?_, fun _ _ => rfl, fun j h1 h2 => by omega, hf⟩
      rw [lm_Program_addBytes_1, if_pos Int32.le_rfl]
    · obtain ⟨f', d1, d2, d3, d4⟩ := addB1 (x := x) hn6 hr hB m (i + 1) (upd f (c + pd + i) (pB x i)) (by omega) (by omega) (fun k hk => by
        by_cases e : k = c + pd + i
        · rw [upd_e e]; exact fit_b _
        · rw [upd_n e]; exact hf k hk)
      refine ⟨f', fun α k => ?_, fun j hj => by rw [d2 j (by omega), upd_n (by omega)], fun j h1 h2 => ?_, d4⟩
      · rw [lm_Program_addBytes_1, if_neg (show ¬ nI n ≤ nI i by rw [q_le_f (by omega) (by omega)]; exact id), let_d, q_add, q_add, if_neg (bd_n (by omega) (by omega)), let_d, q_cl (by omega), nI_1]
        exact d1 α k
      · by_cases e : j = i
        · rw [e, d2 _ (by omega), upd_e rfl]
        · exact d3 j (by omega) h2
theorem addB2 {x : Int64} {c pd n nB : Nat} (hn6 : n ≤ 8) (hr : c + pd + n ≤ nB) (hB : nB ≤ 69632) : ∀ (m i : Nat) (f : Nat → Int32), i ≤ n → n - i < m → (∀ k, k < nB → fits .byte (.int (f k)) = true) → ∃ f', (∀ (α : Type) (k : Int32 → (Nat → Int32) → Option (α × Nat × Nat)), lm_Program_addBytes_2 N (nI c) (nI pd) x (nI n) nB k m (nI i) f = k (nI n) f') ∧ (∀ j, j < c + pd + i → f' j = f j) ∧ (∀ j, i ≤ j → j < n → f' (c + pd + j) = pB x j) ∧ (∀ k, k < nB → fits .byte (.int (f' k)) = true)
  | 0, i, f, _, h, _ => absurd h (Nat.not_lt_zero _)
  | m + 1, i, f, hi, hm, hf => by
    by_cases q : i = n
    · subst q
      refine ⟨f, fun α k => ?_, fun _ _ => rfl, fun j h1 h2 => by omega, hf⟩
      rw [lm_Program_addBytes_2, if_pos Int32.le_rfl]
    · obtain ⟨f', d1, d2, d3, d4⟩ := addB2 (x := x) hn6 hr hB m (i + 1) (upd f (c + pd + i) (pB x i)) (by omega) (by omega) (fun k hk => by
        by_cases e : k = c + pd + i
        · rw [upd_e e]; exact fit_b _
        · rw [upd_n e]; exact hf k hk)
      refine ⟨f', fun α k => ?_, fun j hj => by rw [d2 j (by omega), upd_n (by omega)], fun j h1 h2 => ?_, d4⟩
      · rw [lm_Program_addBytes_2, if_neg (show ¬ nI n ≤ nI i by rw [q_le_f (by omega) (by omega)]; exact id), let_d, q_add, q_add, if_neg (bd_n (by omega) (by omega)), let_d, q_cl (by omega), nI_1]
        exact d1 α k
      · by_cases e : j = i
        · rw [e, d2 _ (by omega), upd_e rfl]
        · exact d3 j (by omega) h2
theorem putR {x : Int64} {n c : Nat} (hn6 : n ≤ 8) (hkc : kc ≤ 1024) (hc : c + pd + n ≤ 69632) :
    ∀ (m i : Nat) (C : Nat → Nat → Int32) (J : Nat → Int32), i ≤ n → n - i < m → J 18 = nI kc → J 19 = nI (pd + i) → C 17 kc = nI c → ∃ (C' : Nat → Nat → Int32) (J' : Nat → Int32), (∀ (ζ : Type) (k : Int32 → (Nat → Nat → Int32) → (Nat → Int32) → Option ζ), lm_Model_put_2 N x (nI n) k m (nI i) C J = k (nI n) C' J') ∧ J' 19 = nI (pd + n) ∧ (∀ j, j ≠ 19 → J' j = J j) ∧ (∀ j, j ≠ 16 → C' j = C j) ∧ (∀ j, j < c + pd + i → C' 16 j = C 16 j) ∧ (∀ j, i ≤ j → j < n → C' 16 (c + pd + j) = pB x j)
  | 0, i, C, J, _, h, _, _, _ => absurd h (Nat.not_lt_zero _)
  | m + 1, i, C, J, hi, hm, h18, h19, h17 => by
    by_cases q : i = n
    · subst q
      refine ⟨C, J, fun ζ k => ?_, h19, fun _ _ => rfl, fun _ _ => rfl, fun _ _ => rfl, fun j h1 h2 => by omega⟩
      rw [lm_Model_put_2, if_pos Int32.le_rfl]
    · have hb : vp_nar .byte (shA x i).toInt32.toInt8.toInt32 = pB x i := by unfold pB; rw [sh_8 x (by omega)]
      obtain ⟨C', J', d1, d2, d3, d4, d5, d6⟩ := putR (x := x) hn6 hkc hc m (i + 1) (updF C 16 (upd (C 16) (c + pd + i) (pB x i))) (upd J 19 (nI (pd + (i + 1)))) (by omega) (by omega) (by rw [upd_n (by omega)]; exact h18) (upd_e rfl) (by rw [updF_n (by omega)]; exact h17)
      refine ⟨C', J', fun ζ k => ?_, d2, fun j hj => by rw [d3 j hj, upd_n hj], fun j hj => by rw [d4 j hj, updF_n hj], fun j hj => by rw [d5 j (by omega), updF_e rfl, upd_n (by omega)], fun j h1 h2 => ?_⟩
      · have z1 : ¬ (nI kc < 0 ∨ 1026 ≤ (nI kc).toNatClampNeg) := bd_n (by omega) (by omega)
        rw [lm_Model_put_2, if_neg (show ¬ nI n ≤ nI i by rw [q_le_f (by omega) (by omega)]; exact id), h18, if_neg z1, q_cl (by omega), h17, h19, q_add, show c + (pd + i) = c + pd + i by omega, if_neg (bd_n (by omega) (by omega)), let_d, let_d, q_cl (by omega), nI_1, nI_1, show vp_nar .byte (x >>> ((8 * nI i).toInt64 &&& 63)).toInt32.toInt8.toInt32 = pB x i from hb]
        exact d1 ζ k
      · by_cases e : j = i
        · rw [e, d5 _ (by omega), updF_e rfl, upd_e rfl]
        · exact d6 j (by omega) h2
theorem put_ER {x : Int64} (hN : 400000 ≤ N) (hpg : pgR sz kc pd te P_size P_constants P_closed P_open n_P_words f_P_words n_P_bytes f_P_bytes n_P_ends f_P_ends I F) (hfb : ∀ k, k < n_P_bytes → fits .byte (.int (f_P_bytes k)) = true) : ∃ (r : Int32) (pd' nB' : Nat) (fB' : Nat → Int32) (cc ss : Nat) (F' : Nat → Nat → Int32) (I' : Nat → Int32), m_Engine_put N P_size P_constants P_closed P_open n_P_bytes f_P_bytes x = some ((r, nI pd', nB', fB'), cc, ss) ∧ m_Model_put N I F x = some (r, F', I') ∧ pgR sz kc pd' te P_size P_constants P_closed (nI pd') n_P_words f_P_words nB' fB' n_P_ends f_P_ends I' F' ∧ (∀ k, k < nB' → fits .byte (.int (fB' k)) = true) ∧ (∀ j, j ≠ 19 → I' j = I j) ∧ (∀ j, j ≠ 16 → F' j = F j) ∧ ss + 150 * cc + pot 69632 n_P_bytes ≤ pot 69632 nB' := by
  have hpg' := hpg
  obtain ⟨hb, ⟨c1, c2, c3, c4, c5, c6, c7, c8⟩, ⟨d1, d2, d3, d4, d5, d6, d7, d8, d9, d10, d11⟩⟩ := hpg'
  obtain ⟨n, h1, h2, h3, h4⟩ := before0 (N := N) x N 0 (by omega) (by omega)
  have h3 : m_Program_bytesBeforeZero N P_size P_constants P_closed P_open x = some (nI n) := h3
  by_cases hf : pd + n ≤ 4096
  · have l1 : nI pd + nI n ≤ 4096 := by rw [q_add, show (4096 : Int32) = nI 4096 from rfl, q_le_t (by omega) (by omega)]; exact True.intro
    obtain ⟨C', J', e1, e2, e3, e4, e5, e6⟩ := putR (N := N) (kc := kc) (pd := pd) (x := x) (n := n) (c := te kc) h2 c3 (by omega) N 0 F I (by omega) (by omega) c2 (by rw [Nat.add_zero]; exact d3) (c7 kc (by omega))
    have hR : m_Model_put N I F x = some (nI (pd + n), C', J') := by
      unfold m_Model_put
      rw [show lm_Model_put_1 N x _ N 0 = _ from h4 _ _, d3, if_pos l1, show lm_Model_put_2 N x (nI n) _ N 0 F I = _ from e1 _ _, e2]
    have key : ∀ (nB' : Nat) (f0 fB' : Nat → Int32), te kc + pd + n ≤ nB' → 64 ≤ nB' → nB' ≤ 69632 → (∀ j, j < te kc + pd → f0 j = f_P_bytes j) → (∀ j, j < te kc + pd + 0 → fB' j = f0 j) → (∀ j, 0 ≤ j → j < n → fB' (te kc + pd + j) = pB x j) → pgR sz kc (pd + n) te P_size P_constants P_closed (nI (pd + n)) n_P_words f_P_words nB' fB' n_P_ends f_P_ends J' C' := by
      intro nB' f0 fB' k1 k2 k3 k4 k5 k6
      refine ⟨?_, ⟨c1, ?_, c3, c4, c5, c6, ?_, c8⟩, ⟨d1, rfl, e2, hf, d5, d6, d7, by omega, k2, k3, fun j hj => ?_⟩⟩
      · rw [e3 15 (by omega), e4 14 (by omega)]; exact hb
      · rw [e3 18 (by omega)]; exact c2
      · rw [e4 17 (by omega)]; exact c7
      · by_cases hjl : j < te kc + pd
        · rw [k5 j (by omega), k4 j hjl, e5 j (by omega)]; exact d11 j hjl
        · have q1 := k6 (j - (te kc + pd)) (by omega) (by omega)
          have q2 := e6 (j - (te kc + pd)) (by omega) (by omega)
          rw [show te kc + pd + (j - (te kc + pd)) = j by omega] at q1 q2
          rw [q1, q2]
    by_cases hr : te kc + pd + n ≤ n_P_bytes
    · obtain ⟨f', g1, g2, g3, g4⟩ := addB1 (N := N) (x := x) h2 hr d10 N 0 f_P_bytes (by omega) (by omega) hfb
      refine ⟨nI (pd + n), pd + n, n_P_bytes, f', 0, 0, C', J', ?_, hR, key n_P_bytes f_P_bytes f' hr d9 d10 (fun _ _ => rfl) g2 g3, g4, e3, e4, by omega⟩
      unfold m_Engine_put m_Program_addBytes
      rw [h3, bind_s, d1, d2, if_pos l1, q_add, q_add, q_add, q_o, if_pos (show nI (te kc + pd + n) ≤ nI n_P_bytes by rw [q_le_t (by omega) (by omega)]; exact True.intro), show lm_Program_addBytes_1 N (nI (te kc)) (nI pd) n_P_bytes x (nI n) _ N 0 f_P_bytes = _ from g1 _ _, bind_s]
      dsimp only
      rw [tk_s]
    · have hl := longer_E (N := N) (n := n_P_bytes) (need := te kc + pd + n) (m := 69632) (by omega) (by omega) (by omega)
      have hM : n_P_bytes < min 69632 (max (te kc + pd + n) (2 * n_P_bytes)) := by omega
      have hp := pot_new (n := n_P_bytes) (m := 69632) (k := min 69632 (max (te kc + pd + n) (2 * n_P_bytes))) (by omega) (by omega)
      have hcp := copyB_E2 (N := N) (f := f_P_bytes) hM (by omega) hfb
      have hfb2 : ∀ k, k < min 69632 (max (te kc + pd + n) (2 * n_P_bytes)) → fits .byte (.int (va_cpy f_P_bytes (fun _ => 0) 0 0 n_P_bytes k)) = true := by
        intro k hk
        by_cases hk2 : k < n_P_bytes
        · rw [cpy_lt hk2]; exact hfb k hk2
        · unfold va_cpy
          rw [if_neg (by omega)]
          rfl
      obtain ⟨f', g1, g2, g3, g4⟩ := addB2 (N := N) (x := x) (c := te kc) (pd := pd) (nB := min 69632 (max (te kc + pd + n) (2 * n_P_bytes))) h2 (by omega) (by omega) N 0 (va_cpy f_P_bytes (fun _ => 0) 0 0 n_P_bytes) (by omega) (by omega) hfb2
      refine ⟨nI (pd + n), pd + n, min 69632 (max (te kc + pd + n) (2 * n_P_bytes)), f', 1, min 69632 (max (te kc + pd + n) (2 * n_P_bytes)), C', J', ?_, hR, key _ (va_cpy f_P_bytes (fun _ => 0) 0 0 n_P_bytes) f' (by omega) (by omega) (by omega) (fun j hj => cpy_lt (by omega)) g2 g3, g4, e3, e4, by omega⟩
      unfold m_Engine_put m_Program_addBytes
      rw [h3, bind_s, d1, d2, if_pos l1, q_add, q_add, q_add, q_o, if_neg (show ¬ nI (te kc + pd + n) ≤ nI n_P_bytes by rw [q_le_f (by omega) (by omega)]; exact id), show m_Engine_longer N (nI n_P_bytes) (nI (te kc + pd + n)) 69632 = _ from hl, bind_s, hcp, bind_s]
      dsimp only
      rw [show lm_Program_addBytes_2 N (nI (te kc)) (nI pd) x (nI n) _ _ N 0 _ = _ from g1 _ _, tk_s, bind_s]
      dsimp only
      rw [tk_s, Nat.zero_add, Nat.zero_add, Nat.zero_add, Nat.zero_add]
  · have l1 : ¬ nI pd + nI n ≤ 4096 := by rw [q_add, show (4096 : Int32) = nI 4096 from rfl, q_le_f (by omega) (by omega)]; exact id
    refine ⟨-2, pd, n_P_bytes, f_P_bytes, 0, 0, F, I, ?_, ?_, by rw [← d2]; exact hpg, hfb, fun _ _ => rfl, fun _ _ => rfl, by omega⟩
    · unfold m_Engine_put m_Program_addBytes
      rw [h3, bind_s, d2, if_neg l1, bind_s]
      dsimp only
      rw [tk_s]
    · unfold m_Model_put
      rw [show lm_Model_put_1 N x _ N 0 = _ from h4 _ _, d3, if_neg l1]
end PU
