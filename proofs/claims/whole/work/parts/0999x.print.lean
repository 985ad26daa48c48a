/-! Primitive 37: a string is printed -/
section PT
variable {N : Nat}
variable {nk : Nat → Nat} {nm : Nat} {nid : Nat} {G : Nat → GO} {lE : List Nat} {gg : Nat → AV} {t : Nat} {gs : Nat → AV} {fr : Nat} {gc : Nat → AV} {hn : Nat} {gb : Nat → Nat} {gf : Nat → Nat} {gr : Nat → Int32} {hF : Nat → Nat} {hH : Nat → Nat} {hP : Nat → Int32} {hD : Nat → Int32} {lR : List Nat} {P_size : Int32} {P_constants : Int32} {P_closed : Int32} {P_open : Int32} {O_size : Int32} {S_top : Int32} {S_frames : Int32} {S_handlers : Int32} {H_globalsUsed : Int32} {H_used : Int32} {H_spareUsed : Int32} {H_old : Int32} {H_oldLeadsToNew : Int32} {H_limit : Int32} {H_every : Int32} {H_fresh : Int32} {H_made : Int32} {H_madeLimit : Int32} {H_reachedFromGlobals : Int32} {H_reachedInAll : Int32} {H_keptGlobalsUsed : Int32} {H_kept : Int32} {B_names : Int32} {Q_size : Int32} {M_status : Int32} {M_place : Int32} {M_next : Int32} {M_fuel : Int32} {M_ticks : Int32} {M_depth : Int32} {M_depthLimit : Int32} {M_done : Int32} {n_P_words : Nat} {f_P_words : Nat → Int32} {n_P_bytes : Nat} {f_P_bytes : Nat → Int32} {n_P_ends : Nat} {f_P_ends : Nat → Int32} {n_O_bytes : Nat} {f_O_bytes : Nat → Int32} {n_S_values : Nat} {f_S_values : Nat → Int64} {n_S_bases : Nat} {f_S_bases : Nat → Int32} {n_S_floors : Nat} {f_S_floors : Nat → Int32} {n_S_returns : Nat} {f_S_returns : Nat → Int32} {n_S_closures : Nat} {f_S_closures : Nat → Int64} {n_S_handlerFrames : Nat} {f_S_handlerFrames : Nat → Int32} {n_S_handlerPlaces : Nat} {f_S_handlerPlaces : Nat → Int32} {n_S_handlerHeights : Nat} {f_S_handlerHeights : Nat → Int32} {n_S_handlerDepths : Nat} {f_S_handlerDepths : Nat → Int32} {n_H_globals : Nat} {f_H_globals : Nat → Int64} {n_H_cells : Nat} {f_H_cells : Nat → Int64} {n_H_spare : Nat} {f_H_spare : Nat → Int64} {n_Q_links : Nat} {f_Q_links : Nat → Int32} {n_Q_pairs : Nat} {f_Q_pairs : Nat → Int64} {I : Nat → Int32} {F : Nat → Nat → Int32}
theorem fit_b (x : Int32) : fits .byte (.int (vp_nar .byte x)) = true := by
  rw [vp_nar_byte]
  have h1 : (-128 : Int32) ≤ x.toInt8.toInt32 := by
    rw [Int32.le_iff_toInt_le, Int8.toInt_toInt32, show (-128 : Int32).toInt = -128 by decide]
    have := Int8.le_toInt x.toInt8
    omega
  have h2 : x.toInt8.toInt32 ≤ (127 : Int32) := by
    rw [Int32.le_iff_toInt_le, Int8.toInt_toInt32, show (127 : Int32).toInt = 127 by decide]
    have := Int8.toInt_lt x.toInt8
    omega
  show (decide (-128 ≤ x.toInt8.toInt32) && decide (x.toInt8.toInt32 ≤ 127)) = true
  rw [decide_eq_true h1, decide_eq_true h2]
  rfl
/-- a byte as the output keeps it -/
def outB (b : Nat) : Int32 := vp_nar .byte (nI b).toInt8.toInt32
theorem copyB_E {n m : Nat} {f : Nat → Int32} (h : n < m) (hm : m ≤ 65536) (hf : ∀ k, k < n → fits .byte (.int (f k)) = true) : m_Arrays_copyOfB N n f (nI m) = some ((m, va_cpy f (fun _ => 0) 0 0 n), 1, m) := by
  unfold m_Arrays_copyOfB m_Math_min
  have hfn : ∀ i, i < n → fits .byte (.int (f (0 + i))) = true := fun i hi => by rw [Nat.zero_add]; exact hf i hi
  have hfn' : (¬ ∀ i, i < n → fits .byte (.int (f (0 + i))) = true) = False := eq_false (fun h => h hfn)
  simp (disch := omega) only [q_o, q_0, q_1, q_2, q_3, q_4, q_5, q_6, q_7, q_8, q_9, q_10, q_11, q_12, q_13, q_14, q_15, q_16, q_17, q_18, q_19, q_20, q_21, q_22, q_23, q_24, q_25, q_26, q_27, q_28, q_29, q_30, q_31, q_32, q_33, q_34, q_35, q_36, q_37, q_38, q_39, q_40, q_41, q_42, q_43, q_44, q_45, q_46, q_47, q_48, q_49, q_50, q_51, q_52, q_53, q_63, q_64, q_126, q_128, q_255, q_512, q_1024, q_1026, q_2000, q_2048, q_2049, q_4095, q_4096, q_8192, q_16383, q_65535, q_65536, q_69632, q_131072, q_132000, q_262144, q_300000, q_1000000, q_lt_t, q_lt_f, q_le_t, q_le_f, q_eq_t, q_eq_f, q_cl, q_add, q_mul, q_sub, q_nle_f, q_nle_t, q_nlt_f, q_nlt_t, q_neq_f, eq_self, q_n1, q_n2, q_m1, q_m1', q_m2, q_m21, q_m0, q_ml, upd_e, upd_n, updL_e, updL_n, updF_e, updF_n, let_d, tk_s, bind_s, or_false, false_or, and_true, true_and, if_true, if_false, ite_true, ite_false, reduceIte, not_true, not_false_iff, Nat.zero_add, Nat.add_zero, Nat.sub_zero, hfn']
  rw [if_neg (fun h => h hf), tk_s, Nat.zero_add, Nat.zero_add]
theorem accept_E {w n nO : Nat} {fO : Nat → Int32} (hw : w ≤ nO) (h64 : 64 ≤ nO) (hO : nO ≤ 65536) (hn6 : n ≤ 65535) (hf : ∀ k, k < nO → fits .byte (.int (fO k)) = true) : ∃ (nO' : Nat) (fO' : Nat → Int32) (cc ss : Nat), m_Output_accept N (nI w) nO fO (nI n) = some ((nI (min n (65536 - w)), nO', fO'), cc, ss) ∧ w + min n (65536 - w) ≤ nO' ∧ 64 ≤ nO' ∧ nO' ≤ 65536 ∧ (∀ k, k < nO' → fits .byte (.int (fO' k)) = true) ∧ (∀ k, k < w → fO' k = fO k) ∧ ss + 150 * cc + pot 65536 nO ≤ pot 65536 nO' := by
  have hmin : m_Math_min N (nI n) (65536 - nI w) = some (nI (min n (65536 - w))) := by
    unfold m_Math_min
    rw [show (65536 : Int32) = nI 65536 from rfl, q_sub (by omega)]
    by_cases h : 65536 - w < n
    · rw [if_pos (by rw [q_lt_t (by omega) (by omega)]; exact True.intro), Nat.min_eq_right (by omega)]
    · rw [if_neg (by rw [q_lt_f (by omega) (by omega)]; exact id), Nat.min_eq_left (by omega)]
  by_cases h : w + min n (65536 - w) ≤ nO
  · refine ⟨nO, fO, 0, 0, ?_, h, h64, hO, hf, fun _ _ => rfl, by omega⟩
    unfold m_Output_accept
    rw [hmin, bind_s, q_add, q_o, if_pos (show nI (w + min n (65536 - w)) ≤ nI nO by rw [q_le_t (by omega) (by omega)]; exact True.intro)]
  · have hl := longer_E (N := N) (n := nO) (need := w + min n (65536 - w)) (m := 65536) (by omega) (by omega) (by omega)
    have hM : nO < min 65536 (max (w + min n (65536 - w)) (2 * nO)) := by omega
    have hp := pot_new (n := nO) (m := 65536) (k := min 65536 (max (w + min n (65536 - w)) (2 * nO))) (by omega) (by omega)
    have hc := copyB_E (N := N) (f := fO) hM (by omega) hf
    refine ⟨min 65536 (max (w + min n (65536 - w)) (2 * nO)), va_cpy fO (fun _ => 0) 0 0 nO, 1, min 65536 (max (w + min n (65536 - w)) (2 * nO)), ?_, by omega, by omega, by omega, fun k hk => ?_, fun k hk => cpy_lt (by omega), by omega⟩
    · unfold m_Output_accept
      rw [hmin, bind_s, q_add, q_o, if_neg (show ¬ nI (w + min n (65536 - w)) ≤ nI nO by rw [q_le_f (by omega) (by omega)]; exact id), show m_Engine_longer N (nI nO) (nI (w + min n (65536 - w))) 65536 = _ from hl, bind_s, hc, bind_s]
      dsimp only
      rw [tk_s, Nat.zero_add, Nat.zero_add]
    · by_cases hk2 : k < nO
      · rw [cpy_lt hk2]; exact hf k hk2
      · unfold va_cpy
        rw [if_neg (by omega)]
        rfl
theorem print1 {o n w nO kp : Nat} {f0 : Nat → Int32} (he : eR nk nm nid G lE gg t gs fr gc hn gb gf gr hF hH hP hD S_top S_frames S_handlers n_S_values f_S_values n_S_bases f_S_bases n_S_floors f_S_floors n_S_returns f_S_returns n_S_closures f_S_closures n_S_handlerFrames f_S_handlerFrames n_S_handlerPlaces f_S_handlerPlaces n_S_handlerHeights f_S_handlerHeights n_S_handlerDepths f_S_handlerDepths H_globalsUsed H_used H_old H_oldLeadsToNew f_H_globals n_H_cells f_H_cells n_H_spare) (ho : o ∈ lE) (hK : gK G o = 6) (hkp : kp ≤ gC G o) (hw : w + kp ≤ nO) (hO : nO ≤ 65536) :
    ∀ (m i : Nat) (f : Nat → Int32), i ≤ kp → kp - i < m → (∀ j, j < w → f j = f0 j) → (∀ j, j < i → f (w + j) = outB (gB G o j)) → (∀ k, k < nO → fits .byte (.int (f k)) = true) →
      ∃ f', (∀ (α : Type) (k : Int32 → (Nat → Int32) → Int32 → Option (α × Nat × Nat)), ∀ (H_globalsUsed : Int32) (H_used : Int32) (H_spareUsed : Int32) (H_old : Int32) (H_oldLeadsToNew : Int32) (H_limit : Int32) (H_every : Int32) (H_fresh : Int32) (H_made : Int32) (H_madeLimit : Int32) (H_reachedFromGlobals : Int32) (H_reachedInAll : Int32) (H_keptGlobalsUsed : Int32) (H_kept : Int32), lm_Strings_print_1 N H_globalsUsed H_used H_spareUsed H_old H_oldLeadsToNew H_limit H_every H_fresh H_made H_madeLimit H_reachedFromGlobals H_reachedInAll H_keptGlobalsUsed H_kept n_H_cells f_H_cells (nI (adr (gZ G) lE o)) (nI kp) nO k m (nI i) f (nI (w + i)) = k (nI kp) f' (nI (w + kp))) ∧ (∀ j, j < w → f' j = f0 j) ∧ (∀ j, j < kp → f' (w + j) = outB (gB G o j)) ∧ (∀ k, k < nO → fits .byte (.int (f' k)) = true)
  | 0, i, f, _, h, _, _, _ => absurd h (Nat.not_lt_zero _)
  | m + 1, i, f, hi, h, h1, h2, h3 => by
    by_cases q : i = kp
    · subst q
      refine ⟨f, fun α k => ?_, h1, h2, h3⟩
      intros
      rw [lm_Strings_print_1, if_pos Int32.le_rfl]
    · obtain ⟨hG, hT, hC, hH', hnn⟩ := eR_hp he
      have O1 := str_ok (hG.2 o ho).2.1 hK
      have hend := adr_end (Z := gZ G) ho
      have hz : gZ G o = 1 + (gC G o + 3) / 4 := by unfold gZ; rw [if_pos hK]
      have g1 := byteAt_w (N := N) (k := i) O1.2.1 (by omega) (by omega) hC ((hH' o ho).2.2 hK _ (by omega))
      have ha : m_Output_add N (nI (w + i)) nO f (nI (gB G o i)) = some (upd f (w + i) (outB (gB G o i)), nI (w + (i + 1))) := by
        unfold m_Output_add
        rw [q_o, if_neg (show ¬ nI nO ≤ nI (w + i) by rw [q_le_f (by omega) (by omega)]; exact id), if_neg (bd_n (by omega) (by omega)), q_cl (by omega), nI_1, Nat.add_assoc]
        rfl
      obtain ⟨f', d1, d2, d3, d4⟩ := print1 (f0 := f0) (n := n) he ho hK hkp hw hO m (i + 1) (upd f (w + i) (outB (gB G o i))) (by omega) (by omega) (fun j hj => by rw [upd_n (by omega)]; exact h1 j hj) (fun j hj => by
        by_cases e : j = i
        · rw [upd_e (by omega), e]
        · rw [upd_n (by omega)]; exact h2 j (by omega)) (fun k hk => by
        by_cases e : k = w + i
        · rw [upd_e e]; exact fit_b _
        · rw [upd_n e]; exact h3 k hk)
      refine ⟨f', fun α k => ?_, d2, d3, d4⟩
      intros
      rw [lm_Strings_print_1, if_neg (by rw [q_le_f (by omega) (by omega)]; exact id), g1, bind_s, ha, bind_s]
      dsimp only
      rw [nI_1]
      exact d1 α k ..
theorem print1R {o n w : Nat} (hr : rR nk nm nid G lR gg t gs fr gc hn gb gf gr hF hH hP hD I F) (ho : o ∈ lR) (hK : gK G o = 6) (hn6 : gC G o = n) (hw : w ≤ 65536) :
    ∀ (m i : Nat) (J : Nat → Int32) (C : Nat → Nat → Int32), i ≤ n → n - i < m → J 42 = nI (w + min i (65536 - w)) → (∀ j, j ≠ 42 → J j = I j) → (∀ j, j ≠ 41 → C j = F j) → (∀ j, j < w → C 41 j = F 41 j) → (∀ j, j < min i (65536 - w) → C 41 (w + j) = outB (gB G o j)) →
      ∃ (J' : Nat → Int32) (C' : Nat → Nat → Int32), (∀ (ζ : Type) (k : Int32 → (Nat → Nat → Int32) → (Nat → Int32) → Option ζ), lm_Model_print_1 N (nI (adr (gZ G) lR o)) k m (nI i) C J = k (nI n) C' J') ∧ J' 42 = nI (w + min n (65536 - w)) ∧ (∀ j, j ≠ 42 → J' j = I j) ∧ (∀ j, j ≠ 41 → C' j = F j) ∧ (∀ j, j < w → C' 41 j = F 41 j) ∧ (∀ j, j < min n (65536 - w) → C' 41 (w + j) = outB (gB G o j))
  | 0, i, J, C, _, h, _, _, _, _, _ => absurd h (Nat.not_lt_zero _)
  | m + 1, i, J, C, hi, h, h1, h2, h3, h4, h5 => by
    obtain ⟨x1, x2, x3, x4, x5, x6⟩ := hr.2.2
    have O1 := str_ok (x1.2 o ho).2.1 hK
    obtain ⟨b1, f1⟩ := str_R hr ho hK
    have z1 := bd_n b1 (by omega)
    have hC1 : C 1 (nI (adr (gZ G) lR o)).toNatClampNeg = nI n := by rw [q_cl (by omega), h3 1 (by omega), f1, hn6]
    by_cases q : i = n
    · subst q
      refine ⟨J, C, fun ζ k => ?_, h1, h2, h3, h4, h5⟩
      rw [lm_Model_print_1, if_neg z1, hC1, if_pos Int32.le_rfl]
    · have hz : gZ G o = 1 + (gC G o + 3) / 4 := by unfold gZ; rw [if_pos hK]
      have hend := adr_end (Z := gZ G) ho
      have e1 : ¬ nI n ≤ nI i := by rw [q_le_f (by omega) (by omega)]; exact id
      by_cases hfull : i < 65536 - w
      · have hm : min i (65536 - w) = i := Nat.min_eq_left (by omega)
        have hm' : min (i + 1) (65536 - w) = i + 1 := Nat.min_eq_left (by omega)
        rw [hm] at h1 h5
        have g1 := byteAt_r (N := N) (I := J) (F := C) (a := adr (gZ G) lR o) (k := i) O1.2.1 (by omega) (by omega) (by rw [h3 1 (by omega)]; exact (x5 o ho).2.2.2 hK _ (by omega))
        obtain ⟨J', C', d1, d2⟩ := print1R (n := n) hr ho hK hn6 hw m (i + 1) (upd J 42 (nI (w + (i + 1)))) (updF C 41 (upd (C 41) (w + i) (outB (gB G o i)))) (by omega) (by omega) (by rw [upd_e rfl, hm']) (fun j hj => by rw [upd_n hj]; exact h2 j hj) (fun j hj => by rw [updF_n hj]; exact h3 j hj) (fun j hj => by rw [updF_e rfl, upd_n (by omega)]; exact h4 j hj) (fun j hj => by
          rw [updF_e rfl]
          by_cases e : j = i
          · rw [upd_e (by omega), e]
          · rw [upd_n (by omega)]; exact h5 j (by omega))
        refine ⟨J', C', fun ζ k => ?_, d2⟩
        have e2 : ¬ (65536 : Int32) ≤ nI (w + i) := by rw [show (65536 : Int32) = nI 65536 from rfl, q_le_f (by omega) (by omega)]; exact id
        rw [lm_Model_print_1, if_neg z1, hC1, if_neg e1]
        unfold lm_Model_print_2
        rw [h1, if_neg e2, g1, bind_s, if_neg (bd_n (by omega) (by omega)), let_d, let_d, q_cl (by omega), nI_1, nI_1, Nat.add_assoc]
        exact d1 ζ k
      · have hm : min i (65536 - w) = 65536 - w := Nat.min_eq_right (by omega)
        have hm' : min (i + 1) (65536 - w) = 65536 - w := Nat.min_eq_right (by omega)
        rw [hm] at h1 h5
        obtain ⟨J', C', d1, d2⟩ := print1R (n := n) hr ho hK hn6 hw m (i + 1) J C (by omega) (by omega) (by rw [hm']; exact h1) h2 h3 h4 (by rw [hm']; exact h5)
        refine ⟨J', C', fun ζ k => ?_, d2⟩
        have e2 : (65536 : Int32) ≤ nI (w + (65536 - w)) := by rw [show (65536 : Int32) = nI 65536 from rfl, q_le_t (by omega) (by omega)]; exact True.intro
        rw [lm_Model_print_1, if_neg z1, hC1, if_neg e1]
        unfold lm_Model_print_2
        rw [h1, if_pos e2, nI_1]
        exact d1 ζ k
theorem rR_out {I' : Nat → Int32} {F' : Nat → Nat → Int32} (hr : rR nk nm nid G lR gg t gs fr gc hn gb gf gr hF hH hP hD I F) (hI : ∀ j, j ≠ 42 → I' j = I j) (hFF : ∀ j, j ≠ 41 → F' j = F j) : rR nk nm nid G lR gg t gs fr gc hn gb gf gr hF hH hP hD I' F' := by
  obtain ⟨⟨a1, a2, a3, a4, a5, a6, a7, a8⟩, ⟨b1, b2⟩, ⟨c1, c2, c3, c4, c5, c6, c7, c8, c9, c10⟩⟩ := hr
  refine ⟨⟨?_, ?_, ?_, ?_, ?_, ?_, ?_, ?_⟩, ⟨?_, ?_⟩, ⟨c1, c2, ?_, c4, ?_, ?_, c7, ?_, ?_, ?_⟩⟩
  · rw [hI 29 (by omega)]; exact a1
  · rw [hI 22 (by omega)]; exact a2
  · rw [hI 30 (by omega)]; exact a3
  · rw [hFF 24 (by omega), hFF 25 (by omega)]; exact a4
  · rw [hFF 26 (by omega)]; exact a5
  · rw [hFF 31 (by omega), hFF 32 (by omega), hFF 33 (by omega), hFF 34 (by omega)]; exact a6
  · rw [hI 20 (by omega)]; exact a7
  · rw [hI 21 (by omega)]; exact a8
  · rw [hFF 27 (by omega), hFF 28 (by omega)]; exact b1
  · rw [hFF 23 (by omega)]; exact b2
  · rw [hI 3 (by omega)]; exact c3
  · rw [hFF 0 (by omega), hFF 1 (by omega)]; exact c5
  · rw [hFF 2 (by omega)]; exact c6
  · rw [hFF 5 (by omega), hFF 6 (by omega)]; exact c8
  · rw [hI 7 (by omega)]; exact c9
  · rw [hI 8 (by omega)]; exact c10
theorem prt_ev {w0 : Int64} {a0 n0 kp kn os st2 top2 : Int32} {nO' cc ss : Nat} {fO' f' : Nat → Int32} {va2 : Nat → Int64} (h1 : m_Stacks_peek N S_top S_frames S_handlers n_S_values f_S_values 0 = some w0) (h2 : m_Value_number N w0 = some a0) (h3 : m_Heap_told N H_globalsUsed H_used H_spareUsed H_old H_oldLeadsToNew H_limit H_every H_fresh H_made H_madeLimit H_reachedFromGlobals H_reachedInAll H_keptGlobalsUsed H_kept n_H_cells f_H_cells w0 = some n0) (h4 : m_Output_accept N O_size n_O_bytes f_O_bytes n0 = some ((kp, nO', fO'), cc, ss)) (h5 : ∀ (α : Type) (k : Int32 → (Nat → Int32) → Int32 → Option (α × Nat × Nat)), lm_Strings_print_1 N H_globalsUsed H_used H_spareUsed H_old H_oldLeadsToNew H_limit H_every H_fresh H_made H_madeLimit H_reachedFromGlobals H_reachedInAll H_keptGlobalsUsed H_kept n_H_cells f_H_cells a0 kp nO' k N 0 fO' O_size = k kn f' os) (h6 : m_Stacks_replace N S_top S_frames S_handlers n_S_values f_S_values 1 (scW (nI 0)) = some (st2, va2, top2)) :
    m_Strings_apply N O_size S_top S_frames S_handlers H_globalsUsed H_used H_spareUsed H_old H_oldLeadsToNew H_limit H_every H_fresh H_made H_madeLimit H_reachedFromGlobals H_reachedInAll H_keptGlobalsUsed H_kept n_O_bytes f_O_bytes n_S_values f_S_values n_S_closures f_S_closures n_H_globals f_H_globals n_H_cells f_H_cells n_H_spare f_H_spare (nI 37) = some ((st2, f_H_globals, f_S_closures, va2, H_fresh, H_made, H_old, H_oldLeadsToNew, H_reachedFromGlobals, H_reachedInAll, H_spareUsed, H_used, os, top2, n_H_cells, f_H_cells, n_H_spare, f_H_spare, nO', f'), cc, ss) := by
  have hp : m_Strings_print N O_size S_top S_frames S_handlers H_globalsUsed H_used H_spareUsed H_old H_oldLeadsToNew H_limit H_every H_fresh H_made H_madeLimit H_reachedFromGlobals H_reachedInAll H_keptGlobalsUsed H_kept n_O_bytes f_O_bytes n_S_values f_S_values n_H_cells f_H_cells = some ((st2, va2, os, top2, nO', f'), cc, ss) := by
    unfold m_Strings_print
    rw [h1, bind_s, h2, bind_s, bind_s, h3, bind_s, h4, bind_s]
    dsimp only
    rw [h5, show m_Value_scalar N 0 = some (scW (nI 0)) from rfl, bind_s, h6, bind_s]
    dsimp only
    rw [tk_s, Nat.zero_add, Nat.zero_add]
  unfold m_Strings_apply
  rw [if_neg (show ¬ nI 37 = 27 by decide), if_neg (show ¬ nI 37 = 28 by decide), if_neg (show ¬ nI 37 = 29 by decide), if_neg (show ¬ nI 37 = 30 by decide), if_neg (show ¬ nI 37 = 31 by decide), if_neg (show ¬ nI 37 = 32 by decide), if_neg (show ¬ nI 37 = 33 by decide), if_neg (show ¬ nI 37 = 34 by decide), if_neg (show ¬ nI 37 = 35 by decide), if_neg (show ¬ nI 37 = 36 by decide), if_pos (show nI 37 = 37 from rfl), hp, bind_s]
  dsimp only
  rw [tk_s, Nat.zero_add, Nat.zero_add]
theorem st_37 {a0 kn : Int32} {C' F' : Nat → Nat → Int32} {J' I' : Nat → Int32} (h0 : m_Model_is N I F 1 6 = some (nI 1)) (h1 : m_Model_scalar N I F 1 = some a0) (h2 : ∀ (ζ : Type) (k : Int32 → (Nat → Nat → Int32) → (Nat → Int32) → Option ζ), lm_Model_print_1 N a0 k N 0 F I = k kn C' J') (h3 : m_Model_give N J' C' 1 0 0 = some (nI 5, F', I')) : m_Model_strings N I F (nI 37) = some (nI 5, F', upd I' 35 (I' 35 + nI 2)) := by
  have hp : m_Model_print N I F = some (nI 5, F', I') := by
    unfold m_Model_print
    rw [h1, bind_s, h2, h3, bind_s]
  unfold m_Model_strings
  rw [if_neg (show ¬ nI 37 = 27 by decide), if_neg (show ¬ nI 37 = 28 by decide), if_neg (show ¬ nI 37 = 29 by decide), if_neg (show ¬ nI 37 = 30 by decide), if_neg (show ¬ nI 37 = 31 by decide), if_neg (show ¬ nI 37 = 32 by decide), if_neg (show ¬ nI 37 = 33 by decide), if_neg (show ¬ nI 37 = 34 by decide), if_neg (show ¬ nI 37 = 35 by decide), if_neg (show ¬ nI 37 = 36 by decide), if_pos (show nI 37 = 37 from rfl), h0, bind_s, if_neg (show ¬ nI 1 = 0 by decide), hp, bind_s]
  dsimp only
  rw [next_5, bind_s]
  rfl
set_option maxRecDepth 4000 in
set_option maxHeartbeats 4000000 in
theorem pq_37 {rs} {p L o0 : Nat} (hN : 400000 ≤ N) (he : eR nk nm nid G lE gg t gs fr gc hn gb gf gr hF hH hP hD S_top S_frames S_handlers n_S_values f_S_values n_S_bases f_S_bases n_S_floors f_S_floors n_S_returns f_S_returns n_S_closures f_S_closures n_S_handlerFrames f_S_handlerFrames n_S_handlerPlaces f_S_handlerPlaces n_S_handlerHeights f_S_handlerHeights n_S_handlerDepths f_S_handlerDepths H_globalsUsed H_used H_old H_oldLeadsToNew f_H_globals n_H_cells f_H_cells n_H_spare) (hr : rR nk nm nid G lR gg t gs fr gc hn gb gf gr hF hH hP hD I F) (hx : xR nm M_fuel M_ticks H_made M_depth B_names O_size n_O_bytes f_O_bytes n_Q_links f_Q_links n_Q_pairs n_H_cells I F) (h35 : I 35 = nI p) (hkt : gf (fr - 1) + 1 ≤ t) (hv0 : gs (t - 1) = vO o0) (hK0 : gK G o0 = 6)
    (hfit : m_Machine_primitiveFits N S_top S_frames S_handlers M_status (nI p) (nI (p + 2)) M_fuel M_ticks M_depth (I 45) M_done n_S_values f_S_values n_S_floors f_S_floors (nI 37) = some (nI 1)) (hR : rs = m_Model_strings N I F (nI 37)) :
    opR nm n_H_cells I F (potE n_S_values n_S_bases n_S_handlerFrames n_H_cells n_H_spare n_Q_links n_Q_pairs n_O_bytes) (m_Machine_perform N P_size P_constants P_closed P_open O_size S_top S_frames S_handlers H_globalsUsed H_used H_spareUsed H_old H_oldLeadsToNew (nI L) H_every H_fresh H_made (I 44) H_reachedFromGlobals H_reachedInAll H_keptGlobalsUsed H_kept B_names Q_size M_status (nI p) (nI (p + 2)) M_fuel M_ticks M_depth (I 45) M_done n_P_words f_P_words n_P_bytes f_P_bytes n_P_ends f_P_ends n_O_bytes f_O_bytes n_S_values f_S_values n_S_bases f_S_bases n_S_floors f_S_floors n_S_returns f_S_returns n_S_closures f_S_closures n_S_handlerFrames f_S_handlerFrames n_S_handlerPlaces f_S_handlerPlaces n_S_handlerHeights f_S_handlerHeights n_S_handlerDepths f_S_handlerDepths 2049 f_H_globals n_H_cells f_H_cells n_H_spare f_H_spare n_Q_links f_Q_links n_Q_pairs f_Q_pairs (nI 34) (nI 37)) rs := by
  obtain ⟨q1, q2, q3, qt, qs, qh, qb, qf, q4, q5, q6, q7, q8, q9, qx, qy, qz⟩ := frE he
  obtain ⟨y1, y2, y3, y4, y5⟩ := frR hr q1
  subst qt qs qh
  obtain ⟨hG, hT, hC, hH', hnn⟩ := eR_hp he
  have mE0 : o0 ∈ lE := by have := (vE he (k := t - 1) (by omega)).2; rw [hv0] at this; exact this
  have mR0 : o0 ∈ lR := by have := (vRr hr (k := t - 1) (by omega)).2.2; rw [hv0] at this; exact this
  have O0 := str_ok (hG.2 o0 mE0).2.1 hK0
  have pk0 := eR_peek (N := N) (k := 0) he (by omega)
  rw [Nat.sub_zero, hv0] at pk0
  have td0 := told_O (N := N) he mE0
  rw [if_pos hK0] at td0
  have nu0 : m_Value_number N (wE G lE (vO o0)) = some (nI (adr (gZ G) lE o0)) := nu_E (v := vO o0) hG mE0 hnn (by omega)
  have s1 := scalar_R (N := N) (d := 1) hr (by omega) (by omega) q3
  rw [hv0] at s1
  have s1 : m_Model_scalar N I F 1 = some (nI (adr (gZ G) lR o0)) := s1
  have hi1 := is_O (N := N) (d := 1) (K := 6) hr (by omega) (by omega) q3 (by omega) hv0
  rw [if_pos hK0] at hi1
  obtain ⟨x1, x2, x3, x4, x5, x6, x7, ⟨w, x8, x9, x10, x11⟩, ⟨y6, y7, y8⟩, x12, x13, x14⟩ := hx
  obtain ⟨nO', fO', cc, ss, a1, a2, a3, a4, a5, a6, a7⟩ := accept_E (N := N) (w := w) (n := gC G o0) x10 y6 y7 O0.1 y8
  obtain ⟨f', d1, d2, d3, d4⟩ := print1 (N := N) (n := 0) (f0 := fO') (w := w) (nO := nO') (kp := min (gC G o0) (65536 - w)) he mE0 hK0 (by omega) a2 a4 N 0 fO' (by omega) (by omega) (fun _ _ => rfl) (fun j hj => absurd hj (by omega)) a5
  obtain ⟨J', C', g1, g2, g3, g4, g5, g6⟩ := print1R (N := N) (w := w) (n := gC G o0) hr mR0 hK0 rfl (by omega) N 0 I F (by omega) (by omega) (by rw [x9, Nat.zero_min]; rfl) (fun _ _ => rfl) (fun _ _ => rfl) (fun _ _ => rfl) (fun j hj => absurd hj (by omega))
  have hr2 := rR_out hr g3 g4
  obtain ⟨e1, e2⟩ := eR_repl (N := N) (v := vS (nI 0)) (k := 1) he (by omega) hkt trivial
  obtain ⟨F', I', b1, b2, b3, b4⟩ := give_R (N := N) (v := vS (nI 0)) hr2 (k := 1) (by omega) (by omega) q3 trivial
  have hx2 : xR nm M_fuel M_ticks H_made M_depth B_names (nI (w + min (gC G o0) (65536 - w))) nO' f' n_Q_links f_Q_links n_Q_pairs n_H_cells (upd I' 35 (I' 35 + nI 2)) F' := by
    have hI : ∀ j, j ≠ 29 → j ≠ 42 → j ≠ 35 → upd I' 35 (I' 35 + nI 2) j = I j := fun j h29 h42 h35 => by rw [upd_n h35, b3 j h29, g3 j h42]
    refine ⟨x1, ?_, ?_, ?_, ?_, ?_, ?_, ⟨w + min (gC G o0) (65536 - w), rfl, ?_, a2, fun k hk => ?_⟩, ⟨a3, a4, d4⟩, x12, x13, x14⟩
    · rw [hI 4 (by omega) (by omega) (by omega)]; exact x2
    · rw [hI 36 (by omega) (by omega) (by omega)]; exact x3
    · rw [hI 37 (by omega) (by omega) (by omega)]; exact x4
    · rw [hI 38 (by omega) (by omega) (by omega)]; exact x5
    · rw [hI 39 (by omega) (by omega) (by omega)]; exact x6
    · rw [hI 49 (by omega) (by omega) (by omega)]; exact x7
    · rw [upd_n (by omega), b3 42 (by omega)]; exact g2
    · rw [b4 41 (by omega) (by omega)]
      by_cases hk2 : k < w
      · rw [d2 k hk2, a6 k hk2, g5 k hk2]; exact x11 k hk2
      · have q1 := d3 (k - w) (by omega)
        have q2 := g6 (k - w) (by omega)
        rw [show w + (k - w) = k by omega] at q1 q2
        rw [q1, q2]
  refine ⟨nI 5, f_H_globals, Q_size, H_fresh, H_globalsUsed, H_made, H_old, H_oldLeadsToNew, H_reachedFromGlobals, H_reachedInAll, H_spareUsed, H_used, M_depth, M_fuel, (nI (p + 2)), M_ticks, B_names, (nI (w + min (gC G o0) (65536 - w))), (nI fr), (nI hn), (nI (t - 1 + 1)), n_Q_links, f_Q_links, n_Q_pairs, f_Q_pairs, n_H_cells, f_H_cells, n_H_spare, f_H_spare, nO', f', n_S_bases, f_S_bases, n_S_closures, f_S_closures, n_S_floors, f_S_floors, n_S_handlerDepths, f_S_handlerDepths, n_S_handlerFrames, f_S_handlerFrames, n_S_handlerHeights, f_S_handlerHeights, n_S_handlerPlaces, f_S_handlerPlaces, n_S_returns, f_S_returns, n_S_values, (vp_updL f_S_values (t - 1) (wE G lE (vS (nI 0)))), cc, ss, upd I' 35 (I' 35 + nI 2), F', ?_, ?_, pst_on (M_next := nI (p + 2)) e2 (rR_35 b2 _) hx2 (by omega) ⟨fun j hj => ?_, fun j hj => ?_⟩ ?_ (by unfold potE; omega)⟩
  · have e1 : m_Stacks_replace N (nI t) (nI fr) (nI hn) n_S_values f_S_values 1 (scW (nI 0)) = _ := e1
    subst x8
    exact pf34_S (by omega) (by decide) hfit (prt_ev pk0 nu0 (td0 ..) a1 (fun α k => d1 α k ..) e1)
  · rw [hR]
    exact st_37 hi1 s1 g1 b1
  · rw [b4 j (by omega) (by omega), g4 j (by omega)]
  · rw [upd_n (by omega), b3 j (by omega), g3 j (by omega)]
  · rw [upd_e rfl, b3 35 (by omega), g3 35 (by omega), h35, q_add]
end PT
