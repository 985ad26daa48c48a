/-! The program's rows: code, cut, put, constant -/
section PG
variable {N : Nat}
variable {nk : Nat → Nat} {nm : Nat} {nid : Nat} {G : Nat → GO} {lE : List Nat} {gg : Nat → AV} {t : Nat} {gs : Nat → AV} {fr : Nat} {gc : Nat → AV} {hn : Nat} {gb : Nat → Nat} {gf : Nat → Nat} {gr : Nat → Int32} {hF : Nat → Nat} {hH : Nat → Nat} {hP : Nat → Int32} {hD : Nat → Int32} {lR : List Nat} {P_size : Int32} {P_constants : Int32} {P_closed : Int32} {P_open : Int32} {O_size : Int32} {S_top : Int32} {S_frames : Int32} {S_handlers : Int32} {H_globalsUsed : Int32} {H_used : Int32} {H_spareUsed : Int32} {H_old : Int32} {H_oldLeadsToNew : Int32} {H_limit : Int32} {H_every : Int32} {H_fresh : Int32} {H_made : Int32} {H_madeLimit : Int32} {H_reachedFromGlobals : Int32} {H_reachedInAll : Int32} {H_keptGlobalsUsed : Int32} {H_kept : Int32} {B_names : Int32} {Q_size : Int32} {M_status : Int32} {M_place : Int32} {M_next : Int32} {M_fuel : Int32} {M_ticks : Int32} {M_depth : Int32} {M_depthLimit : Int32} {M_done : Int32} {n_P_words : Nat} {f_P_words : Nat → Int32} {n_P_bytes : Nat} {f_P_bytes : Nat → Int32} {n_P_ends : Nat} {f_P_ends : Nat → Int32} {n_O_bytes : Nat} {f_O_bytes : Nat → Int32} {n_S_values : Nat} {f_S_values : Nat → Int64} {n_S_bases : Nat} {f_S_bases : Nat → Int32} {n_S_floors : Nat} {f_S_floors : Nat → Int32} {n_S_returns : Nat} {f_S_returns : Nat → Int32} {n_S_closures : Nat} {f_S_closures : Nat → Int64} {n_S_handlerFrames : Nat} {f_S_handlerFrames : Nat → Int32} {n_S_handlerPlaces : Nat} {f_S_handlerPlaces : Nat → Int32} {n_S_handlerHeights : Nat} {f_S_handlerHeights : Nat → Int32} {n_S_handlerDepths : Nat} {f_S_handlerDepths : Nat → Int32} {n_H_globals : Nat} {f_H_globals : Nat → Int64} {n_H_cells : Nat} {f_H_cells : Nat → Int64} {n_H_spare : Nat} {f_H_spare : Nat → Int64} {n_Q_links : Nat} {f_Q_links : Nat → Int32} {n_Q_pairs : Nat} {f_Q_pairs : Nat → Int64} {I : Nat → Int32} {F : Nat → Nat → Int32}
variable {sz kc pd : Nat} {te : Nat → Nat}
theorem code_ER {w : Int32} (hpg : pgR sz kc pd te P_size P_constants P_closed P_open n_P_words f_P_words n_P_bytes f_P_bytes n_P_ends f_P_ends I F) : ∃ (r : Int32) (sz' nW' : Nat) (fW' : Nat → Int32) (cc ss : Nat) (F' : Nat → Nat → Int32) (I' : Nat → Int32), m_Engine_code N P_size P_constants P_closed P_open n_P_words f_P_words w = some ((r, nI sz', nW', fW'), cc, ss) ∧ m_Model_code N I F w = some (r, F', I') ∧ pgR sz' kc pd te (nI sz') P_constants P_closed P_open nW' fW' n_P_bytes f_P_bytes n_P_ends f_P_ends I' F' ∧ (∀ j, j ≠ 15 → I' j = I j) ∧ (∀ j, j ≠ 14 → F' j = F j) ∧ ss + 150 * cc + pot 262144 n_P_words ≤ pot 262144 nW' := by
  obtain ⟨⟨g1, g2, g3, g4, g5, g6, g7⟩, hc, hd⟩ := hpg
  by_cases hf : sz = 262144
  · refine ⟨-2, sz, n_P_words, f_P_words, 0, 0, F, I, ?_, ?_, ⟨⟨rfl, g2, g3, g4, g5, g6, g7⟩, hc, hd⟩, fun _ _ => rfl, fun _ _ => rfl, by omega⟩
    · unfold m_Engine_code m_Program_append
      rw [g1, if_neg (show ¬ nI sz < 262144 by rw [show (262144 : Int32) = nI 262144 from rfl, q_lt_f (by omega) (by omega)]; exact id), bind_s]
      dsimp only
      rw [tk_s]
    · unfold m_Model_code
      rw [g2, if_pos (show nI sz = 262144 by rw [hf]; rfl)]
  · have hR : m_Model_code N I F w = some (nI (sz + 1), updF F 14 (upd (F 14) sz w), upd I 15 (nI (sz + 1))) := by
      unfold m_Model_code
      rw [g2, if_neg (show ¬ nI sz = 262144 from ne_l (b := 262144) hf (by omega) (by omega)), if_neg (bd_n (by omega) (by omega)), let_d, let_d, upd_e rfl, q_cl (by omega), nI_1]
    have key : ∀ (nW' : Nat) (fW' : Nat → Int32), sz < nW' → 128 ≤ nW' → nW' ≤ 262144 → (∀ j, j < sz → fW' j = f_P_words j) → pgR (sz + 1) kc pd te (nI (sz + 1)) P_constants P_closed P_open nW' (upd fW' sz w) n_P_bytes f_P_bytes n_P_ends f_P_ends (upd I 15 (nI (sz + 1))) (updF F 14 (upd (F 14) sz w)) := by
      intro nW' fW' k1 k2 k3 k4
      refine ⟨⟨rfl, upd_e rfl, by omega, by omega, k2, k3, fun j hj => ?_⟩, ?_, ?_⟩
      · rw [updF_e rfl]
        by_cases e : j = sz
        · rw [upd_e e, upd_e e]
        · rw [upd_n e, upd_n e, k4 j (by omega)]; exact g7 j (by omega)
      · rw [upd_n (by omega), updF_n (by omega)]; exact hc
      · rw [upd_n (by omega), updF_n (by omega)]; exact hd
    have hlt : nI sz < 262144 := by rw [show (262144 : Int32) = nI 262144 from rfl, q_lt_t (by omega) (by omega)]; exact True.intro
    by_cases hr : sz < n_P_words
    · refine ⟨nI (sz + 1), sz + 1, n_P_words, upd f_P_words sz w, 0, 0, _, _, ?_, hR, key n_P_words f_P_words hr g5 g6 (fun _ _ => rfl), fun j hj => upd_n hj, fun j hj => updF_n hj, by omega⟩
      unfold m_Engine_code m_Program_append
      rw [g1, if_pos hlt, q_o, if_pos (show nI sz < nI n_P_words by rw [q_lt_t (by omega) (by omega)]; exact True.intro), if_neg (bd_n (by omega) (by omega)), bind_s]
      dsimp only
      rw [tk_s, q_cl (by omega), nI_1]
    · have hl := longer_E (N := N) (n := n_P_words) (need := sz + 1) (m := 262144) (by omega) (by omega) (by omega)
      have hM : n_P_words < min 262144 (max (sz + 1) (2 * n_P_words)) := by omega
      have hp := pot_new (n := n_P_words) (m := 262144) (k := min 262144 (max (sz + 1) (2 * n_P_words))) (by omega) (by omega)
      have hcp := copyI_E (N := N) (f := f_P_words) hM (by omega)
      refine ⟨nI (sz + 1), sz + 1, min 262144 (max (sz + 1) (2 * n_P_words)), upd (va_cpy f_P_words (fun _ => 0) 0 0 n_P_words) sz w, 1, min 262144 (max (sz + 1) (2 * n_P_words)), _, _, ?_, hR, key _ _ (by omega) (by omega) (by omega) (fun j hj => cpy_lt (by omega)), fun j hj => upd_n hj, fun j hj => updF_n hj, by omega⟩
      unfold m_Engine_code m_Program_append
      rw [g1, if_pos hlt, q_o, if_neg (show ¬ nI sz < nI n_P_words by rw [q_lt_f (by omega) (by omega)]; exact id), nI_1, show m_Engine_longer N (nI n_P_words) (nI (sz + 1)) 262144 = _ from hl, bind_s, hcp, bind_s]
      dsimp only
      rw [if_neg (bd_n (by omega) (by omega)), tk_s, bind_s]
      dsimp only
      rw [tk_s, q_cl (by omega), Nat.zero_add, Nat.zero_add, Nat.zero_add, Nat.zero_add]
theorem cut_ER {w : Int32} (hpg : pgR sz kc pd te P_size P_constants P_closed P_open n_P_words f_P_words n_P_bytes f_P_bytes n_P_ends f_P_ends I F) (hon : m_Model_isOn N I F = some (if M_status = 5 then 1 else 0)) : ∃ (r : Int32) (sz' : Nat) (I' : Nat → Int32), m_Engine_cut N P_size P_constants P_closed P_open M_status M_place M_next M_fuel M_ticks M_depth M_depthLimit M_done w = some (r, nI sz') ∧ m_Model_cut N I F w = some (r, I') ∧ pgR sz' kc pd te (nI sz') P_constants P_closed P_open n_P_words f_P_words n_P_bytes f_P_bytes n_P_ends f_P_ends I' F ∧ (∀ j, j ≠ 15 → I' j = I j) := by
  have hpg' := hpg
  obtain ⟨⟨g1, g2, g3, g4, g5, g6, g7⟩, hc, hd⟩ := hpg'
  by_cases hs : M_status = 5
  · rw [if_pos hs] at hon
    refine ⟨-1, sz, I, ?_, ?_, ⟨⟨rfl, g2, g3, g4, g5, g6, g7⟩, hc, hd⟩, fun _ _ => rfl⟩
    · unfold m_Engine_cut
      rw [if_pos hs, g1]
    · unfold m_Model_cut
      by_cases h0 : w < 0
      · rw [if_pos h0]
      · rw [if_neg h0]
        by_cases h1 : I 15 < w
        · rw [if_pos h1]
        · rw [if_neg h1, hon, bind_s, if_neg (by decide)]
  · rw [if_neg hs] at hon
    by_cases h0 : w < 0
    · refine ⟨-1, sz, I, ?_, ?_, ⟨⟨rfl, g2, g3, g4, g5, g6, g7⟩, hc, hd⟩, fun _ _ => rfl⟩
      · unfold m_Engine_cut m_Program_shorten
        rw [if_neg hs, if_pos h0, bind_s, g1]
      · unfold m_Model_cut
        rw [if_pos h0]
    · obtain ⟨n, hn6, rfl⟩ := nI_of h0
      by_cases h1 : n ≤ sz
      · refine ⟨nI n, n, upd I 15 (nI n), ?_, ?_, ⟨⟨rfl, upd_e rfl, by omega, by omega, g5, g6, fun j hj => g7 j (by omega)⟩, ?_, ?_⟩, fun j hj => upd_n hj⟩
        · unfold m_Engine_cut m_Program_shorten
          rw [if_neg hs, if_neg h0, g1, if_pos (show nI n ≤ nI sz by rw [q_le_t (by omega) (by omega)]; exact True.intro), bind_s]
        · unfold m_Model_cut
          rw [if_neg h0, g2, if_neg (show ¬ nI sz < nI n by rw [q_lt_f (by omega) (by omega)]; exact id), hon, bind_s, if_pos rfl, let_d, upd_e rfl]
        · rw [upd_n (by omega)]; exact hc
        · rw [upd_n (by omega)]; exact hd
      · refine ⟨-1, sz, I, ?_, ?_, ⟨⟨rfl, g2, g3, g4, g5, g6, g7⟩, hc, hd⟩, fun _ _ => rfl⟩
        · unfold m_Engine_cut m_Program_shorten
          rw [if_neg hs, if_neg h0, g1, if_neg (show ¬ nI n ≤ nI sz by rw [q_le_f (by omega) (by omega)]; exact id), bind_s]
        · unfold m_Model_cut
          rw [if_neg h0, g2, if_pos (show nI sz < nI n by rw [q_lt_t (by omega) (by omega)]; exact True.intro)]
theorem const_ER (hpg : pgR sz kc pd te P_size P_constants P_closed P_open n_P_words f_P_words n_P_bytes f_P_bytes n_P_ends f_P_ends I F) : ∃ (r : Int32) (kc' pd' : Nat) (te' : Nat → Nat) (pc' : Int32) (nE' : Nat) (fE' : Nat → Int32) (cc ss : Nat) (F' : Nat → Nat → Int32) (I' : Nat → Int32), m_Engine_constant N P_size P_constants P_closed P_open n_P_ends f_P_ends = some ((r, pc', nI kc', nI pd', nE', fE'), cc, ss) ∧ m_Model_constant N I F = some (r, F', I') ∧ pgR sz kc' pd' te' P_size (nI kc') pc' (nI pd') n_P_words f_P_words n_P_bytes f_P_bytes nE' fE' I' F' ∧ (∀ j, j ≠ 18 → j ≠ 19 → I' j = I j) ∧ (∀ j, j ≠ 17 → F' j = F j) ∧ ss + 150 * cc + pot 1024 n_P_ends ≤ pot 1024 nE' := by
  have hpg' := hpg
  obtain ⟨hb, ⟨c1, c2, c3, c4, c5, c6, c7, c8⟩, ⟨d1, d2, d3, d4, d5, d6, d7, d8, d9, d10, d11⟩⟩ := hpg'
  have same : pgR sz kc pd te P_size (nI kc) P_closed (nI pd) n_P_words f_P_words n_P_bytes f_P_bytes n_P_ends f_P_ends I F := by rw [← c1, ← d2]; exact hpg
  by_cases hf : kc = 1024
  · refine ⟨-2, kc, pd, te, P_closed, n_P_ends, f_P_ends, 0, 0, F, I, ?_, ?_, same, fun _ _ _ => rfl, fun _ _ => rfl, by omega⟩
    · unfold m_Engine_constant m_Program_endConstant
      rw [c1, d2, if_pos (show (1024 : Int32) ≤ nI kc by rw [show (1024 : Int32) = nI 1024 from rfl, q_le_t (by omega) (by omega)]; exact True.intro), bind_s]
      dsimp only
      rw [tk_s]
    · unfold m_Model_constant
      rw [c2, if_pos (show nI kc = 1024 by rw [hf]; rfl)]
  · have n1 : ¬ (1024 : Int32) ≤ nI kc := by rw [show (1024 : Int32) = nI 1024 from rfl, q_le_f (by omega) (by omega)]; exact id
    have n2 : ¬ nI kc = 1024 := ne_l (b := 1024) hf (by omega) (by omega)
    have z1 : ¬ (nI kc < 0 ∨ 1026 ≤ (nI kc).toNatClampNeg) := bd_n (by omega) (by omega)
    have z2 : ¬ (nI (kc + 1) < 0 ∨ 1026 ≤ (nI (kc + 1)).toNatClampNeg) := bd_n (by omega) (by omega)
    have e17 : F 17 (nI kc).toNatClampNeg = nI (te kc) := by rw [q_cl (by omega)]; exact c7 kc (by omega)
    by_cases hs : te kc + pd ≤ 65536
    · have l1 : nI (te kc) + nI pd ≤ 65536 := by rw [q_add, show (65536 : Int32) = nI 65536 from rfl, q_le_t (by omega) (by omega)]; exact True.intro
      have hR : m_Model_constant N I F = some (nI kc, updF F 17 (upd (F 17) (kc + 1) (nI (te kc + pd))), upd (upd I 18 (nI (kc + 1))) 19 0) := by
        unfold m_Model_constant
        rw [c2, if_neg n2, if_neg z1, e17, d3, if_pos l1, if_neg z1, nI_1, if_neg z2, let_d, let_d, let_d, q_cl (by omega), q_add, upd_n (by omega), upd_e rfl, show (1 : Int32) = nI 1 from rfl, q_sub (by omega), Nat.add_sub_cancel]
      obtain ⟨te', ht1, ht2⟩ : ∃ te' : Nat → Nat, (∀ j, j ≤ kc → te' j = te j) ∧ te' (kc + 1) = te kc + pd := ⟨fun j => if j ≤ kc then te j else te kc + pd, fun j hj => if_pos hj, if_neg (by omega)⟩
      have key : ∀ (nE' : Nat) (fE' : Nat → Int32), kc < nE' → 16 ≤ nE' → nE' ≤ 1024 → (∀ j, j < kc → fE' j = f_P_ends j) → pgR sz (kc + 1) 0 te' P_size (nI (kc + 1)) (nI (te kc + pd)) (nI 0) n_P_words f_P_words n_P_bytes f_P_bytes nE' (upd fE' kc (nI (te kc + pd))) (upd (upd I 18 (nI (kc + 1))) 19 0) (updF F 17 (upd (F 17) (kc + 1) (nI (te kc + pd)))) := by
        intro nE' fE' k1 k2 k3 k4
        refine ⟨?_, ⟨rfl, by rw [upd_n (by omega), upd_e rfl], by omega, by omega, k2, k3, fun j hj => ?_, fun j hj => ?_⟩, ⟨by rw [ht2], rfl, upd_e rfl, by omega, by rw [ht1 0 (by omega)]; exact d5, fun j hj => ?_, by rw [ht2]; exact hs, by rw [ht2, Nat.add_zero]; exact d8, d9, d10, fun j hj => ?_⟩⟩
        · rw [upd_n (by omega), upd_n (by omega), updF_n (by omega)]; exact hb
        · rw [updF_e rfl]
          by_cases e : j = kc + 1
          · rw [upd_e e, e, ht2]
          · rw [upd_n e, ht1 j (by omega)]; exact c7 j (by omega)
        · by_cases e : j = kc
          · rw [upd_e e, e, ht2]
          · rw [upd_n e, k4 j (by omega), ht1 (j + 1) (by omega)]; exact c8 j (by omega)
        · by_cases e : j = kc
          · rw [e, ht2, ht1 kc (by omega)]
            omega
          · have := d6 j (by omega)
            rw [ht2, ht1 j (by omega), ht1 (j + 1) (by omega)]
            omega
        · rw [ht2, Nat.add_zero] at hj
          rw [updF_n (by omega)]
          exact d11 j hj
      by_cases hr : kc < n_P_ends
      · refine ⟨nI kc, kc + 1, 0, te', nI (te kc + pd), n_P_ends, upd f_P_ends kc (nI (te kc + pd)), 0, 0, _, _, ?_, hR, key n_P_ends f_P_ends hr c5 c6 (fun _ _ => rfl), fun j h18 h19 => by rw [upd_n h19, upd_n h18], fun j hj => updF_n hj, by omega⟩
        unfold m_Engine_constant m_Program_endConstant
        rw [c1, d1, d2, if_neg n1, if_pos l1, q_o, if_pos (show nI kc < nI n_P_ends by rw [q_lt_t (by omega) (by omega)]; exact True.intro), if_neg (bd_n (by omega) (by omega)), bind_s]
        dsimp only
        rw [tk_s, q_cl (by omega), nI_1, q_add]
        rfl
      · have hl := longer_E (N := N) (n := n_P_ends) (need := kc + 1) (m := 1024) (by omega) (by omega) (by omega)
        have hM : n_P_ends < min 1024 (max (kc + 1) (2 * n_P_ends)) := by omega
        have hp := pot_new (n := n_P_ends) (m := 1024) (k := min 1024 (max (kc + 1) (2 * n_P_ends))) (by omega) (by omega)
        have hcp := copyI_E (N := N) (f := f_P_ends) hM (by omega)
        refine ⟨nI kc, kc + 1, 0, te', nI (te kc + pd), min 1024 (max (kc + 1) (2 * n_P_ends)), upd (va_cpy f_P_ends (fun _ => 0) 0 0 n_P_ends) kc (nI (te kc + pd)), 1, min 1024 (max (kc + 1) (2 * n_P_ends)), _, _, ?_, hR, key _ _ (by omega) (by omega) (by omega) (fun j hj => cpy_lt (by omega)), fun j h18 h19 => by rw [upd_n h19, upd_n h18], fun j hj => updF_n hj, by omega⟩
        unfold m_Engine_constant m_Program_endConstant
        rw [c1, d1, d2, if_neg n1, if_pos l1, q_o, if_neg (show ¬ nI kc < nI n_P_ends by rw [q_lt_f (by omega) (by omega)]; exact id), nI_1, show m_Engine_longer N (nI n_P_ends) (nI (kc + 1)) 1024 = _ from hl, bind_s, hcp, bind_s]
        dsimp only
        rw [if_neg (bd_n (by omega) (by omega)), tk_s, bind_s]
        dsimp only
        rw [tk_s, q_cl (by omega), q_add, Nat.zero_add, Nat.zero_add, Nat.zero_add, Nat.zero_add]
        rfl
    · have l1 : ¬ nI (te kc) + nI pd ≤ 65536 := by rw [q_add, show (65536 : Int32) = nI 65536 from rfl, q_le_f (by omega) (by omega)]; exact id
      refine ⟨-2, kc, pd, te, P_closed, n_P_ends, f_P_ends, 0, 0, F, I, ?_, ?_, same, fun _ _ _ => rfl, fun _ _ => rfl, by omega⟩
      · unfold m_Engine_constant m_Program_endConstant
        rw [c1, d1, d2, if_neg n1, if_neg l1, bind_s]
        dsimp only
        rw [tk_s]
      · unfold m_Model_constant
        rw [c2, if_neg n2, if_neg z1, e17, d3, if_neg l1]
end PG
