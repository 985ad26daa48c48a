/-! Bytes of strings go into a new one -/
section CP
variable {N : Nat}
variable {nk : Nat → Nat} {nm : Nat} {nid : Nat} {G : Nat → GO} {lE : List Nat} {gg : Nat → AV} {t : Nat} {gs : Nat → AV} {fr : Nat} {gc : Nat → AV} {hn : Nat} {gb : Nat → Nat} {gf : Nat → Nat} {gr : Nat → Int32} {hF : Nat → Nat} {hH : Nat → Nat} {hP : Nat → Int32} {hD : Nat → Int32} {lR : List Nat} {P_size : Int32} {P_constants : Int32} {P_closed : Int32} {P_open : Int32} {O_size : Int32} {S_top : Int32} {S_frames : Int32} {S_handlers : Int32} {H_globalsUsed : Int32} {H_used : Int32} {H_spareUsed : Int32} {H_old : Int32} {H_oldLeadsToNew : Int32} {H_limit : Int32} {H_every : Int32} {H_fresh : Int32} {H_made : Int32} {H_madeLimit : Int32} {H_reachedFromGlobals : Int32} {H_reachedInAll : Int32} {H_keptGlobalsUsed : Int32} {H_kept : Int32} {B_names : Int32} {Q_size : Int32} {M_status : Int32} {M_place : Int32} {M_next : Int32} {M_fuel : Int32} {M_ticks : Int32} {M_depth : Int32} {M_depthLimit : Int32} {M_done : Int32} {n_P_words : Nat} {f_P_words : Nat → Int32} {n_P_bytes : Nat} {f_P_bytes : Nat → Int32} {n_P_ends : Nat} {f_P_ends : Nat → Int32} {n_O_bytes : Nat} {f_O_bytes : Nat → Int32} {n_S_values : Nat} {f_S_values : Nat → Int64} {n_S_bases : Nat} {f_S_bases : Nat → Int32} {n_S_floors : Nat} {f_S_floors : Nat → Int32} {n_S_returns : Nat} {f_S_returns : Nat → Int32} {n_S_closures : Nat} {f_S_closures : Nat → Int64} {n_S_handlerFrames : Nat} {f_S_handlerFrames : Nat → Int32} {n_S_handlerPlaces : Nat} {f_S_handlerPlaces : Nat → Int32} {n_S_handlerHeights : Nat} {f_S_handlerHeights : Nat → Int32} {n_S_handlerDepths : Nat} {f_S_handlerDepths : Nat → Int32} {n_H_globals : Nat} {f_H_globals : Nat → Int64} {n_H_cells : Nat} {f_H_cells : Nat → Int64} {n_H_spare : Nat} {f_H_spare : Nat → Int64} {n_Q_links : Nat} {f_Q_links : Nat → Int32} {n_Q_pairs : Nat} {f_Q_pairs : Nat → Int64} {I : Nat → Int32} {F : Nat → Nat → Int32}
theorem copy1 {o n bg off M : Nat} {B : Nat → Nat} (he : eR nk nm nid G lE gg t gs fr gc hn gb gf gr hF hH hP hD S_top S_frames S_handlers n_S_values f_S_values n_S_bases f_S_bases n_S_floors f_S_floors n_S_returns f_S_returns n_S_closures f_S_closures n_S_handlerFrames f_S_handlerFrames n_S_handlerPlaces f_S_handlerPlaces n_S_handlerHeights f_S_handlerHeights n_S_handlerDepths f_S_handlerDepths H_globalsUsed H_used H_old H_oldLeadsToNew f_H_globals n_H_cells f_H_cells n_H_spare) (ho : o ∈ lE) (hK : gK G o = 6) (hbg : bg + n ≤ gC G o) (hoff : off + n ≤ M) (hM : M ≤ 65535) (hroom : tot (gZ G) lE + 1 + (M + 3) / 4 ≤ n_H_cells) (hB : ∀ i, i < n → B (off + i) = gB G o (bg + i)) :
    ∀ (m i : Nat) (c : Nat → Int64), i ≤ n → n - i < m → sbE f_H_cells c (tot (gZ G) lE) M (cutB B (off + i)) → ∃ c', (∀ (ζ : Type) (k : Int32 → (Nat → Int64) → Option ζ), ∀ (H_globalsUsed : Int32) (H_used : Int32) (H_spareUsed : Int32) (H_old : Int32) (H_oldLeadsToNew : Int32) (H_limit : Int32) (H_every : Int32) (H_fresh : Int32) (H_made : Int32) (H_madeLimit : Int32) (H_reachedFromGlobals : Int32) (H_reachedInAll : Int32) (H_keptGlobalsUsed : Int32) (H_kept : Int32), lm_Strings_copyBytes_1 N H_globalsUsed H_used H_spareUsed H_old H_oldLeadsToNew H_limit H_every H_fresh H_made H_madeLimit H_reachedFromGlobals H_reachedInAll H_keptGlobalsUsed H_kept n_H_cells (nI (adr (gZ G) lE o)) (nI bg) (nI n) (nI (tot (gZ G) lE)) (nI off) k m (nI i) c = k (nI n) c') ∧ sbE f_H_cells c' (tot (gZ G) lE) M (cutB B (off + n))
  | 0, i, c, _, h, _ => absurd h (Nat.not_lt_zero _)
  | m + 1, i, c, hi, h, hs => by
    by_cases q : i = n
    · subst q
      refine ⟨c, fun ζ k => ?_, hs⟩
      intros
      rw [lm_Strings_copyBytes_1, if_pos Int32.le_rfl]
    · obtain ⟨hG, ht, hC, hh, hn'⟩ := eR_hp he
      have hO := str_ok (hG.2 o ho).2.1 hK
      have g1 := rd_E (N := N) (k := bg + i) he ho hK hs (by omega)
      obtain ⟨c1, a1, a2⟩ := setB_E (N := N) (k := off + i) (x := nI (gB G o (bg + i))) hs (by omega) hM hroom hC (cut_i B _)
      rw [byI_n (hO.2.1 _), ← hB i (by omega), cut_s] at a2
      obtain ⟨c', d1, d2⟩ := copy1 he ho hK hbg hoff hM hroom hB m (i + 1) c1 (by omega) (by omega) a2
      refine ⟨c', fun ζ k => ?_, d2⟩
      intros
      have e1 : ¬ nI n ≤ nI i := by rw [q_le_f (by omega) (by omega)]; exact id
      rw [lm_Strings_copyBytes_1, if_neg e1, q_add, g1, bind_s, q_add, a1, bind_s, nI_1]
      exact d1 ζ k ..
theorem copy_E {o n bg off M : Nat} {B : Nat → Nat} {c : Nat → Int64} (hN : 400000 ≤ N) (he : eR nk nm nid G lE gg t gs fr gc hn gb gf gr hF hH hP hD S_top S_frames S_handlers n_S_values f_S_values n_S_bases f_S_bases n_S_floors f_S_floors n_S_returns f_S_returns n_S_closures f_S_closures n_S_handlerFrames f_S_handlerFrames n_S_handlerPlaces f_S_handlerPlaces n_S_handlerHeights f_S_handlerHeights n_S_handlerDepths f_S_handlerDepths H_globalsUsed H_used H_old H_oldLeadsToNew f_H_globals n_H_cells f_H_cells n_H_spare) (ho : o ∈ lE) (hK : gK G o = 6) (hbg : bg + n ≤ gC G o) (hoff : off + n ≤ M) (hM : M ≤ 65535) (hroom : tot (gZ G) lE + 1 + (M + 3) / 4 ≤ n_H_cells) (hB : ∀ i, i < n → B (off + i) = gB G o (bg + i)) (hs : sbE f_H_cells c (tot (gZ G) lE) M (cutB B off)) :
    ∃ c', (∀ (H_globalsUsed : Int32) (H_used : Int32) (H_spareUsed : Int32) (H_old : Int32) (H_oldLeadsToNew : Int32) (H_limit : Int32) (H_every : Int32) (H_fresh : Int32) (H_made : Int32) (H_madeLimit : Int32) (H_reachedFromGlobals : Int32) (H_reachedInAll : Int32) (H_keptGlobalsUsed : Int32) (H_kept : Int32), m_Strings_copyBytes N H_globalsUsed H_used H_spareUsed H_old H_oldLeadsToNew H_limit H_every H_fresh H_made H_madeLimit H_reachedFromGlobals H_reachedInAll H_keptGlobalsUsed H_kept n_H_cells c (nI (adr (gZ G) lE o)) (nI bg) (nI n) (nI (tot (gZ G) lE)) (nI off) = some c') ∧ sbE f_H_cells c' (tot (gZ G) lE) M (cutB B (off + n)) := by
  obtain ⟨c', d1, d2⟩ := copy1 (N := N) he ho hK hbg hoff hM hroom hB N 0 c (by omega) (by omega) hs
  refine ⟨c', ?_, d2⟩
  intros
  unfold m_Strings_copyBytes
  exact d1 _ _ ..
theorem scal_c {J : Nat → Int32} {c : Nat → Nat → Int32} {d : Nat} (hr : rR nk nm nid G lR gg t gs fr gc hn gb gf gr hF hH hP hD I F) (hJ : J 29 = nI t) (hc : c 28 = F 28) (hd : 1 ≤ d) (hdt : d ≤ t) (ht : t ≤ 65536) : m_Model_scalar N J c (nI d) = some (vR G lR (gs (t - d))) := by
  obtain ⟨h1, h2, h3⟩ := at_R hr hd hdt
  unfold m_Model_scalar
  simp (disch := omega) only [q_o, q_0, q_1, q_2, q_3, q_4, q_5, q_6, q_7, q_8, q_9, q_10, q_11, q_12, q_13, q_14, q_15, q_16, q_17, q_18, q_19, q_20, q_21, q_22, q_23, q_24, q_25, q_26, q_27, q_28, q_29, q_30, q_31, q_32, q_33, q_34, q_35, q_36, q_37, q_38, q_39, q_40, q_41, q_42, q_43, q_44, q_45, q_46, q_47, q_48, q_49, q_50, q_51, q_52, q_53, q_63, q_64, q_126, q_128, q_255, q_512, q_1024, q_1026, q_2000, q_2048, q_2049, q_4095, q_4096, q_8192, q_16383, q_65535, q_65536, q_69632, q_131072, q_132000, q_262144, q_300000, q_1000000, q_lt_t, q_lt_f, q_le_t, q_le_f, q_eq_t, q_eq_f, q_cl, q_add, q_mul, q_sub, q_nle_f, q_nle_t, q_nlt_f, q_nlt_t, q_neq_f, eq_self, q_n1, q_n2, q_m1, q_m1', q_m2, q_m21, q_m0, q_ml, upd_e, upd_n, updL_e, updL_n, updF_e, updF_n, let_d, tk_s, bind_s, or_false, false_or, and_true, true_and, if_true, if_false, ite_true, ite_false, reduceIte, not_true, not_false_iff, Nat.zero_add, Nat.add_zero, Nat.sub_zero, hJ, hc, h2]
theorem join1 {J : Nat → Int32} {F0 : Nat → Nat → Int32} {z1 z3 : Int32} {o1 o0 : Nat} {B : Nat → Nat} (hr : rR nk nm nid G lR gg t gs fr gc hn gb gf gr hF hH hP hD I F) (hJ : J 29 = nI t) (ht2 : 2 ≤ t) (ht : t ≤ 65536) (h1 : gs (t - 2) = vO o1) (h0 : gs (t - 1) = vO o0) (hK1 : gK G o1 = 6) (hK0 : gK G o0 = 6) (hz1 : F0 1 z1.toNatClampNeg = nI (gC G o1)) (hz3 : F0 1 z3.toNatClampNeg = nI (gC G o0)) (hM : gC G o1 + gC G o0 ≤ 65535) (hroom : tot (gZ G) lR + 1 + (gC G o1 + gC G o0 + 3) / 4 ≤ 131072) (hB1 : ∀ i, i < gC G o1 → B i = gB G o1 i) (hB0 : ∀ i, i < gC G o0 → B (gC G o1 + i) = gB G o0 i) :
    ∀ (m i : Nat) (c : Nat → Nat → Int32), i ≤ gC G o1 + gC G o0 → gC G o1 + gC G o0 - i < m → sbR F c (tot (gZ G) lR) (gC G o1 + gC G o0) (cutB B i) → ∃ c', (∀ (ζ : Type) (k : Int32 → (Nat → Nat → Int32) → Option ζ), lm_Model_join_1 N F0 z1 z3 (nI (tot (gZ G) lR)) J k m (nI i) c = k (nI (gC G o1 + gC G o0)) c') ∧ sbR F c' (tot (gZ G) lR) (gC G o1 + gC G o0) (cutB B (gC G o1 + gC G o0))
  | 0, i, c, _, h, _ => absurd h (Nat.not_lt_zero _)
  | m + 1, i, c, hi, h, hs => by
    have m1 : o1 ∈ lR := by have := (hr.2.1.1 (t - 2) (by omega)).1; rw [h1] at this; exact this
    have m0 : o0 ∈ lR := by have := (hr.2.1.1 (t - 1) (by omega)).1; rw [h0] at this; exact this
    by_cases q : i = gC G o1 + gC G o0
    · rw [← q] at hs ⊢
      refine ⟨c, fun ζ k => ?_, hs⟩
      rw [lm_Model_join_1, hz1, hz3, q_add, ← q, if_pos Int32.le_rfl]
    · have hc := hs.2.2.2.2.2 28 (by omega) (by omega)
      have s1 := scal_c (N := N) (d := 1) hr hJ hc (by omega) (by omega) ht
      have s2 := scal_c (N := N) (d := 2) hr hJ hc (by omega) (by omega) ht
      rw [h0] at s1
      rw [h1] at s2
      have s1 : m_Model_scalar N J c 1 = some (nI (adr (gZ G) lR o0)) := s1
      have s2 : m_Model_scalar N J c 2 = some (nI (adr (gZ G) lR o1)) := s2
      have O1 := str_ok (hr.2.2.1.2 o1 m1).2.1 hK1
      have O0 := str_ok (hr.2.2.1.2 o0 m0).2.1 hK0
      have hb : B i < 256 ∧ ∀ (ζ : Type) (k : Int32 → Option ζ), lm_Model_join_2 N F0 z1 J (nI i) c k = k (nI (B i)) := by
        by_cases hlt : i < gC G o1
        · have e1 : ¬ nI (gC G o1) ≤ nI i := by rw [q_le_f (by omega) (by omega)]; exact id
          have g1 := rd_R (N := N) (J := J) (k := i) hr m1 hK1 hs hlt
          rw [hB1 i hlt]
          refine ⟨O1.2.1 i, fun ζ k => ?_⟩
          unfold lm_Model_join_2
          rw [hz1, if_neg e1, s2, bind_s, g1, bind_s]
        · have e1 : nI (gC G o1) ≤ nI i := by rw [q_le_t (by omega) (by omega)]; exact True.intro
          have g1 := rd_R (N := N) (J := J) (k := i - gC G o1) hr m0 hK0 hs (by omega)
          have hB0' := hB0 (i - gC G o1) (by omega)
          rw [show gC G o1 + (i - gC G o1) = i by omega] at hB0'
          rw [hB0']
          refine ⟨O0.2.1 _, fun ζ k => ?_⟩
          unfold lm_Model_join_2
          rw [hz1, if_pos e1, s1, bind_s, q_sub (by omega), g1, bind_s]
      obtain ⟨c1, a1, a2⟩ := setB_R (N := N) (I := J) (k := i) (x := nI (B i)) hs (by omega) hM hroom (cut_i B _)
      rw [byI_n hb.1, cut_s] at a2
      obtain ⟨c', d1, d2⟩ := join1 hr hJ ht2 ht h1 h0 hK1 hK0 hz1 hz3 hM hroom hB1 hB0 m (i + 1) c1 (by omega) (by omega) a2
      refine ⟨c', fun ζ k => ?_, d2⟩
      have e1 : ¬ nI (gC G o1 + gC G o0) ≤ nI i := by rw [q_le_f (by omega) (by omega)]; exact id
      rw [lm_Model_join_1, hz1, hz3, q_add, if_neg e1, hb.2, a1, bind_s, nI_1]
      exact d1 ζ k
theorem slice1 {J : Nat → Int32} {o n bg : Nat} {B : Nat → Nat} (hr : rR nk nm nid G lR gg t gs fr gc hn gb gf gr hF hH hP hD I F) (hJ : J 29 = nI t) (ht3 : 3 ≤ t) (ht : t ≤ 65536) (h2 : gs (t - 3) = vO o) (hK : gK G o = 6) (hbg : bg + n ≤ gC G o) (hroom : tot (gZ G) lR + 1 + (n + 3) / 4 ≤ 131072) (hB : ∀ i, i < n → B i = gB G o (bg + i)) :
    ∀ (m i : Nat) (c : Nat → Nat → Int32), i ≤ n → n - i < m → sbR F c (tot (gZ G) lR) n (cutB B i) → ∃ c', (∀ (ζ : Type) (k : Int32 → (Nat → Nat → Int32) → Option ζ), lm_Model_slice_1 N (nI bg) (nI n) (nI (tot (gZ G) lR)) J k m (nI i) c = k (nI n) c') ∧ sbR F c' (tot (gZ G) lR) n (cutB B n)
  | 0, i, c, _, h, _ => absurd h (Nat.not_lt_zero _)
  | m + 1, i, c, hi, h, hs => by
    have m1 : o ∈ lR := by have := (hr.2.1.1 (t - 3) (by omega)).1; rw [h2] at this; exact this
    have O1 := str_ok (hr.2.2.1.2 o m1).2.1 hK
    by_cases q : i = n
    · subst q
      refine ⟨c, fun ζ k => ?_, hs⟩
      rw [lm_Model_slice_1, if_pos Int32.le_rfl]
    · have hc := hs.2.2.2.2.2 28 (by omega) (by omega)
      have s1 := scal_c (N := N) (d := 3) hr hJ hc (by omega) (by omega) ht
      rw [h2] at s1
      have s1 : m_Model_scalar N J c 3 = some (nI (adr (gZ G) lR o)) := s1
      have g1 := rd_R (N := N) (J := J) (k := bg + i) hr m1 hK hs (by omega)
      obtain ⟨c1, a1, a2⟩ := setB_R (N := N) (I := J) (k := i) (x := nI (gB G o (bg + i))) hs (by omega) (by omega) hroom (cut_i B _)
      rw [byI_n (O1.2.1 _), ← hB i (by omega), cut_s] at a2
      obtain ⟨c', d1, d2⟩ := slice1 hr hJ ht3 ht h2 hK hbg hroom hB m (i + 1) c1 (by omega) (by omega) a2
      refine ⟨c', fun ζ k => ?_, d2⟩
      have e1 : ¬ nI n ≤ nI i := by rw [q_le_f (by omega) (by omega)]; exact id
      rw [lm_Model_slice_1, if_neg e1, s1, bind_s, q_add, g1, bind_s, a1, bind_s, nI_1]
      exact d1 ζ k
/-- made: the k values on top have become a new string -/
theorem mkS_op {pf rs} {k p n : Nat} {B : Nat → Nat} {l' l2 : List Nat} {g' cl' va' c' c2 sp' : Nat → Int64} {fresh' made' old' olt' rG' rA' su' : Int32} {nC' nSp' cc ss : Nat} {I1 : Nat → Int32} {F1 F2 : Nat → Nat → Int32} (h35 : I 35 = nI p)
    (he : eR nk nm nid G l' gg t gs fr gc hn gb gf gr hF hH hP hD S_top S_frames S_handlers n_S_values va' n_S_bases f_S_bases n_S_floors f_S_floors n_S_returns f_S_returns n_S_closures cl' n_S_handlerFrames f_S_handlerFrames n_S_handlerPlaces f_S_handlerPlaces n_S_handlerHeights f_S_handlerHeights n_S_handlerDepths f_S_handlerDepths H_globalsUsed (nI (tot (gZ G) l')) old' olt' g' nC' c' nSp') (hr : rR nk nm nid G l2 gg t gs fr gc hn gb gf gr hF hH hP hD I1 F1) (hx : xR nm M_fuel M_ticks made' M_depth B_names O_size n_O_bytes f_O_bytes n_Q_links f_Q_links n_Q_pairs nC' I1 F1) (hf : frA I F I1 F1) (hc : ss + 150 * cc + pot 131072 n_H_cells + pot 131072 n_H_spare ≤ pot 131072 nC' + pot 131072 nSp' ∧ n_H_cells ≤ nC')
    (hsE : sbE c' c2 (tot (gZ G) l') n B) (hsR : sbR F1 F2 (tot (gZ G) l2) n B) (hn6 : n ≤ 65535) (hmE : tot (gZ G) l' + (1 + (n + 3) / 4) ≤ nC') (hmR : tot (gZ G) l2 + (1 + (n + 3) / 4) ≤ 131072)
    (hk : 1 ≤ k) (hkt : gf (fr - 1) + k ≤ t)
    (hp : m_Stacks_replace N S_top S_frames S_handlers n_S_values va' (nI k) (obW 6 (tot (gZ G) l')) = some (nI 5, vp_updL va' (t - k) (obW 6 (tot (gZ G) l')), nI (t - k + 1)) → pf = some ((nI 5, g', Q_size, fresh', H_globalsUsed, made', old', olt', rG', rA', su', (nI (tot (gZ G) l' + (1 + (n + 3) / 4))), M_depth, M_fuel, (nI (p + 2)), M_ticks, B_names, O_size, S_frames, S_handlers, (nI (t - k + 1)), n_Q_links, f_Q_links, n_Q_pairs, f_Q_pairs, nC', c2, nSp', sp', n_O_bytes, f_O_bytes, n_S_bases, f_S_bases, n_S_closures, cl', n_S_floors, f_S_floors, n_S_handlerDepths, f_S_handlerDepths, n_S_handlerFrames, f_S_handlerFrames, n_S_handlerHeights, f_S_handlerHeights, n_S_handlerPlaces, f_S_handlerPlaces, n_S_returns, f_S_returns, n_S_values, (vp_updL va' (t - k) (obW 6 (tot (gZ G) l')))), cc, ss))
    (hq : ∀ F3 I3, m_Model_give N (upd I1 3 (nI (tot (gZ G) l2 + (1 + (n + 3) / 4)))) F2 (nI k) (nI 2) (nI (tot (gZ G) l2)) = some (nI 5, F3, I3) → rs = some (nI 5, F3, upd I3 35 (I3 35 + nI 2))) :
    opR nm n_H_cells I F (potE n_S_values n_S_bases n_S_handlerFrames n_H_cells n_H_spare n_Q_links n_Q_pairs n_O_bytes) pf rs := by
  obtain ⟨w1, w2⟩ := eR_str he hsE hn6 hmE
  obtain ⟨v1, v2⟩ := rR_str hr hsR hn6 hmR
  refine yes_op (N := N) (f_Q_pairs := f_Q_pairs) (Q_size := Q_size) (fresh' := fresh') (rG' := rG') (rA' := rA') (su' := su') (sp' := sp') (k := k) (v := vO nid) h35 w1 v1 hx hf (fun j h => upd_n h) hsR.2.2.2.2.2 hc hk hkt (List.mem_append_right _ (List.mem_singleton.mpr rfl)) (List.mem_append_right _ (List.mem_singleton.mpr rfl)) ?_ ?_
  · rw [w2]
    exact hp
  · rw [v2]
    exact hq
end CP
