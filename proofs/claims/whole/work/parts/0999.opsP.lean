/-! Instruction 30: packets -/
section PK
variable {N : Nat}
variable {nk : Nat → Nat} {nm : Nat} {nid : Nat} {G : Nat → GO} {lE : List Nat} {gg : Nat → AV} {t : Nat} {gs : Nat → AV} {fr : Nat} {gc : Nat → AV} {hn : Nat} {gb : Nat → Nat} {gf : Nat → Nat} {gr : Nat → Int32} {hF : Nat → Nat} {hH : Nat → Nat} {hP : Nat → Int32} {hD : Nat → Int32} {lR : List Nat} {P_size : Int32} {P_constants : Int32} {P_closed : Int32} {P_open : Int32} {O_size : Int32} {S_top : Int32} {S_frames : Int32} {S_handlers : Int32} {H_globalsUsed : Int32} {H_used : Int32} {H_spareUsed : Int32} {H_old : Int32} {H_oldLeadsToNew : Int32} {H_limit : Int32} {H_every : Int32} {H_fresh : Int32} {H_made : Int32} {H_madeLimit : Int32} {H_reachedFromGlobals : Int32} {H_reachedInAll : Int32} {H_keptGlobalsUsed : Int32} {H_kept : Int32} {B_names : Int32} {Q_size : Int32} {M_status : Int32} {M_place : Int32} {M_next : Int32} {M_fuel : Int32} {M_ticks : Int32} {M_depth : Int32} {M_depthLimit : Int32} {M_done : Int32} {n_P_words : Nat} {f_P_words : Nat → Int32} {n_P_bytes : Nat} {f_P_bytes : Nat → Int32} {n_P_ends : Nat} {f_P_ends : Nat → Int32} {n_O_bytes : Nat} {f_O_bytes : Nat → Int32} {n_S_values : Nat} {f_S_values : Nat → Int64} {n_S_bases : Nat} {f_S_bases : Nat → Int32} {n_S_floors : Nat} {f_S_floors : Nat → Int32} {n_S_returns : Nat} {f_S_returns : Nat → Int32} {n_S_closures : Nat} {f_S_closures : Nat → Int64} {n_S_handlerFrames : Nat} {f_S_handlerFrames : Nat → Int32} {n_S_handlerPlaces : Nat} {f_S_handlerPlaces : Nat → Int32} {n_S_handlerHeights : Nat} {f_S_handlerHeights : Nat → Int32} {n_S_handlerDepths : Nat} {f_S_handlerDepths : Nat → Int32} {n_H_globals : Nat} {f_H_globals : Nat → Int64} {n_H_cells : Nat} {f_H_cells : Nat → Int64} {n_H_spare : Nat} {f_H_spare : Nat → Int64} {n_Q_links : Nat} {f_Q_links : Nat → Int32} {n_Q_pairs : Nat} {f_Q_pairs : Nat → Int64} {I : Nat → Int32} {F : Nat → Nat → Int32}
def pkt (k i : Nat) (v : AV) : GO := (7, nI k, i, fun _ => v, fun _ => 0)
theorem pkt_np {k i : Nat} {v : AV} : gNp (gnew G nid (pkt k i v)) nid = 1 ∧ gZ (gnew G nid (pkt k i v)) nid = 2 := by
  unfold gNp gZ
  rw [gn_x.1]
  exact ⟨by rw [if_neg (show ¬ (pkt k i v).1 = 6 by show ¬ 7 = 6; omega), if_pos (show (pkt k i v).1 = 7 from rfl)], by rw [if_neg (show ¬ (pkt k i v).1 = 6 by show ¬ 7 = 6; omega), if_pos (show (pkt k i v).1 = 7 from rfl)]⟩
theorem okO_pkt {k i : Nat} {v : AV} (h1 : k ≤ 65535) (h2 : 1 ≤ i) (h3 : i ≤ nm) (h4 : nk i = k) : okO nk nm (gnew G nid (pkt k i v)) nid := by
  unfold okO
  rw [gn_x.1, gn_x.2.1, gn_x.2.2.1]
  exact Or.inr (Or.inr (Or.inr (Or.inr (Or.inr ⟨rfl, k, rfl, h1, h2, h3, h4⟩))))
theorem eR_pkt {k i : Nat} {cc : Nat → Int64} (he : eR nk nm nid G lE gg t gs fr gc hn gb gf gr hF hH hP hD S_top S_frames S_handlers n_S_values f_S_values n_S_bases f_S_bases n_S_floors f_S_floors n_S_returns f_S_returns n_S_closures f_S_closures n_S_handlerFrames f_S_handlerFrames n_S_handlerPlaces f_S_handlerPlaces n_S_handlerHeights f_S_handlerHeights n_S_handlerDepths f_S_handlerDepths H_globalsUsed H_used H_old H_oldLeadsToNew f_H_globals n_H_cells f_H_cells n_H_spare) (hh : gf (fr - 1) + 2 ≤ t) (hO : okO nk nm (gnew G nid (pkt k i (gs (t - 1)))) nid) (hroom : tot (gZ G) lE + 2 ≤ n_H_cells) (hcc : cc = vp_updL (vp_updL f_H_cells (tot (gZ G) lE) (hdW 7 (nI k) i)) (tot (gZ G) lE + 1) (wE G lE (gs (t - 1)))) : eR nk nm (nid + 1) (gnew G nid (pkt k i (gs (t - 1)))) (lE ++ [nid]) gg t gs fr gc hn gb gf gr hF hH hP hD S_top S_frames S_handlers n_S_values f_S_values n_S_bases f_S_bases n_S_floors f_S_floors n_S_returns f_S_returns n_S_closures f_S_closures n_S_handlerFrames f_S_handlerFrames n_S_handlerPlaces f_S_handlerPlaces n_S_handlerHeights f_S_handlerHeights n_S_handlerDepths f_S_handlerDepths H_globalsUsed (nI (tot (gZ G) lE + 2)) H_old H_oldLeadsToNew f_H_globals n_H_cells cc n_H_spare ∧ wE (gnew G nid (pkt k i (gs (t - 1)))) (lE ++ [nid]) (vO nid) = obW 7 (tot (gZ G) lE) := by
  have hvv := he.2.2.2.1.1 (t - 1) (by omega)
  have hGl := he.2.2.2.2.1.1
  have hx7 : (pkt k i (gs (t - 1))).1 = 7 := rfl
  have hnp := pkt_np (G := G) (nid := nid) (k := k) (i := i) (v := gs (t - 1))
  have hhE : hE (gnew G nid (pkt k i (gs (t - 1)))) nid = hdW 7 (nI k) i := by
    unfold hE
    rw [gn_x.1, gn_x.2.1, gn_x.2.2.1, hx7, if_neg (by omega)]
    rfl
  have h := eR_new (x := pkt k i (gs (t - 1))) (c' := cc) he ⟨hO, fun _ _ _ => hvv.2⟩ (by rw [hnp.2]; exact hroom) (fun a ha => by rw [hcc, updL_n (by omega), updL_n (by omega)]) (by rw [hcc, updL_n (by omega), updL_e rfl, hhE]) (fun j hj hjn => by
      rw [hnp.1] at hjn
      have ej : j = 1 := by omega
      rw [ej, hcc, updL_e rfl]
      rfl) (fun e => by rw [hx7] at e; omega)
  rw [hnp.2] at h
  refine ⟨h, ?_⟩
  show obW (gK _ _) (adr _ _ _) = _
  rw [adr_nid hGl, gn_x.1, hx7]
theorem packet_F (hI : m_Model_isName N I F (nI 2) = some (nI 0)) : m_Model_packet N I F = some (nI 4, F, I) := by
  have h : m_Model_isName N I F 2 = some (nI 0) := hI
  unfold m_Model_packet
  rw [h, bind_s, if_pos (show nI 0 = 0 from rfl)]
  rfl
theorem pkt_R {k i L : Nat} (hN : 400000 ≤ N) (hr : rR nk nm nid G lR gg t gs fr gc hn gb gf gr hF hH hP hD I F) (hs : shp t fr hn gb gf hF hH) (hnm : nm < 134217728) (hh : gf (fr - 1) + 2 ≤ t) (hv : gs (t - 2) = vN k i) (h43 : I 43 = nI L) (hL : L ≤ 131072) :
    ∃ (st : Int32) (l' : List Nat) (I' : Nat → Int32) (F' : Nat → Nat → Int32), m_Model_packet N I F = some (st, F', I') ∧ frG I F I' F' ∧
      ((st = nI 5 ∧ fits' G (rtA gg t gs fr gc) 2 L ∧ rR nk nm (nid + 1) (gnew G nid (pkt k i (gs (t - 1)))) (l' ++ [nid]) gg (t - 2 + 1) (upA gs (t - 2) (vO nid)) fr gc hn gb gf gr hF hH hP hD I' F') ∨ (st = nI 3 ∧ ¬ fits' G (rtA gg t gs fr gc) 2 L ∧ rR nk nm nid G l' gg t gs fr gc hn gb gf gr hF hH hP hD I' F')) := by
  obtain ⟨s1, s2, s3, s4⟩ := hs
  have hS := isNm_N (N := N) (d := 2) (k := k) (i := i) hr (by omega) (by omega) s3 hv
  obtain ⟨F1, I1, l', b, r1, r2, r3, r4, r5, r6⟩ := hasRoom_R (N := N) (n := 2) (by omega) hnm hr.2.2 hr.2.1 s3 s2 hr.1.1 hr.1.2.1 hr.1.2.2.2.2.2.2.1 hr.1.2.2.2.2.2.2.2 h43 hL (by omega)
  have hr1 := rR_room hr r2 r3 r4 r5
  rcases r6 with ⟨rfl, f1, f2⟩ | ⟨rfl, f1⟩
  · have y1 := hr1.1.1
    obtain ⟨u1, u2, u3⟩ := vRr hr1 (k := t - 2) (by omega)
    rw [hv] at u1 u2 u3
    obtain ⟨k1, k2, k3, k4⟩ := u3
    have u1 : F1 27 (t - 2) = nI (1 + 256 * k) := u1
    have u2 : F1 28 (t - 2) = nI i := u2
    obtain ⟨v1, v2, v3⟩ := vRr hr1 (k := t - 1) (by omega)
    have hmk := make_R (N := N) (I := I1) (F := F1) (K := 7) (n := k) (a := tot (gZ G) l') (sz := 2) (num := nI i) r2.2.2.1 (by omega) (by omega) (by omega)
    have ed : (1 + 256 * k) / 256 = k := by omega
    have hn2 := rR_new (x := pkt k i (gs (t - 1))) (I' := upd I1 3 (nI (tot (gZ G) l' + 2))) (F' := updF (updF (updF (updF F1 0 (upd (F1 0) (tot (gZ G) l') (nI (7 + 256 * k)))) 1 (upd (F1 1) (tot (gZ G) l') (nI i))) 0 (upd (upd (F1 0) (tot (gZ G) l') (nI (7 + 256 * k))) (tot (gZ G) l' + 1) (tR (gs (t - 1))))) 1 (upd (upd (F1 1) (tot (gZ G) l') (nI i)) (tot (gZ G) l' + 1) (vR G l' (gs (t - 1))))) hr1 ⟨okO_pkt k1 k2 k3 k4, fun _ _ _ => v3⟩ (by rw [pkt_np.2]; omega)
      (fun a ha => by rw [updF_n (show (0 : Nat) ≠ 1 by omega), updF_e rfl, updF_e rfl, upd_n (by omega), upd_n (by omega), upd_n (by omega), upd_n (by omega)]; exact ⟨rfl, rfl⟩)
      (by
        rw [updF_n (show (0 : Nat) ≠ 1 by omega), updF_e rfl, upd_n (by omega), upd_e rfl]
        unfold thR
        rw [gn_x.1, gn_x.2.1, if_neg (show ¬ (pkt k i (gs (t - 1))).1 = 6 by show ¬ 7 = 6; omega), if_pos (show (pkt k i (gs (t - 1))).1 = 7 from rfl)]
        show nI (7 + 256 * k) = nI (7 + 256 * (nI k).toNatClampNeg)
        rw [q_cl (by omega)])
      (by
        rw [updF_e rfl, upd_n (by omega), upd_e rfl]
        unfold chR
        rw [gn_x.1, gn_x.2.2.1, if_pos (show (pkt k i (gs (t - 1))).1 = 6 ∨ (pkt k i (gs (t - 1))).1 = 7 from Or.inr rfl)]
        rfl)
      (fun j hj hjn => by
        rw [pkt_np.1] at hjn
        rw [show j = 1 by omega, updF_n (show (0 : Nat) ≠ 1 by omega), updF_e rfl, updF_e rfl, upd_e rfl, upd_e rfl]
        exact ⟨rfl, rfl⟩)
      (fun e => absurd (show 7 = 6 from e) (by omega)) (fun j h0 h1 => by rw [updF_n h1, updF_n h0, updF_n h1, updF_n h0]) (by rw [upd_e rfl, pkt_np.2]) (fun j hj => upd_n hj)
    obtain ⟨F4, I4, g1, g2, g3, g4⟩ := give_R (N := N) (v := vO nid) (k := 2) hn2 (by omega) (by omega) s3 (List.mem_append_right _ (List.mem_singleton.mpr rfl))
    have hc1 := r2.1
    have g1' : m_Model_give N (upd I1 3 (nI (tot (gZ G) l' + 2))) (updF (updF (updF (updF F1 0 (upd (F1 0) (tot (gZ G) l') (nI (7 + 256 * k)))) 1 (upd (F1 1) (tot (gZ G) l') (nI i))) 0 (upd (upd (F1 0) (tot (gZ G) l') (nI (7 + 256 * k))) (tot (gZ G) l' + 1) (tR (gs (t - 1))))) 1 (upd (upd (F1 1) (tot (gZ G) l') (nI i)) (tot (gZ G) l' + 1) (vR G l' (gs (t - 1))))) (nI 2) (nI 2) (nI (tot (gZ G) l')) = some (nI 5, F4, I4) := by
      rw [← g1]
      show _ = m_Model_give N _ _ (nI 2) (nI 2) (nI (adr (gZ (gnew G nid (pkt k i (gs (t - 1))))) (l' ++ [nid]) nid))
      rw [adr_nid hc1]
    refine ⟨nI 5, l', I4, F4, ?_, ⟨fun j h3 h8 h29 h50 h51 => by rw [g3 j h29, upd_n h3, r4 j h3 h8 h50 h51], fun j h0 h1 h2 h6 h23 h27 h28 => by rw [g4 j h27 h28, updF_n h1, updF_n h0, updF_n h1, updF_n h0, r5 j h0 h1 h2 h6 h23 h28]⟩, Or.inl ⟨rfl, f1, g2⟩⟩
    clear hr hr1 r2 r3 hn2 g2 g1
    unfold m_Model_packet
    simp only [q_2, q_0, q_7, hS, r1, bind_s, q_eq_f (show (1 : Nat) ≠ 0 by omega) (by omega) (by omega), if_true, if_false, ite_true, ite_false, reduceIte]
    simp (disch := omega) only [q_o, q_0, q_1, q_2, q_3, q_4, q_5, q_6, q_7, q_8, q_9, q_10, q_11, q_12, q_13, q_14, q_15, q_16, q_17, q_18, q_19, q_20, q_21, q_22, q_23, q_24, q_25, q_26, q_27, q_28, q_29, q_30, q_31, q_32, q_33, q_34, q_35, q_36, q_37, q_38, q_39, q_40, q_41, q_42, q_43, q_44, q_45, q_46, q_47, q_48, q_49, q_50, q_51, q_52, q_53, q_63, q_64, q_126, q_128, q_255, q_512, q_1024, q_1026, q_2000, q_2048, q_2049, q_4095, q_4096, q_8192, q_16383, q_65535, q_65536, q_69632, q_131072, q_132000, q_262144, q_300000, q_1000000, q_lt_t, q_lt_f, q_le_t, q_le_f, q_eq_t, q_eq_f, q_cl, q_add, q_mul, q_sub, q_nle_f, q_nle_t, q_nlt_f, q_nlt_t, q_neq_f, eq_self, q_n1, q_n2, q_m1, q_m1', q_m2, q_m21, q_m0, q_ml, upd_e, upd_n, updL_e, updL_n, updF_e, updF_n, let_d, tk_s, bind_s, or_false, false_or, and_true, true_and, if_true, if_false, ite_true, ite_false, reduceIte, not_true, not_false_iff, Nat.zero_add, Nat.add_zero, Nat.sub_zero, y1, u1, u2, v1, v2, r_shr, ed, hmk, g1']
  · refine ⟨nI 3, l', I1, F1, ?_, ⟨fun j h3 h8 h29 h50 h51 => r4 j h3 h8 h50 h51, fun j h0 h1 h2 h6 h23 h27 h28 => r5 j h0 h1 h2 h6 h23 h28⟩, Or.inr ⟨rfl, f1, hr1⟩⟩
    clear hr hr1 r2 r3
    unfold m_Model_packet
    simp only [q_2, q_0, q_3, hS, r1, bind_s, q_eq_f (show (1 : Nat) ≠ 0 by omega) (by omega) (by omega), q_eq_t (show (0 : Nat) = 0 from rfl), if_true, if_false, ite_true, ite_false, reduceIte]
end PK
