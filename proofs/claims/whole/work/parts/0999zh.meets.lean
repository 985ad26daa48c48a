/-! EQUAL on the reference's side: two values meet -/
section ME
variable {N : Nat}
variable {nk : Nat → Nat} {nm : Nat} {nid : Nat} {G : Nat → GO} {lE : List Nat} {gg : Nat → AV} {t : Nat} {gs : Nat → AV} {fr : Nat} {gc : Nat → AV} {hn : Nat} {gb : Nat → Nat} {gf : Nat → Nat} {gr : Nat → Int32} {hF : Nat → Nat} {hH : Nat → Nat} {hP : Nat → Int32} {hD : Nat → Int32} {lR : List Nat} {P_size : Int32} {P_constants : Int32} {P_closed : Int32} {P_open : Int32} {O_size : Int32} {S_top : Int32} {S_frames : Int32} {S_handlers : Int32} {H_globalsUsed : Int32} {H_used : Int32} {H_spareUsed : Int32} {H_old : Int32} {H_oldLeadsToNew : Int32} {H_limit : Int32} {H_every : Int32} {H_fresh : Int32} {H_made : Int32} {H_madeLimit : Int32} {H_reachedFromGlobals : Int32} {H_reachedInAll : Int32} {H_keptGlobalsUsed : Int32} {H_kept : Int32} {B_names : Int32} {Q_size : Int32} {M_status : Int32} {M_place : Int32} {M_next : Int32} {M_fuel : Int32} {M_ticks : Int32} {M_depth : Int32} {M_depthLimit : Int32} {M_done : Int32} {n_P_words : Nat} {f_P_words : Nat → Int32} {n_P_bytes : Nat} {f_P_bytes : Nat → Int32} {n_P_ends : Nat} {f_P_ends : Nat → Int32} {n_O_bytes : Nat} {f_O_bytes : Nat → Int32} {n_S_values : Nat} {f_S_values : Nat → Int64} {n_S_bases : Nat} {f_S_bases : Nat → Int32} {n_S_floors : Nat} {f_S_floors : Nat → Int32} {n_S_returns : Nat} {f_S_returns : Nat → Int32} {n_S_closures : Nat} {f_S_closures : Nat → Int64} {n_S_handlerFrames : Nat} {f_S_handlerFrames : Nat → Int32} {n_S_handlerPlaces : Nat} {f_S_handlerPlaces : Nat → Int32} {n_S_handlerHeights : Nat} {f_S_handlerHeights : Nat → Int32} {n_S_handlerDepths : Nat} {f_S_handlerDepths : Nat → Int32} {n_H_globals : Nat} {f_H_globals : Nat → Int64} {n_H_cells : Nat} {f_H_cells : Nat → Int64} {n_H_spare : Nat} {f_H_spare : Nat → Int64} {n_Q_links : Nat} {f_Q_links : Nat → Int32} {n_Q_pairs : Nat} {f_Q_pairs : Nat → Int64} {I : Nat → Int32} {F : Nat → Nat → Int32}
variable {v w : AV} {ps : List (Nat × Nat)} {nl : List Nat} {st : List (Nat × Nat × Nat × Nat)} {ld : Nat → Nat} {J : Nat → Int32} {C : Nat → Nat → Int32}
theorem ord_0 {b1 b0 : Nat → Nat} {n1 n0 : Nat} {c r : Int32} (h1 : ∀ i, n1 ≤ i → b1 i = 0) (h0 : ∀ i, n0 ≤ i → b0 i = 0) (ho : ordS b1 n1 b0 n0 r) (hs : sgnS c r) : c = 0 ↔ (n1 = n0 ∧ ∀ i, b1 i = b0 i) := by
  have hcr : c = 0 ↔ r = 0 := by
    rcases hs with ⟨a, rfl⟩ | ⟨a, rfl⟩ | ⟨a, rfl⟩
    · exact ⟨fun e => by rw [e] at a; exact absurd a (by decide), fun e => absurd e (by decide)⟩
    · exact ⟨fun _ => rfl, fun _ => a⟩
    · exact ⟨fun e => by rw [e] at a; exact absurd a (by decide), fun e => absurd e (by decide)⟩
  rw [hcr]
  rcases ho with ⟨i, a1, a2, a3, a4, a5⟩ | ⟨a1, a2⟩
  · refine ⟨fun e => ?_, fun e => absurd (e.2 i) a4⟩
    rw [a5] at e
    by_cases h : b1 i < b0 i
    · rw [if_pos h] at e; exact absurd e (by decide)
    · rw [if_neg h] at e; exact absurd e (by decide)
  · refine ⟨fun e => ?_, fun e => ?_⟩
    · rw [a2] at e
      by_cases h : n1 < n0
      · rw [if_pos h] at e; exact absurd e (by decide)
      · rw [if_neg h] at e
        by_cases h' : n0 < n1
        · rw [if_pos h'] at e; exact absurd e (by decide)
        · refine ⟨by omega, fun i => ?_⟩
          by_cases hi : i < n1
          · exact a1 i hi (by omega)
          · rw [h1 i (by omega), h0 i (by omega)]
    · rw [a2, if_neg (by omega), if_neg (by omega)]
theorem meets_R {x y : AV} (hN : 400000 ≤ N) (hr : rR nk nm nid G lR gg t gs fr gc hn gb gf gr hF hH hP hD I F) (hnn : nm < 134217728) (hf : frQ I F J C) (hS : SR G lR v w J C ps nl st ld) (hx : okV nk nm lR x) (hy : okV nk nm lR y) (hs : sEq G v w → sEq G x y) (h2 : ∀ e, e ∈ st → 2 ≤ gNp G e.1) :
    ∃ (r : Nat) (ps' : List (Nat × Nat)) (nl' : List Nat) (st' : List (Nat × Nat × Nat × Nat)) (ld' : Nat → Nat) (J' : Nat → Int32) (C' : Nat → Nat → Int32), m_Model_meets N J C (tR x) (vR G lR x) (tR y) (vR G lR y) = some (nI r, C', J') ∧ frQ I F J' C' ∧ SR G lR v w J' C' ps' nl' st' ld' ∧ (∀ a b, ld a = ld b → ld' a = ld' b) ∧ ((ps' = ps ∧ nl' = nl ∧ st' = st) ∨ ∃ o p, ps' = ps ++ [(o, p)] ∧ nl' = nl ++ [ld o] ∧ st' = st ++ [(o, p, 1, ld o)] ∧ gZ G (ld o) = gNp G o + 1 ∧ tot (gZ G) nl + gZ G (ld o) ≤ tot (gZ G) lR) ∧ (r = 1 ∧ (rel ld' x y ∨ sEq G x y) ∨ r = 0 ∧ ¬ sEq G v w) := by
  obtain ⟨c1, c2, c3, c4, c5, c6⟩ := hr.2.2
  have few := st_few hS c4 h2
  by_cases hxy : x = y
  · refine ⟨1, ps, nl, st, ld, J, C, mt_1 (by rw [hxy]; exact areSame_t _ _), hf, hS, fun _ _ h => h, Or.inl ⟨rfl, rfl, rfl⟩, Or.inl ⟨rfl, Or.inl (Or.inl hxy)⟩⟩
  · have h0 := areSame_f (N := N) c1 hx hy hnn c4 hxy
    have no : ∀ (hno : ¬ sEq G v w), m_Model_meets N J C (tR x) (vR G lR x) (tR y) (vR G lR y) = some (nI 0, C, J) → ∃ (r : Nat) (ps' : List (Nat × Nat)) (nl' : List Nat) (st' : List (Nat × Nat × Nat × Nat)) (ld' : Nat → Nat) (J' : Nat → Int32) (C' : Nat → Nat → Int32), m_Model_meets N J C (tR x) (vR G lR x) (tR y) (vR G lR y) = some (nI r, C', J') ∧ frQ I F J' C' ∧ SR G lR v w J' C' ps' nl' st' ld' ∧ (∀ a b, ld a = ld b → ld' a = ld' b) ∧ ((ps' = ps ∧ nl' = nl ∧ st' = st) ∨ ∃ o p, ps' = ps ++ [(o, p)] ∧ nl' = nl ++ [ld o] ∧ st' = st ++ [(o, p, 1, ld o)] ∧ gZ G (ld o) = gNp G o + 1 ∧ tot (gZ G) nl + gZ G (ld o) ≤ tot (gZ G) lR) ∧ (r = 1 ∧ (rel ld' x y ∨ sEq G x y) ∨ r = 0 ∧ ¬ sEq G v w) :=
      fun hno h => ⟨0, ps, nl, st, ld, J, C, h, hf, hS, fun _ _ h => h, Or.inl ⟨rfl, rfl, rfl⟩, Or.inr ⟨rfl, hno⟩⟩
    by_cases hxo : ∃ o, x = vO o
    · obtain ⟨o, rfl⟩ := hxo
      by_cases hyo : ∃ p, y = vO p
      · obtain ⟨p, rfl⟩ := hyo
        have hop : o ≠ p := fun e => hxy (by rw [e])
        have mo : o ∈ lR := hx
        have mp : p ∈ lR := hy
        obtain ⟨a1, a2, a3, a4, a5, a6⟩ := obj_R hr mo
        obtain ⟨b1, b2, b3, b4, b5, b6⟩ := obj_R hr mp
        have C0 : C 0 = F 0 := hf.2 0 (by omega) (by omega) (by omega)
        have C1 : C 1 = F 1 := hf.2 1 (by omega) (by omega) (by omega)
        have k1 := kindAt_R (N := N) (I := J) (F := C) (a := adr (gZ G) lR o) a3 (by omega) (by rw [C0]; exact a4)
        have k2 := kindAt_R (N := N) (I := J) (F := C) (a := adr (gZ G) lR p) b3 (by omega) (by rw [C0]; exact b4)
        have kb1 := okO_K a3
        have kb2 := okO_K b3
        by_cases hk : gK G o = gK G p
        · rw [← hk] at k2
          have z1 : ¬ (nI (adr (gZ G) lR o) < 0 ∨ 131072 ≤ (nI (adr (gZ G) lR o)).toNatClampNeg) := bd_n (by omega) (by omega)
          have z2 : ¬ (nI (adr (gZ G) lR p) < 0 ∨ 131072 ≤ (nI (adr (gZ G) lR p)).toNatClampNeg) := bd_n (by omega) (by omega)
          by_cases h6 : gK G o = 6
          · obtain ⟨c, r, d1, d2, d3⟩ := comp_R (N := N) hN hr mo mp h6 (by rw [← hk]; exact h6)
            rw [← comp_c (J := J) C1] at d1
            have O1 := str_ok a3 h6
            have O2 := str_ok b3 (by rw [← hk]; exact h6)
            have hc := ord_0 O1.2.2 O2.2.2 d2 d3
            rw [h6] at k1 k2
            have hm := mt_6 h0 rfl rfl k1 k2 d1
            by_cases hc0 : c = 0
            · rw [if_pos hc0] at hm
              obtain ⟨e1, e2⟩ := hc.mp hc0
              have hsq : sEq G (vO o) (vO p) := fun n => by
                match n with
                | 0 => exact trivial
                | n + 1 => exact Or.inr ⟨o, p, rfl, rfl, ⟨hk, e1, fun h => absurd h6 h, Or.inr (Or.inr h6)⟩, fun _ => e2, fun h => absurd h6 h⟩
              exact ⟨1, ps, nl, st, ld, J, C, hm, hf, hS, fun _ _ h => h, Or.inl ⟨rfl, rfl, rfl⟩, Or.inl ⟨rfl, Or.inr hsq⟩⟩
            · rw [if_neg hc0] at hm
              refine no (fun h => hc0 (hc.mpr ?_)) hm
              have := sEq_hd (hs h) hop
              exact ⟨this.1.2.1, this.2 h6⟩
          · by_cases h23 : gK G o = 2 ∨ gK G o = 3
            · have hK' : nI (gK G o) = 2 ∨ nI (gK G o) = 3 := h23.elim (fun h => Or.inl (by rw [h]; rfl)) (fun h => Or.inr (by rw [h]; rfl))
              obtain ⟨t1, t2, t3, t4⟩ := th_eq a3 b3 hk h23
              have w0 : C 0 (nI (adr (gZ G) lR o)).toNatClampNeg = thR G o := by rw [q_cl (by omega), C0]; exact a4
              have w0' : C 0 (nI (adr (gZ G) lR p)).toNatClampNeg = thR G p := by rw [q_cl (by omega), C0]; exact b4
              have w1 : C 1 (nI (adr (gZ G) lR o)).toNatClampNeg = gN G o := by rw [q_cl (by omega), C1, a5, t2]
              have w1' : C 1 (nI (adr (gZ G) lR p)).toNatClampNeg = gN G p := by rw [q_cl (by omega), C1, b5, t3]
              by_cases hcc : gC G o = gC G p
              · have e0 : C 0 (nI (adr (gZ G) lR o)).toNatClampNeg = C 0 (nI (adr (gZ G) lR p)).toNatClampNeg := by rw [w0, w0']; exact t1.mpr hcc
                by_cases hnn' : gN G o = gN G p
                · have hh : hd2 G o p := ⟨hk, hcc, fun _ => hnn', h23.elim Or.inl (fun h => Or.inr (Or.inl h))⟩
                  have e1 : nI (gK G o) = 3 → C 1 (nI (adr (gZ G) lR o)).toNatClampNeg = C 1 (nI (adr (gZ G) lR p)).toNatClampNeg := fun _ => by rw [w1, w1']; exact hnn'
                  have hS' := hS
                  obtain ⟨lk, d, i1, i2, i3, i4, i5, i6, i7, i8, i9⟩ := hS'
                  have l1 := lead_R (N := N) (J := J) (C := C) hN i1 i2 c4 mo
                  have l2 := lead_R (N := N) (J := J) (C := C) hN i1 i2 c4 mp
                  by_cases hld : ld o = ld p
                  · rw [hld] at l1
                    exact ⟨1, ps, nl, st, ld, J, C, mt_l h0 rfl rfl k1 k2 hK' z1 z2 e0 e1 l1 l2, hf, hS, fun _ _ h => h, Or.inl ⟨rfl, rfl, rfl⟩, Or.inl ⟨rfl, Or.inl (Or.inr ⟨o, p, rfl, rfl, hld⟩)⟩⟩
                  · have mo' := ld_l i1 _ o (Nat.le_refl _) mo
                    have mp' := ld_l i1 _ p (Nat.le_refl _) mp
                    have d3 := adr_end (Z := gZ G) mo'
                    have d4 := adr_end (Z := gZ G) mp'
                    have g3 := gZ_pos G (ld o)
                    have g4 := gZ_pos G (ld p)
                    have uo := uf_ld' i1.1 o
                    have few2 := nl_few i1 c4 mo' uo.1
                    have hZ : gZ G (ld o) = gZ G o := eqI_Z i1 uo.2
                    have hnp := gZ_np (G := G) (o := o) h6
                    have hnp1 : 1 ≤ gNp G o := by
                      have := a3
                      unfold okO at this
                      unfold gNp
                      rw [if_neg (by omega), if_neg (by omega)]
                      omega
                    have hlen2 := tot_len (Z := gZ G) (l := nl) (k := 2) i5
                    have hxy2 : ¬ nI (adr (gZ G) lR (ld o)) = nI (adr (gZ G) lR (ld p)) := fun h => hld (adr_inj (Z := gZ G) (gZ_pos G) mo' mp' ((nI_eq (by omega) (by omega)).mp h))
                    obtain ⟨Ca, hCa⟩ : ∃ Ca, updF C 2 (upd (C 2) (adr (gZ G) lR (ld o)) (nI (adr (gZ G) lR (ld p)))) = Ca := ⟨_, rfl⟩
                    obtain ⟨Cb, hCb⟩ : ∃ Cb, updF Ca 48 (upd (Ca 48) nl.length (nI (adr (gZ G) lR (ld o)))) = Cb := ⟨_, rfl⟩
                    obtain ⟨Cc, f1, f2, f3, f4, f5, f6⟩ := later_R (N := N) (J := upd J 49 (nI (nl.length + 1))) (C := Cb) (s := st.length) (a := nI (adr (gZ G) lR o)) (b := nI (adr (gZ G) lR p)) (c := 1) (by rw [upd_n (by omega)]; exact i7.1) (by omega)
                    have hCc : ∀ j, j ≠ 2 → j ≠ 46 → j ≠ 48 → Cc j = C j := fun j j2 j46 j48 => by rw [f2 j j46, ← hCb, updF_n j48, ← hCa, updF_n j2]
                    have hCc2 : Cc 2 = upd (C 2) (adr (gZ G) lR (ld o)) (nI (adr (gZ G) lR (ld p))) := by rw [f2 2 (by omega), ← hCb, updF_n (by omega), ← hCa, updF_e rfl]
                    have hCc48 : Cc 48 = upd (C 48) nl.length (nI (adr (gZ G) lR (ld o))) := by rw [f2 48 (by omega), ← hCb, updF_e rfl, ← hCa, updF_n (by omega)]
                    have hCb46 : Cb 46 = C 46 := by rw [← hCb, updF_n (by omega), ← hCa, updF_n (by omega)]
                    have ea : updF C 2 (upd (C 2) (nI (adr (gZ G) lR (ld o))).toNatClampNeg (nI (adr (gZ G) lR (ld p)))) = Ca := by rw [q_cl (by omega)]; exact hCa
                    have zj : ¬ (J 49 < 0 ∨ 65536 ≤ (J 49).toNatClampNeg) := by rw [i6.1]; exact bd_n (by omega) (by omega)
                    have eb : updF Ca 48 (upd (Ca 48) (J 49).toNatClampNeg (nI (adr (gZ G) lR (ld o)))) = Cb := by rw [i6.1, q_cl (by omega)]; exact hCb
                    have hnlo : ld o ∉ nl := fun hm => (i1.2.2.2.2.2.2.1 _ hm).2 uo.1
                    refine ⟨1, ps ++ [(o, p)], nl ++ [ld o], st ++ [(o, p, 1, ld o)], ldU ld (ld o) (ld p), _, Cc, mt_u h0 rfl rfl k1 k2 hK' z1 z2 e0 e1 l1 l2 hxy2 (bd_n (by omega) (by omega)) ea zj eb (by rw [i6.1, nI_1]) f1, ⟨fun j j47 j49 => ?_, fun j j2 j46 j48 => ?_⟩, ⟨upL lk (ld o) (some (ld p)), _, eqI_u i1 mo mp hld hh hs, ⟨fun a ha => ?_, fun a ha hne => ?_⟩, fun a ha => ?_, fun q hq => ?_, fun a ha => ?_, ⟨?_, fun j a hj => ?_⟩, ⟨?_, fun j e hj => ?_⟩, fun e he => ?_, ?_⟩, fun a b h => ldU_m h, Or.inr ⟨o, p, rfl, rfl, rfl, by rw [hZ, hnp, Nat.add_comm], few2.1⟩, Or.inl ⟨rfl, Or.inl (Or.inr ⟨o, p, rfl, rfl, ?_⟩)⟩⟩
                    · rw [upd_n j47, upd_n j49]; exact hf.1 j j47 j49
                    · rw [hCc j j2 j46 j48]; exact hf.2 j j2 j46 j48
                    · rw [hCc2]
                      by_cases e : a = ld o
                      · rw [e, upL_e rfl, upd_e rfl]
                        rfl
                      · rw [upL_n e, upd_n (fun h => e (adr_inj (Z := gZ G) (gZ_pos G) ha mo' h))]
                        exact i2.1 a ha
                    · rw [hCc2] at hne
                      by_cases e : a = adr (gZ G) lR (ld o)
                      · exact ⟨_, mo', e⟩
                      · rw [upd_n e] at hne
                        exact i2.2 a ha hne
                    · by_cases e : a = ld o
                      · rw [e]; exact List.mem_append_right _ (List.mem_singleton.mpr rfl)
                      · rw [upL_n e] at ha
                        exact List.mem_append_left _ (i3 a ha)
                    · rcases List.mem_append.mp hq with hq | hq
                      · exact i4 q hq
                      · rw [List.mem_singleton.mp hq]
                        exact h6
                    · rcases mem_snoc.mp ha with ha | rfl
                      · exact i5 a ha
                      · rw [hZ, hnp]; omega
                    · rw [upd_n (by omega), upd_e rfl, List.length_append]
                      rfl
                    · rw [hCc48]
                      by_cases hj1 : j < nl.length
                      · rw [List.getElem?_append_left hj1] at hj
                        rw [upd_n (by omega)]
                        exact i6.2 j a hj
                      · by_cases hj2 : j = nl.length
                        · subst hj2
                          rw [List.getElem?_append_right (Nat.le_refl _), Nat.sub_self] at hj
                          have hj : ld o = a := Option.some.inj hj
                          rw [upd_e rfl, hj]
                        · rw [List.getElem?_eq_none (by rw [List.length_append]; show nl.length + 1 ≤ j; omega)] at hj
                          cases hj
                    · rw [upd_e rfl, List.length_append]
                      rfl
                    · by_cases hj1 : j < st.length
                      · rw [List.getElem?_append_left hj1] at hj
                        rw [f6 _ (by omega), f6 _ (by omega), f6 _ (by omega), hCb46]
                        exact i7.2 j e hj
                      · by_cases hj2 : j = st.length
                        · subst hj2
                          rw [List.getElem?_append_right (Nat.le_refl _), Nat.sub_self] at hj
                          have hj : (o, p, 1, ld o) = e := Option.some.inj hj
                          rw [← hj]
                          exact ⟨f3, f4, f5⟩
                        · rw [List.getElem?_eq_none (by rw [List.length_append]; show st.length + 1 ≤ j; omega)] at hj
                          cases hj
                    · rcases List.mem_append.mp he with he | he
                      · obtain ⟨q1, q2, q3, q4, q5⟩ := i8 e he
                        exact ⟨List.mem_append_left _ q1, q2, q3, List.mem_append_left _ q4, q5⟩
                      · rw [List.mem_singleton.mp he]
                        exact ⟨List.mem_append_right _ (List.mem_singleton.mpr rfl), Nat.le_refl _, hnp1, List.mem_append_right _ (List.mem_singleton.mpr rfl), hZ⟩
                    · rw [List.map_append]
                      refine nodup_snoc i9 (fun hm => ?_)
                      obtain ⟨e, he, hee⟩ := List.mem_map.mp hm
                      have := (i8 e he).2.2.2.1
                      rw [hee] at this
                      exact hnlo this
                    · unfold ldU
                      rw [if_pos rfl, if_neg (Ne.symm hld)]
                · have h3 : gK G o = 3 := h23.resolve_left (fun h => hnn' (t4 h))
                  rw [h3] at k1 k2
                  exact no (fun h => hnn' ((sEq_hd (hs h) hop).1.2.2.1 h6)) (mt_h1 h0 rfl rfl k1 k2 z1 z2 e0 (show ¬ C 1 (nI (adr (gZ G) lR o)).toNatClampNeg = C 1 (nI (adr (gZ G) lR p)).toNatClampNeg by rw [w1, w1']; exact hnn'))
              · exact no (fun h => hcc (sEq_hd (hs h) hop).1.2.1) (mt_h0 h0 rfl rfl k1 k2 hK' z1 z2 (show ¬ C 0 (nI (adr (gZ G) lR o)).toNatClampNeg = C 0 (nI (adr (gZ G) lR p)).toNatClampNeg by rw [w0, w0']; exact fun h => hcc (t1.mp h)))
            · refine no (fun h => ?_) (mt_o h0 rfl rfl k1 k2 (ne_l (b := 6) h6 (by omega) (by omega)) (ne_l (b := 2) (fun h => h23 (Or.inl h)) (by omega) (by omega)) (ne_l (b := 3) (fun h => h23 (Or.inr h)) (by omega) (by omega)))
              rcases (sEq_hd (hs h) hop).1.2.2.2 with h | h | h
              · exact h23 (Or.inl h)
              · exact h23 (Or.inr h)
              · exact h6 h
        · exact no (fun h => hk (sEq_hd (hs h) hop).1.1) (mt_k h0 rfl rfl k1 k2 (ne_l hk (by omega) (by omega)))
      · refine no (fun h => ?_) (mt_n2 h0 rfl (tR_ne hy (fun p hp => hyo ⟨p, hp⟩)))
        obtain ⟨o', p', _, h2, _⟩ := sEq_ob (hs h) hxy
        exact hyo ⟨p', h2⟩
    · refine no (fun h => ?_) (mt_n1 h0 (tR_ne hx (fun p hp => hxo ⟨p, hp⟩)))
      obtain ⟨o', p', h1, _, _⟩ := sEq_ob (hs h) hxy
      exact hxo ⟨o', h1⟩
end ME
