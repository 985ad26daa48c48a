/-! EQUAL on the reference's side: the loops; instruction 33 -/
section IR
variable {N : Nat}
variable {nk : Nat → Nat} {nm : Nat} {nid : Nat} {G : Nat → GO} {lE : List Nat} {gg : Nat → AV} {t : Nat} {gs : Nat → AV} {fr : Nat} {gc : Nat → AV} {hn : Nat} {gb : Nat → Nat} {gf : Nat → Nat} {gr : Nat → Int32} {hF : Nat → Nat} {hH : Nat → Nat} {hP : Nat → Int32} {hD : Nat → Int32} {lR : List Nat} {P_size : Int32} {P_constants : Int32} {P_closed : Int32} {P_open : Int32} {O_size : Int32} {S_top : Int32} {S_frames : Int32} {S_handlers : Int32} {H_globalsUsed : Int32} {H_used : Int32} {H_spareUsed : Int32} {H_old : Int32} {H_oldLeadsToNew : Int32} {H_limit : Int32} {H_every : Int32} {H_fresh : Int32} {H_made : Int32} {H_madeLimit : Int32} {H_reachedFromGlobals : Int32} {H_reachedInAll : Int32} {H_keptGlobalsUsed : Int32} {H_kept : Int32} {B_names : Int32} {Q_size : Int32} {M_status : Int32} {M_place : Int32} {M_next : Int32} {M_fuel : Int32} {M_ticks : Int32} {M_depth : Int32} {M_depthLimit : Int32} {M_done : Int32} {n_P_words : Nat} {f_P_words : Nat → Int32} {n_P_bytes : Nat} {f_P_bytes : Nat → Int32} {n_P_ends : Nat} {f_P_ends : Nat → Int32} {n_O_bytes : Nat} {f_O_bytes : Nat → Int32} {n_S_values : Nat} {f_S_values : Nat → Int64} {n_S_bases : Nat} {f_S_bases : Nat → Int32} {n_S_floors : Nat} {f_S_floors : Nat → Int32} {n_S_returns : Nat} {f_S_returns : Nat → Int32} {n_S_closures : Nat} {f_S_closures : Nat → Int64} {n_S_handlerFrames : Nat} {f_S_handlerFrames : Nat → Int32} {n_S_handlerPlaces : Nat} {f_S_handlerPlaces : Nat → Int32} {n_S_handlerHeights : Nat} {f_S_handlerHeights : Nat → Int32} {n_S_handlerDepths : Nat} {f_S_handlerDepths : Nat → Int32} {n_H_globals : Nat} {f_H_globals : Nat → Int64} {n_H_cells : Nat} {f_H_cells : Nat → Int64} {n_H_spare : Nat} {f_H_spare : Nat → Int64} {n_Q_links : Nat} {f_Q_links : Nat → Int32} {n_Q_pairs : Nat} {f_Q_pairs : Nat → Int64} {I : Nat → Int32} {F : Nat → Nat → Int32}
variable {v w : AV}
theorem mem_snoc' {α : Type} {s : List α} {o q : α} (h : q ∈ s ++ [o]) : q ∈ s ∨ q = o := (List.mem_append.mp h).elim Or.inl (fun h => Or.inr (List.mem_singleton.mp h))
theorem iq1 (hN : 400000 ≤ N) (hr : rR nk nm nid G lR gg t gs fr gc hn gb gf gr hF hH hP hD I F) (hnn : nm < 134217728) :
    ∀ (m : Nat) (ps : List (Nat × Nat)) (nl : List Nat) (st : List (Nat × Nat × Nat × Nat)) (ld : Nat → Nat) (J : Nat → Int32) (C : Nat → Nat → Int32), frQ I F J C → SR G lR v w J C ps nl st ld → (st = [] ∨ ∃ st0 e, st = st0 ++ [e] ∧ ∀ e', e' ∈ st0 → 2 ≤ gNp G e'.1) → clmR G ld ps st → (tot (gZ G) lR - tot (gZ G) nl) + smR G st < m →
      ∃ (r : Nat) (ps' : List (Nat × Nat)) (nl' : List Nat) (st' : List (Nat × Nat × Nat × Nat)) (ld' : Nat → Nat) (J' : Nat → Int32) (C' : Nat → Nat → Int32), (∀ (ζ : Type) (k : Int32 → (Nat → Nat → Int32) → (Nat → Int32) → Option ζ), lm_Model_isEqual_1 N k m 1 C J = k (nI r) C' J') ∧ frQ I F J' C' ∧ SR G lR v w J' C' ps' nl' st' ld' ∧ (∀ a b, ld a = ld b → ld' a = ld' b) ∧ (r = 1 ∧ (∀ q, q ∈ ps' → dunR G ld' q.1 q.2) ∨ r = 0 ∧ ¬ sEq G v w)
  | 0, ps, nl, st, ld, J, C, _, _, _, _, h => absurd h (Nat.not_lt_zero _)
  | m + 1, ps, nl, st, ld, J, C, hf, hS, hst, hcl, hm => by
    obtain ⟨c1, c2, c3, c4, c5, c6⟩ := hr.2.2
    have hS' := hS
    obtain ⟨lk, d, i1, i2, i3, i4, i5, i6, i7, i8, i9⟩ := hS'
    rcases hst with rfl | ⟨st0, e, rfl, h20⟩
    · refine ⟨1, ps, nl, [], ld, J, C, fun ζ k => ?_, hf, hS, fun _ _ h => h, Or.inl ⟨rfl, fun q hq => ?_⟩⟩
      · rw [lm_Model_isEqual_1, i7.1, if_pos (by decide)]
        rfl
      · rcases hcl.2 q hq with h | ⟨e, he, _⟩
        · exact h
        · cases he
    · obtain ⟨o, p, i, x⟩ := e
      have heS : (o, p, i, x) ∈ st0 ++ [(o, p, i, x)] := List.mem_append_right _ (List.mem_singleton.mpr rfl)
      obtain ⟨q1, q2, q3, q4, q5⟩ := i8 _ heS
      dsimp only at q1 q2 q3 q4 q5
      obtain ⟨p1, p2, p3, p4⟩ := i1.2.2.2.1 _ q1
      dsimp only at p1 p2 p3 p4
      have h6 : gK G o ≠ 6 := i4 _ q1
      obtain ⟨a1, a2, a3, a4, a5, a6⟩ := obj_R hr p1
      obtain ⟨b1, b2, b3, b4, b5, b6⟩ := obj_R hr p2
      have hnp := gZ_np (G := G) (o := o) h6
      have hz2 := (np_hd p3).2
      have hnp2 := (np_hd p3).1
      have hnb := np_bd a3 hnn
      have C0 : C 0 = F 0 := hf.2 0 (by omega) (by omega) (by omega)
      have C1 : C 1 = F 1 := hf.2 1 (by omega) (by omega) (by omega)
      obtain ⟨g1, g2, g3⟩ := a6 i q2 q3
      obtain ⟨g1', g2', g3'⟩ := b6 i q2 (by omega)
      have hget := i7.2 st0.length (o, p, i, x) (by rw [List.getElem?_append_right (Nat.le_refl _), Nat.sub_self]; rfl)
      dsimp only at hget
      have h47 : J 47 = nI (3 * (st0.length + 1)) := by rw [i7.1, List.length_append]; rfl
      have hmem0 : ∀ e', e' ∈ st0 → e' ∈ st0 ++ [(o, p, i, x)] := fun e' h => List.mem_append_left _ h
      have hnd : (st0.map (fun e => e.2.2.2)).Nodup ∧ x ∉ st0.map (fun e => e.2.2.2) := by
        rw [List.map_append] at i9
        have := List.nodup_append.mp i9
        refine ⟨this.1, fun hx => ?_⟩
        exact this.2.2 x hx x (List.mem_singleton.mpr rfl) rfl
      have hpa := partsAt_R (N := N) (I := upd J 47 (nI (3 * st0.length))) (F := C) (a := adr (gZ G) lR o) a3 (by omega) (by rw [C0]; exact a4)
      have hS0 : SR G lR v w (upd J 47 (nI (3 * st0.length))) C ps nl st0 ld := by
        refine ⟨lk, d, i1, i2, i3, i4, i5, ⟨by rw [upd_n (by omega)]; exact i6.1, i6.2⟩, ⟨upd_e rfl, fun j e' hj => ?_⟩, fun e' he' => i8 e' (hmem0 e' he'), hnd.1⟩
        have hjl : j < st0.length := by
          by_cases hjl : j < st0.length
          · exact hjl
          · rw [List.getElem?_eq_none (by omega)] at hj
            cases hj
        exact i7.2 j e' (by rw [List.getElem?_append_left hjl]; exact hj)
      have few0 := st_few hS0 c4 h20
      have hf0 : frQ I F (upd J 47 (nI (3 * st0.length))) C := ⟨fun j j47 j49 => by rw [upd_n j47]; exact hf.1 j j47 j49, hf.2⟩
      obtain ⟨J1, Cx, st1, k1, k2, k3, k4, k5, k6, k7, k8⟩ : ∃ (J1 : Nat → Int32) (Cx : Nat → Nat → Int32) (st1 : List (Nat × Nat × Nat × Nat)), (gNp G o ≤ i → Cx = C ∧ J1 = upd J 47 (nI (3 * st0.length))) ∧ (¬ gNp G o ≤ i → m_Model_compareLater N (upd J 47 (nI (3 * st0.length))) C (nI (adr (gZ G) lR o)) (nI (adr (gZ G) lR p)) (nI (i + 1)) = some (Cx, J1)) ∧ frQ I F J1 Cx ∧ SR G lR v w J1 Cx ps nl st1 ld ∧ (∀ e', e' ∈ st1 → 2 ≤ gNp G e'.1) ∧ smR G st1 + 1 ≤ smR G (st0 ++ [(o, p, i, x)]) ∧ (∀ e', e' ∈ st1 → e' ∈ st0 ∨ e' = (o, p, i + 1, x)) ∧ (st1 = st0 ∧ gNp G o ≤ i ∨ st1 = st0 ++ [(o, p, i + 1, x)]) := by
        by_cases hgi : gNp G o ≤ i
        · refine ⟨_, C, st0, fun _ => ⟨rfl, rfl⟩, fun h => absurd hgi h, hf0, hS0, h20, ?_, fun e' h => Or.inl h, Or.inl ⟨rfl, hgi⟩⟩
          rw [smR_a]
          dsimp only
          omega
        · obtain ⟨C', f1, f2, f3, f4, f5, f6⟩ := later_R (N := N) (J := upd J 47 (nI (3 * st0.length))) (C := C) (s := st0.length) (a := nI (adr (gZ G) lR o)) (b := nI (adr (gZ G) lR p)) (c := nI (i + 1)) (upd_e rfl) (by omega)
          refine ⟨_, C', st0 ++ [(o, p, i + 1, x)], fun h => absurd h hgi, fun _ => f1, ⟨fun j j47 j49 => by rw [upd_n j47, upd_n j47]; exact hf.1 j j47 j49, fun j j2 j46 j48 => by rw [f2 j j46]; exact hf.2 j j2 j46 j48⟩, ⟨lk, d, i1, by rw [f2 2 (by omega)]; exact i2, i3, i4, i5, ⟨by rw [upd_n (by omega), upd_n (by omega)]; exact i6.1, by rw [f2 48 (by omega)]; exact i6.2⟩, ⟨by rw [upd_e rfl, List.length_append]; rfl, fun j e' hj => ?_⟩, fun e' he' => ?_, ?_⟩, fun e' he' => ?_, ?_, fun e' he' => mem_snoc' he', Or.inr rfl⟩
          · by_cases hjl : j < st0.length
            · rw [List.getElem?_append_left hjl] at hj
              rw [f6 _ (by omega), f6 _ (by omega), f6 _ (by omega)]
              exact i7.2 j e' (by rw [List.getElem?_append_left hjl]; exact hj)
            · by_cases hj2 : j = st0.length
              · subst hj2
                rw [List.getElem?_append_right (Nat.le_refl _), Nat.sub_self] at hj
                have hj : (o, p, i + 1, x) = e' := Option.some.inj hj
                rw [← hj]
                exact ⟨f3, f4, f5⟩
              · rw [List.getElem?_eq_none (by rw [List.length_append]; show st0.length + 1 ≤ j; omega)] at hj
                cases hj
          · rcases mem_snoc' he' with h | rfl
            · exact i8 e' (hmem0 e' h)
            · exact ⟨q1, by dsimp only; omega, by dsimp only; omega, q4, q5⟩
          · rw [List.map_append]
            exact nodup_snoc hnd.1 hnd.2
          · rcases mem_snoc' he' with h | rfl
            · exact h20 e' h
            · dsimp only
              omega
          · rw [smR_a, smR_a]
            dsimp only
            omega
      have D0 : Cx 0 = F 0 := k3.2 0 (by omega) (by omega) (by omega)
      have D1 : Cx 1 = F 1 := k3.2 1 (by omega) (by omega) (by omega)
      obtain ⟨r, ps', nl', st', ld', J', C', d1, d2, d3, d4, d5, d6⟩ := meets_R (N := N) hN hr hnn k3 k4 g3 g3' (fun h => sEq_P (i1.2.2.2.2.1 h _ q1) h6 q2 q3) k5
      have hstep : ∀ (ζ : Type) (k : Int32 → (Nat → Nat → Int32) → (Nat → Int32) → Option ζ), lm_Model_isEqual_1 N k (m + 1) 1 C J = lm_Model_isEqual_1 N k m (nI r) C' J' := fun ζ k => iq_st h47 (by omega) hget.1 hget.2.1 hget.2.2 hpa (by omega) (by omega) k1 k2 (by omega) (by omega) (by rw [D0]; exact g1) (by rw [D1]; exact g2) (by rw [D0]; exact g1') (by rw [D1]; exact g2') d1
      have hsm : smR G (st0 ++ [(o, p, i, x)]) ≥ 1 := by omega
      rcases d6 with ⟨rfl, d6⟩ | ⟨rfl, d6⟩
      · have hc1 : ∀ e', e' ∈ st1 → ∀ j, 1 ≤ j → j < e'.2.2.1 → relR G ld' (gP G e'.1 j) (gP G e'.2.1 j) := by
          intro e' he' j hj hji
          rcases k7 e' he' with h | rfl
          · exact relR_m d4 (hcl.1 e' (hmem0 e' h) j hj hji)
          · dsimp only at hji ⊢
            by_cases e : j = i
            · rw [e]; exact d6
            · exact relR_m d4 (hcl.1 _ heS j hj (by dsimp only; omega))
        have hd1 : ∀ q, q ∈ ps → dunR G ld' q.1 q.2 ∨ ∃ e, e ∈ st1 ∧ e.1 = q.1 ∧ e.2.1 = q.2 := by
          intro q hq
          rcases hcl.2 q hq with h | ⟨e', he', hq1, hq2⟩
          · exact Or.inl (fun j hj hjn => relR_m d4 (h j hj hjn))
          · rcases mem_snoc' he' with h | rfl
            · refine Or.inr ⟨e', ?_, hq1, hq2⟩
              rcases k8 with ⟨h8, _⟩ | h8
              · rw [h8]; exact h
              · rw [h8]; exact List.mem_append_left _ h
            · rcases k8 with ⟨h8, h9⟩ | h8
              · refine Or.inl (fun j hj hjn => ?_)
                dsimp only at hq1 hq2
                rw [← hq1] at hjn
                rw [← hq1, ← hq2]
                by_cases e : j = i
                · rw [e]; exact d6
                · exact relR_m d4 (hcl.1 _ heS j hj (by dsimp only; omega))
              · exact Or.inr ⟨(o, p, i + 1, x), by rw [h8]; exact List.mem_append_right _ (List.mem_singleton.mpr rfl), hq1, hq2⟩
        have main : (st' = [] ∨ ∃ st0 e, st' = st0 ++ [e] ∧ ∀ e', e' ∈ st0 → 2 ≤ gNp G e'.1) ∧ clmR G ld' ps' st' ∧ (tot (gZ G) lR - tot (gZ G) nl') + smR G st' < m := by
          rcases d5 with ⟨rfl, rfl, rfl⟩ | ⟨o', p', rfl, rfl, rfl, z1, z2⟩
          · refine ⟨?_, ⟨hc1, hd1⟩, by omega⟩
            rcases k8 with ⟨h8, _⟩ | h8
            · by_cases hn : st' = []
              · exact Or.inl hn
              · right
                refine ⟨st'.dropLast, st'.getLast hn, (List.dropLast_concat_getLast hn).symm, fun e' he' => k5 e' (List.dropLast_subset _ he')⟩
            · exact Or.inr ⟨st0, _, h8, h20⟩
          · refine ⟨Or.inr ⟨st1, _, rfl, k5⟩, ⟨fun e' he' j hj hji => ?_, fun q hq => ?_⟩, ?_⟩
            · rcases mem_snoc' he' with h | rfl
              · exact hc1 e' h j hj hji
              · dsimp only at hji
                omega
            · rcases List.mem_append.mp hq with hq | hq
              · rcases hd1 q hq with h | ⟨e', he', h'⟩
                · exact Or.inl h
                · exact Or.inr ⟨e', List.mem_append_left _ he', h'⟩
              · rw [List.mem_singleton.mp hq]
                exact Or.inr ⟨_, List.mem_append_right _ (List.mem_singleton.mpr rfl), rfl, rfl⟩
            · rw [tot_append, tot_one, smR_a]
              dsimp only
              omega
        obtain ⟨r2, ps2, nl2, st2, ld2, J2, C2, e1, e2, e3, e4, e5⟩ := iq1 hN hr hnn m ps' nl' st' ld' J' C' d2 d3 main.1 main.2.1 main.2.2
        exact ⟨r2, ps2, nl2, st2, ld2, J2, C2, fun ζ k => by rw [hstep, show nI 1 = (1 : Int32) from rfl, e1], e2, e3, fun a b h => e4 a b (d4 a b h), e5⟩
      · obtain ⟨m, rfl⟩ : ∃ m', m = m' + 1 := ⟨m - 1, by omega⟩
        exact ⟨0, ps', nl', st', ld', J', C', fun ζ k => by rw [hstep, iq_x], d2, d3, d4, Or.inr ⟨rfl, d6⟩⟩
theorem iq3 {l : List Nat} {nl : List Nat} {F0 : Nat → Nat → Int32} (hnl : ∀ a, a ∈ nl → a ∈ l) (ht : tot (gZ G) l ≤ 131072) (hn6 : nl.length ≤ 65536) (h48 : ∀ j a, nl[j]? = some a → F0 48 j = nI (adr (gZ G) l a)) :
    ∀ (m j : Nat) (J : Nat → Int32) (C : Nat → Nat → Int32), j ≤ nl.length → j < m → J 49 = nI j → C 48 = F0 48 → (∀ a, a < 131072 → C 2 a ≠ mI1 → ∃ i x, i < j ∧ nl[i]? = some x ∧ a = adr (gZ G) l x) →
      ∃ (J' : Nat → Int32) (C' : Nat → Nat → Int32), (∀ (ζ : Type) (k : (Nat → Nat → Int32) → (Nat → Int32) → Option ζ), lm_Model_isEqual_3 N k m C J = k C' J') ∧ J' 49 = nI 0 ∧ (∀ i, i ≠ 49 → J' i = J i) ∧ (∀ i, i ≠ 2 → C' i = C i) ∧ (∀ a, a < 131072 → C' 2 a = mI1)
  | 0, j, J, C, _, h, _, _, _ => absurd h (Nat.not_lt_zero _)
  | m + 1, j, J, C, hj, hm, h49, h48', hz => by
    by_cases q : j = 0
    · subst q
      refine ⟨J, C, fun ζ k => ?_, h49, fun _ _ => rfl, fun _ _ => rfl, fun a ha => ?_⟩
      · rw [lm_Model_isEqual_3, h49, if_pos (by decide)]
      · by_cases h : C 2 a = mI1
        · exact h
        · obtain ⟨i, x, h1, _⟩ := hz a ha h
          omega
    · obtain ⟨x, hx⟩ : ∃ x, nl[j - 1]? = some x := ⟨nl[j - 1], List.getElem?_eq_getElem (by omega)⟩
      have hxl := hnl x (List.mem_of_getElem? hx)
      have b1 := adr_end (Z := gZ G) hxl
      have g1 := gZ_pos G x
      have hf := h48 _ _ hx
      rw [← h48'] at hf
      have hJ : upd J 49 (J 49 - 1) = upd J 49 (nI (j - 1)) := by rw [h49, show (1 : Int32) = nI 1 from rfl, q_sub (by omega)]
      obtain ⟨J', C', d1, d2, d3, d4, d5⟩ := iq3 hnl ht hn6 h48 m (j - 1) (upd J 49 (nI (j - 1))) (updF C 2 (upd (C 2) (adr (gZ G) l x) (-1))) (by omega) (by omega) (upd_e rfl) (by rw [updF_n (by omega)]; exact h48') (fun a ha hne => by
        rw [updF_e rfl] at hne
        have ne : a ≠ adr (gZ G) l x := fun e => hne (by rw [upd_e e]; rfl)
        rw [upd_n ne] at hne
        obtain ⟨i, y, h1, h2, h3⟩ := hz a ha hne
        refine ⟨i, y, ?_, h2, h3⟩
        by_cases e : i = j - 1
        · rw [e, hx] at h2
          have h2 : x = y := Option.some.inj h2
          rw [← h2] at h3
          exact absurd h3 ne
        · omega)
      refine ⟨J', C', fun ζ k => ?_, d2, fun i hi => by rw [d3 i hi, upd_n hi], fun i hi => by rw [d4 i hi, updF_n hi], d5⟩
      rw [lm_Model_isEqual_3, if_neg (show ¬ J 49 ≤ 0 by rw [h49, show (0 : Int32) = nI 0 from rfl, q_le_f (by omega) (by omega)]; exact id), let_d, hJ, show (upd J 49 (nI (j - 1))) 49 = nI (j - 1) from upd_e rfl, if_neg (bd_n (by omega) (by omega)), q_cl (by omega), hf, if_neg (bd_n (by omega) (by omega)), let_d, q_cl (by omega)]
      exact d1 ζ k
theorem iq_ev {a b r : Int32} {t1 v1 t2 v2 r1 : Int32} {C1 C2 C3 : Nat → Nat → Int32} {J0 J1 J2 J3 : Nat → Int32} (hJ : upd I 47 0 = J0) (h1 : J0 29 - 2 = a) (z1 : ¬ (a < 0 ∨ 65536 ≤ a.toNatClampNeg)) (h2 : J0 29 - 1 = b) (z2 : ¬ (b < 0 ∨ 65536 ≤ b.toNatClampNeg)) (e1 : F 27 a.toNatClampNeg = t1) (e2 : F 28 a.toNatClampNeg = v1) (e3 : F 27 b.toNatClampNeg = t2) (e4 : F 28 b.toNatClampNeg = v2) (hm : m_Model_meets N J0 F t1 v1 t2 v2 = some (r1, C1, J1)) (hl : ∀ (ζ : Type) (k : Int32 → (Nat → Nat → Int32) → (Nat → Int32) → Option ζ), lm_Model_isEqual_1 N k N r1 C1 J1 = k r C2 J2) (h3 : ∀ (ζ : Type) (k : (Nat → Nat → Int32) → (Nat → Int32) → Option ζ), lm_Model_isEqual_3 N k N C2 J2 = k C3 J3) (hr : r = 0 ∨ r = 1) : m_Model_isEqual N I F = some (r, C3, J3) := by
  unfold m_Model_isEqual
  rw [let_d, hJ, h1, h2, if_neg z1, if_neg z1, if_neg z2, if_neg z2, e1, e2, e3, e4, hm, bind_s]
  dsimp only
  rw [hl, h3, if_neg (fun h => h hr)]
theorem isEq_R (hN : 400000 ≤ N) (hr : rR nk nm nid G lR gg t gs fr gc hn gb gf gr hF hH hP hD I F) (hnn : nm < 134217728) (h49 : I 49 = nI 0) (ht2 : 2 ≤ t) (ht : t ≤ 65536) : ∃ (r : Nat) (C' : Nat → Nat → Int32) (J' : Nat → Int32), m_Model_isEqual N I F = some (nI r, C', J') ∧ (r = 1 ∧ sEq G (gs (t - 2)) (gs (t - 1)) ∨ r = 0 ∧ ¬ sEq G (gs (t - 2)) (gs (t - 1))) ∧ J' 49 = nI 0 ∧ (∀ j, j ≠ 47 → j ≠ 49 → J' j = I j) ∧ (∀ j, j ≠ 2 → j ≠ 46 → j ≠ 48 → C' j = F j) ∧ (∀ a, a < 131072 → C' 2 a = mI1) := by
  obtain ⟨c1, c2, c3, c4, c5, c6, c7⟩ := hr.2.2
  obtain ⟨u1, u2, u3⟩ := vRr hr (k := t - 2) (by omega)
  obtain ⟨w1, w2, w3⟩ := vRr hr (k := t - 1) (by omega)
  have h29 := hr.1.1
  have hS0 : SR G lR (gs (t - 2)) (gs (t - 1)) (upd I 47 0) F [] [] [] (fun a => a) := by
    refine ⟨fun _ => none, fun _ => 0, eqI_0, ⟨fun o ho => ?_, fun a ha hne => absurd (c6 a ha) hne⟩, fun o h => absurd rfl h, fun q h => (by cases h), fun a h => (by cases h), ⟨by rw [upd_n (by omega)]; exact h49, fun j a h => (by cases h)⟩, ⟨upd_e rfl, fun j a h => (by cases h)⟩, fun e h => (by cases h), List.nodup_nil⟩
    have := adr_end (Z := gZ G) ho
    have := gZ_pos G o
    exact c6 _ (by omega)
  have hf0 : frQ I F (upd I 47 0) F := ⟨fun j h _ => upd_n h, fun _ _ _ _ => rfl⟩
  obtain ⟨r1, ps1, nl1, st1, ld1, J1, C1, d1, d2, d3, d4, d5, d6⟩ := meets_R (N := N) hN hr hnn hf0 hS0 u3 w3 (fun h => h) (fun e h => (by cases h))
  have main : ∃ (r : Nat) (ps' : List (Nat × Nat)) (nl' : List Nat) (st' : List (Nat × Nat × Nat × Nat)) (ld' : Nat → Nat) (J' : Nat → Int32) (C' : Nat → Nat → Int32), (∀ (ζ : Type) (k : Int32 → (Nat → Nat → Int32) → (Nat → Int32) → Option ζ), lm_Model_isEqual_1 N k N (nI r1) C1 J1 = k (nI r) C' J') ∧ frQ I F J' C' ∧ SR G lR (gs (t - 2)) (gs (t - 1)) J' C' ps' nl' st' ld' ∧ (r = 1 ∧ sEq G (gs (t - 2)) (gs (t - 1)) ∨ r = 0 ∧ ¬ sEq G (gs (t - 2)) (gs (t - 1))) := by
    rcases d6 with ⟨rfl, d6⟩ | ⟨rfl, d6⟩
    · have hst : (st1 = [] ∨ ∃ st0 e, st1 = st0 ++ [e] ∧ ∀ e', e' ∈ st0 → 2 ≤ gNp G e'.1) ∧ clmR G ld1 ps1 st1 ∧ (tot (gZ G) lR - tot (gZ G) nl1) + smR G st1 < N := by
        rcases d5 with ⟨rfl, rfl, rfl⟩ | ⟨o', p', rfl, rfl, rfl, z1, z2⟩
        · refine ⟨Or.inl rfl, ⟨fun e h => (by cases h), fun q h => (by cases h)⟩, ?_⟩
          simp only [tot, smR]
          omega
        · refine ⟨Or.inr ⟨[], _, rfl, fun e h => (by cases h)⟩, ⟨fun e' he' j hj hji => ?_, fun q hq => ?_⟩, ?_⟩
          · have he' := List.mem_singleton.mp he'
            rw [he'] at hji
            dsimp only at hji
            omega
          · have hq := List.mem_singleton.mp hq
            rw [hq]
            exact Or.inr ⟨_, List.mem_singleton.mpr rfl, rfl, rfl⟩
          · rw [tot_append, tot_one, smR_a]
            simp only [tot, smR]
            omega
      obtain ⟨r, ps', nl', st', ld', J', C', e1, e2, e3, e4, e5⟩ := iq1 (N := N) hN hr hnn N ps1 nl1 st1 ld1 J1 C1 d2 d3 hst.1 hst.2.1 hst.2.2
      refine ⟨r, ps', nl', st', ld', J', C', e1, e2, e3, ?_⟩
      rcases e5 with ⟨h, e5⟩ | h
      · obtain ⟨lk, d, i1, i2, i3, i4, _⟩ := e3
        exact Or.inl ⟨h, fun n => all_eqR i1.2.2.1 (fun q hq => ⟨(i1.2.2.2.1 q hq).2.2.1, i4 q hq⟩) e5 n _ _ (relR_m e4 d6)⟩
      · exact Or.inr h
    · obtain ⟨M, hM⟩ : ∃ M, N = M + 1 := ⟨N - 1, by omega⟩
      refine ⟨0, ps1, nl1, st1, ld1, J1, C1, fun ζ k => ?_, d2, d3, Or.inr ⟨rfl, d6⟩⟩
      have h := iq_x (N := N) (m := M) (J := J1) (C := C1) (k := k)
      rw [← hM] at h
      exact h
  obtain ⟨r, ps', nl', st', ld', J', C', e1, e2, e3, e4⟩ := main
  obtain ⟨lk, d, i1, i2, i3, i4, i5, i6, i7, i8, i9⟩ := e3
  have hlen2 := tot_len (Z := gZ G) (l := nl') (k := 2) i5
  have htl := tot_sub (Z := gZ G) i1.2.2.2.2.2.1 (m := lR) (fun a ha => (i1.2.2.2.2.2.2.1 a ha).1)
  obtain ⟨J3, C3, f1, f2, f3, f4, f5⟩ := iq3 (N := N) (G := G) (l := lR) (nl := nl') (F0 := C') (fun a ha => (i1.2.2.2.2.2.2.1 a ha).1) c4 (by omega) i6.2 N nl'.length J' C' (Nat.le_refl _) (by omega) i6.1 rfl (fun a ha hne => by
    obtain ⟨o, ho, rfl⟩ := i2.2 a ha hne
    have hlo : lk o ≠ none := fun h => hne (by rw [i2.1 o ho, h]; rfl)
    obtain ⟨j, hj⟩ := List.getElem?_of_mem (i3 o hlo)
    refine ⟨j, o, ?_, hj, rfl⟩
    by_cases hjl : j < nl'.length
    · exact hjl
    · rw [List.getElem?_eq_none (by omega)] at hj
      cases hj)
  have hr01 : nI r = 0 ∨ nI r = 1 := by
    rcases e4 with ⟨rfl, _⟩ | ⟨rfl, _⟩
    · exact Or.inr rfl
    · exact Or.inl rfl
  refine ⟨r, C3, J3, ?_, e4, f2, fun j j47 j49 => by rw [f3 j j49]; exact e2.1 j j47 j49, fun j j2 j46 j48 => by rw [f4 j j2]; exact e2.2 j j2 j46 j48, f5⟩
  refine iq_ev rfl (a := nI (t - 2)) (by rw [upd_n (by omega), h29, show (2 : Int32) = nI 2 from rfl, q_sub (by omega)]) (bd_n (by omega) (by omega)) (b := nI (t - 1)) (by rw [upd_n (by omega), h29, show (1 : Int32) = nI 1 from rfl, q_sub (by omega)]) (bd_n (by omega) (by omega)) (by rw [q_cl (by omega)]; exact u1) (by rw [q_cl (by omega)]; exact u2) (by rw [q_cl (by omega)]; exact w1) (by rw [q_cl (by omega)]; exact w2) d1 e1 f1 hr01
theorem rR_eq {I' : Nat → Int32} {F' : Nat → Nat → Int32} (hr : rR nk nm nid G lR gg t gs fr gc hn gb gf gr hF hH hP hD I F) (hI : ∀ j, j ≠ 47 → j ≠ 49 → I' j = I j) (hFF : ∀ j, j ≠ 2 → j ≠ 46 → j ≠ 48 → F' j = F j) (h2 : ∀ a, a < 131072 → F' 2 a = mI1) : rR nk nm nid G lR gg t gs fr gc hn gb gf gr hF hH hP hD I' F' := by
  obtain ⟨⟨a1, a2, a3, a4, a5, a6, a7, a8⟩, ⟨b1, b2⟩, ⟨c1, c2, c3, c4, c5, c6, c7, c8, c9, c10⟩⟩ := hr
  have hF6 : ∀ j, j ≠ 2 ∧ j < 46 → F' j = F j := fun j h => hFF j h.1 (by omega) (by omega)
  have hI6 : ∀ j, j < 47 → I' j = I j := fun j h => hI j (by omega) (by omega)
  refine ⟨⟨?_, ?_, ?_, ?_, ?_, ?_, ?_, ?_⟩, ⟨?_, ?_⟩, ⟨c1, c2, ?_, c4, ?_, h2, c7, ?_, ?_, ?_⟩⟩
  · rw [hI6 29 (by omega)]; exact a1
  · rw [hI6 22 (by omega)]; exact a2
  · rw [hI6 30 (by omega)]; exact a3
  · rw [hF6 24 (by omega), hF6 25 (by omega)]; exact a4
  · rw [hF6 26 (by omega)]; exact a5
  · rw [hF6 31 (by omega), hF6 32 (by omega), hF6 33 (by omega), hF6 34 (by omega)]; exact a6
  · rw [hI6 20 (by omega)]; exact a7
  · rw [hI6 21 (by omega)]; exact a8
  · rw [hF6 27 (by omega), hF6 28 (by omega)]; exact b1
  · rw [hF6 23 (by omega)]; exact b2
  · rw [hI6 3 (by omega)]; exact c3
  · rw [hF6 0 (by omega), hF6 1 (by omega)]; exact c5
  · rw [hF6 5 (by omega), hF6 6 (by omega)]; exact c8
  · rw [hI6 7 (by omega)]; exact c9
  · rw [hI6 8 (by omega)]; exact c10
set_option maxRecDepth 4000 in
set_option maxHeartbeats 4000000 in
theorem op_33 {a wd : Int32} {p L : Nat} (hN : 400000 ≤ N) (he : eR nk nm nid G lE gg t gs fr gc hn gb gf gr hF hH hP hD S_top S_frames S_handlers n_S_values f_S_values n_S_bases f_S_bases n_S_floors f_S_floors n_S_returns f_S_returns n_S_closures f_S_closures n_S_handlerFrames f_S_handlerFrames n_S_handlerPlaces f_S_handlerPlaces n_S_handlerHeights f_S_handlerHeights n_S_handlerDepths f_S_handlerDepths H_globalsUsed H_used H_old H_oldLeadsToNew f_H_globals n_H_cells f_H_cells n_H_spare) (hr : rR nk nm nid G lR gg t gs fr gc hn gb gf gr hF hH hP hD I F) (hx : xR nm M_fuel M_ticks H_made M_depth B_names O_size n_O_bytes f_O_bytes n_Q_links f_Q_links n_Q_pairs n_H_cells I F) (h35 : I 35 = nI p) (hp : p < 262144) (hop : F 14 p = nI 33) (hh : gf (fr - 1) + 2 ≤ t) (h43 : I 43 = nI L) (hL : L ≤ 131072) : opR nm n_H_cells I F (potE n_S_values n_S_bases n_S_handlerFrames n_H_cells n_H_spare n_Q_links n_Q_pairs n_O_bytes) (m_Machine_perform N P_size P_constants P_closed P_open O_size S_top S_frames S_handlers H_globalsUsed H_used H_spareUsed H_old H_oldLeadsToNew (nI L) H_every H_fresh H_made (I 44) H_reachedFromGlobals H_reachedInAll H_keptGlobalsUsed H_kept B_names Q_size M_status (nI p) (nI (p + 1)) M_fuel M_ticks M_depth (I 45) M_done n_P_words f_P_words n_P_bytes f_P_bytes n_P_ends f_P_ends n_O_bytes f_O_bytes n_S_values f_S_values n_S_bases f_S_bases n_S_floors f_S_floors n_S_returns f_S_returns n_S_closures f_S_closures n_S_handlerFrames f_S_handlerFrames n_S_handlerPlaces f_S_handlerPlaces n_S_handlerHeights f_S_handlerHeights n_S_handlerDepths f_S_handlerDepths 2049 f_H_globals n_H_cells f_H_cells n_H_spare f_H_spare n_Q_links f_Q_links n_Q_pairs f_Q_pairs (nI 33) a) (sw N I F a wd) := by
  obtain ⟨q1, q2, q3, qt, qs, qh, qb, qf, q4, q5, q6, q7, q8, q9, qx, qy, qz⟩ := frE he
  obtain ⟨y1, y2, y3, y4, y5⟩ := frR hr q1
  subst qt qs qh
  obtain ⟨hG, hT, hC, hH', hnn⟩ := eR_hp he
  obtain ⟨v1', v2'⟩ := vE he (k := t - 2) (by omega)
  obtain ⟨v1, v2⟩ := vE he (k := t - 1) (by omega)
  have pk0 := eR_peek (N := N) (k := 0) he (by omega)
  rw [Nat.sub_zero] at pk0
  have pk1 := eR_peek (N := N) (k := 1) he (by omega)
  rw [show t - 1 - 1 = t - 2 by omega] at pk1
  obtain ⟨x1, x2, x3, x4, x5, x6, x7, x8, x9, ⟨x10, x11, x12⟩, x13, x14⟩ := hx
  obtain ⟨r, qs, nL', f', nP', fP', cc, ss, a1, a2, a3, a4, a5, a6, a7, a8⟩ := ho_E (N := N) (H_spareUsed := H_spareUsed) (H_limit := nI L) (H_every := H_every) (H_fresh := H_fresh) (H_made := H_made) (H_madeLimit := I 44) (H_reachedFromGlobals := H_reachedFromGlobals) (H_reachedInAll := H_reachedInAll) (H_keptGlobalsUsed := H_keptGlobalsUsed) (H_kept := H_kept) (Q_size := Q_size) (f_Q_pairs := f_Q_pairs) hN he v2' v2 x10 x11 x12 x13 x14
  obtain ⟨r', C', J', b1, b2, b3, b4, b5, b6⟩ := isEq_R (N := N) hN hr hnn x7 (by omega) q3
  have hrr : r = r' := by
    rcases a2 with ⟨h1, h2⟩ | ⟨h1, h2⟩
    · rcases b2 with ⟨h3, h4⟩ | ⟨h3, h4⟩
      · omega
      · exact absurd h2 h4
    · rcases b2 with ⟨h3, h4⟩ | ⟨h3, h4⟩
      · exact absurd h4 h2
      · omega
  subst hrr
  have hr01 : r = 0 ∨ r = 1 := by rcases a2 with h | h <;> omega
  have hr2 := rR_eq hr b4 b5 b6
  obtain ⟨e1, e2⟩ := eR_repl (N := N) (v := vS (nI r)) (k := 2) he (by omega) hh trivial
  obtain ⟨F2, I2, g1, g2, g3, g4⟩ := give_R (N := N) (v := vS (nI r)) hr2 (k := 2) (by omega) (by omega) q3 trivial
  have hI : ∀ j, j ≠ 29 → j ≠ 35 → j ≠ 47 → j ≠ 49 → upd I2 35 (I2 35 + nI 1) j = I j := fun j j29 j35 j47 j49 => by rw [upd_n j35, g3 j j29, b4 j j47 j49]
  have hx2 : xR nm M_fuel M_ticks H_made M_depth B_names O_size n_O_bytes f_O_bytes nL' f' nP' n_H_cells (upd I2 35 (I2 35 + nI 1)) F2 := by
    obtain ⟨wo, y1', y2', y3', y4'⟩ := x8
    refine ⟨x1, ?_, ?_, ?_, ?_, ?_, ?_, ⟨wo, y1', ?_, y3', ?_⟩, x9, ⟨a3, a4, a5⟩, a6, a7⟩
    · rw [hI 4 (by omega) (by omega) (by omega) (by omega)]; exact x2
    · rw [hI 36 (by omega) (by omega) (by omega) (by omega)]; exact x3
    · rw [hI 37 (by omega) (by omega) (by omega) (by omega)]; exact x4
    · rw [hI 38 (by omega) (by omega) (by omega) (by omega)]; exact x5
    · rw [hI 39 (by omega) (by omega) (by omega) (by omega)]; exact x6
    · rw [upd_n (by omega), g3 49 (by omega)]; exact b3
    · rw [hI 42 (by omega) (by omega) (by omega) (by omega)]; exact y2'
    · rw [g4 41 (by omega) (by omega), b5 41 (by omega) (by omega) (by omega)]; exact y4'
  have htr : m_Value_truth N (nI r) = some (scW (nI r)) := by
    rcases hr01 with rfl | rfl
    · rw [scW_0]; rfl
    · rw [scW_1]; rfl
  refine ⟨nI 5, f_H_globals, qs, H_fresh, H_globalsUsed, H_made, H_old, H_oldLeadsToNew, H_reachedFromGlobals, H_reachedInAll, H_spareUsed, H_used, M_depth, M_fuel, (nI (p + 1)), M_ticks, B_names, O_size, (nI fr), (nI hn), (nI (t - 2 + 1)), nL', f', nP', fP', n_H_cells, f_H_cells, n_H_spare, f_H_spare, n_O_bytes, f_O_bytes, n_S_bases, f_S_bases, n_S_closures, f_S_closures, n_S_floors, f_S_floors, n_S_handlerDepths, f_S_handlerDepths, n_S_handlerFrames, f_S_handlerFrames, n_S_handlerHeights, f_S_handlerHeights, n_S_handlerPlaces, f_S_handlerPlaces, n_S_returns, f_S_returns, n_S_values, (vp_updL f_S_values (t - 2) (wE G lE (vS (nI r)))), cc, ss, upd I2 35 (I2 35 + nI 1), F2, ?_, ?_, pst_on (M_next := nI (p + 1)) e2 (rR_35 g2 _) hx2 (by omega) ⟨fun j hj => ?_, fun j hj => ?_⟩ ?_ (by unfold potE; omega)⟩
  · have e1 : m_Stacks_replace N (nI t) (nI fr) (nI hn) n_S_values f_S_values 2 (scW (nI r)) = _ := e1
    have pk1 : m_Stacks_peek N (nI t) (nI fr) (nI hn) n_S_values f_S_values 1 = _ := pk1
    have pk0 : m_Stacks_peek N (nI t) (nI fr) (nI hn) n_S_values f_S_values 0 = _ := pk0
    rw [pf_33, pk1, bind_s, pk0, bind_s, a1, bind_s]
    dsimp only
    rw [htr, bind_s, e1, bind_s]
    dsimp only
    rw [tk_s, Nat.zero_add, Nat.zero_add]
  · have hgv : m_Model_give N J' C' 2 0 (nI r) = some (nI 5, F2, I2) := g1
    rw [sw_33 (by rw [h35, q_cl (by omega)]; exact hop), ot_33, b1, bind_s]
    dsimp only
    rcases hr01 with rfl | rfl
    · rw [if_pos (show nI 0 = 0 from rfl), show m_Model_give N J' C' 2 0 0 = some (nI 5, F2, I2) from hgv, bind_s]
      dsimp only
      rw [next_5, bind_s]
      rfl
    · rw [if_neg (show ¬ nI 1 = 0 by decide), show m_Model_give N J' C' 2 0 1 = some (nI 5, F2, I2) from hgv, bind_s]
      dsimp only
      rw [next_5, bind_s]
      rfl
  · rw [g4 j (by omega) (by omega), b5 j (by omega) (by omega) (by omega)]
  · rw [upd_n (by omega), g3 j (by omega), b4 j (by omega) (by omega)]
  · rw [upd_e rfl, g3 35 (by omega), b4 35 (by omega) (by omega), h35, q_add]
end IR
