/-! A DEFINITION ENDS: the reference -/
theorem g_copyRows {n m k : Nat} {st : rS} {C : aS} (hm : m < 100) (hk : k ≤ 9) (hD : RDf st C) (hn : 300 < n) : ∃ st' : rS, gloopW (g_defines_b557 n (nI k) (nI m)) n 0 st = some ((), st') ∧ st'.1 = st.1 ∧ (∀ j, j ≠ 6 → j ≠ 7 → st'.2 j = st.2 j) ∧ (∀ r, r ≤ k → RR st' (10 * m + r) (C.2.1 (400 + r))) ∧ ∀ (r : Nat) (ds : List Int32), r < 10 * m ∨ 10 * m + k < r → RR st r ds → RR st' r ds := by
  obtain ⟨b, s, e, g1, g2, g3, g4⟩ := gloopW_rule (body := g_defines_b557 n (nI k) (nI m)) (fun e x s => ∃ i, e = k + 1 - i ∧ i ≤ k + 1 ∧ x = nI i ∧ s.1 = st.1 ∧ (∀ j, j ≠ 6 → j ≠ 7 → s.2 j = st.2 j) ∧ (∀ r, r < i → RR s (10 * m + r) (C.2.1 (400 + r))) ∧ ∀ (r : Nat) (ds : List Int32), r < 10 * m ∨ 10 * m + k < r → RR st r ds → RR s r ds) (fun _ s => s.1 = st.1 ∧ (∀ j, j ≠ 6 → j ≠ 7 → s.2 j = st.2 j) ∧ (∀ r, r ≤ k → RR s (10 * m + r) (C.2.1 (400 + r))) ∧ ∀ (r : Nat) (ds : List Int32), r < 10 * m ∨ 10 * m + k < r → RR st r ds → RR s r ds)
    (by
      rintro e x s ⟨i, rfl, hi, rfl, g1, g2, g3, g4⟩
      by_cases he : i = k + 1
      · refine Or.inr ⟨(), s, ?_, g1, g2, fun r hr => g3 r (by omega), g4⟩
        unfold g_defines_b557
        dsimp only
        rw [if_pos (nI_lt (by omega) (by omega))]
      · obtain ⟨w1, w2, w3⟩ := hD i (by omega)
        have h20 : s.2 20 i = nI (C.2.1 (400 + i)).length := by rw [g2 20 (by decide) (by decide)]; exact w1
        obtain ⟨s2, e2, f1, f2, f3, f4⟩ := g_copyRow (n := n) (m := m) (r := i) (x3 := nI k) (ds := C.2.1 (400 + i)) (st := (s.1, fun q => if q = 6 then upd (s.2 6) (10 * m + i) (nI (C.2.1 (400 + i)).length) else s.2 q)) hm (by omega) h20 w2 (fun j t hj => by
            show s.2 19 (200 * i + j) = t
            rw [g2 19 (by decide) (by decide)]
            exact w3 j t hj) hn
        have hs6 : s2.2 6 = upd (s.2 6) (10 * m + i) (nI (C.2.1 (400 + i)).length) := f2 6 (by decide)
        refine Or.inl ⟨nI (i + 1), k + 1 - (i + 1), s2, ?_, by omega, i + 1, rfl, by omega, rfl, f1.trans g1, fun j h6 h7 => ?_, fun r hr => ?_, fun r ds hr hds => ?_⟩
        · unfold g_defines_b557
          dsimp only
          rw [if_neg (nI_nlt (by omega) (by omega)), rget_at (by omega) (by decide), Option.bind_some, h20, show (10 : Int32) = nI 10 from rfl, pk_mul, nI_add, rset_at (by omega) (by decide), Option.bind_some, e2]
          simp only [gbW]
          rw [nI_1]
        · rw [f2 j h7]
          show (if j = 6 then _ else s.2 j) = _
          rw [if_neg h6]
          exact g2 j h6 h7
        · by_cases hri : r = i
          · subst hri
            exact ⟨by rw [hs6, upd_same], w2, f3⟩
          · obtain ⟨y1, y2, y3⟩ := g3 r (by omega)
            refine ⟨by rw [hs6, upd_other (by omega)]; exact y1, y2, fun j t hj => ?_⟩
            have hjl := (List.getElem?_eq_some_iff.mp hj).1
            rw [f4 _ (by omega)]
            exact y3 j t hj
        · obtain ⟨y1, y2, y3⟩ := g4 r ds hr hds
          refine ⟨by rw [hs6, upd_other (by omega)]; exact y1, y2, fun j t hj => ?_⟩
          have hjl := (List.getElem?_eq_some_iff.mp hj).1
          rw [f4 _ (by omega)]
          exact y3 j t hj)
    n (k + 1) (nI 0) st (by omega) ⟨0, by omega, by omega, rfl, rfl, fun _ _ _ => rfl, fun r hr => by omega, fun _ _ _ h => h⟩
  exact ⟨s, e, g1, g2, g3, g4⟩
theorem g_def_end {n k : Nat} {st : rS} {C : aS} (hX : RX st C) (hV : RV st (C.2.1 0)) (h24 : st.1 24 = C.1 3) (h21 : st.1 21 = 0) (hDf : RDf st C) (hDt : RDt st C) (h13 : C.1 13 = nI k) (hk : k ≤ 9) (h12 : tName (C.1 12) = true) (h3 : (C.2.1 3).length = (C.2.1 2).length) (hm : (C.2.1 2).length < 100) (h9 : C.1 9 = -1 ∨ 0 ≤ C.1 9) (hroom : (C.2.1 0).length < 3000) (hn : 7000 < n) : ∃ st', g_defines_j488 n (C.1 12 - 1000) (nI k) (nI (C.2.1 410).length) st = some ((), st') ∧ RW st' (dEnter C) := by
  obtain ⟨nm, hnm, hnme, hnmc⟩ := tName_nI h12
  obtain ⟨x0, x1, x2, x3, x4, x5, x6, x7, x8⟩ := id hX
  obtain ⟨s1, e1, M1, i1, a1⟩ := g_newMacro_at (n := n) (nm := nm) (k := k) (mk := C.1 8) x4 h3 hm hk hnm (by omega)
  generalize hm0 : (C.2.1 2).length = m at hm e1
  have hbl := hDt.1
  -- the body's size, the body, the rows
  obtain ⟨s3, e3, f3, g3, b3, o3⟩ := g_copyBody (n := n) (m := m) (x3 := nI k) (bs := C.2.1 410) (st := (s1.1, fun q => if q = 4 then upd (s1.2 4) m (nI (C.2.1 410).length) else s1.2 q)) hm hbl (fun i t hi => by
      show s1.2 21 i = t
      rw [a1 21 (by decide) (by decide) (by decide) (by decide) (by decide) (by decide)]
      exact hDt.2 i t hi) (by omega)
  have g3' : ∀ j, j ≠ 4 → j ≠ 5 → s3.2 j = s1.2 j := fun j h4 h5 => by
    rw [g3 j h5]
    show (if j = 4 then _ else s1.2 j) = _
    rw [if_neg h4]
  have hDf3 : RDf s3 C := fun r hr => by
    rw [g3' 20 (by decide) (by decide), g3' 19 (by decide) (by decide), a1 20 (by decide) (by decide) (by decide) (by decide) (by decide) (by decide), a1 19 (by decide) (by decide) (by decide) (by decide) (by decide) (by decide)]
    exact hDf r hr
  obtain ⟨s4, e4, f4, g4, r4, o4⟩ := g_copyRows (n := n) (m := m) hm hk hDf3 (by omega)
  have i4 : ∀ j, j ≠ 6 → s4.1 j = st.1 j := fun j hj => by
    rw [f4, f3]
    exact i1 j hj
  have h46 : s4.1 6 = s1.1 6 := by rw [f4, f3]
  have a4 : ∀ j, j ≠ 4 → j ≠ 5 → j ≠ 6 → j ≠ 7 → s4.2 j = s1.2 j := fun j h4 h5 h6 h7 => (g4 j h6 h7).trans (g3' j h4 h5)
  have w4 : s4.2 4 = upd (s1.2 4) m (nI (C.2.1 410).length) := (g4 4 (by decide) (by decide)).trans (g3 4 (by decide))
  have w5 : s4.2 5 = s3.2 5 := g4 5 (by decide) (by decide)
  obtain ⟨q1, q2, q3, g, hg, hg15, hg14, q4⟩ := M1
  have M4 : rM s4 (aNew C nm k (C.1 8) (dRow C)) := by
    have hl2 : ((aNew C nm k (C.1 8) (fun _ => [])).2.1 2).length = m + 1 := by
      rw [aNew_2, List.length_append, hm0]
      rfl
    refine ⟨?_, fun m' hm' => ?_, fun i hi => ?_, g, hg, hg15, by rw [f4, f3]; exact hg14, fun j i hj hi => ?_⟩
    · rw [h46]
      exact q1
    · have hm2 : m' < m + 1 := by
        rw [aNew_2, List.length_append, hm0] at hm'
        exact hm'
      obtain ⟨y1, y2, y3, y4, y5⟩ := q2 m' (by rw [hl2]; exact hm2)
      refine ⟨by rw [a4 2 (by decide) (by decide) (by decide) (by decide)]; exact y1, y2, by rw [a4 3 (by decide) (by decide) (by decide) (by decide)]; exact y3, ?_, fun r hr => ?_⟩
      · by_cases hme : m' = m
        · subst hme
          have hrow : aRow (aNew C nm k (C.1 8) (dRow C)) m' 10 = C.2.1 410 := by
            have := aNew_row (A := C) (nm := nm) (k := k) (mk := C.1 8) (rows := dRow C) (r := 10) (by omega)
            rw [hm0] at this
            rw [this]
            unfold dRow
            rw [if_pos (Or.inr rfl)]
          rw [hrow]
          exact ⟨by rw [w4, upd_same], hbl, fun i t hi => by rw [w5]; exact b3 i t hi⟩
        · have hrow : aRow (aNew C nm k (C.1 8) (dRow C)) m' 10 = aRow (aNew C nm k (C.1 8) (fun _ => [])) m' 10 := by
            rw [(aNew_old (show m' < (C.2.1 2).length by omega) h3).2.2 10 (by omega), (aNew_old (show m' < (C.2.1 2).length by omega) h3).2.2 10 (by omega)]
          rw [hrow]
          obtain ⟨z1, z2, z3⟩ := y4
          refine ⟨by rw [w4, upd_other hme]; exact z1, z2, fun i t hi => ?_⟩
          have hil := (List.getElem?_eq_some_iff.mp hi).1
          rw [w5, o3 _ (by omega)]
          exact z3 i t hi
      · have hRR3 : ∀ (r : Nat) (ds : List Int32), RR s1 r ds → RR s3 r ds := fun r ds h => h.same (g3' 6 (by decide) (by decide)) (g3' 7 (by decide) (by decide))
        by_cases hme : m' = m
        · subst hme
          have hrow : aRow (aNew C nm k (C.1 8) (dRow C)) m' r = dRow C r := by
            have := aNew_row (A := C) (nm := nm) (k := k) (mk := C.1 8) (rows := dRow C) (r := r) (by omega)
            rw [hm0] at this
            exact this
          have hrow0 : aRow (aNew C nm k (C.1 8) (fun _ => [])) m' r = [] := by
            have := aNew_row (A := C) (nm := nm) (k := k) (mk := C.1 8) (rows := fun _ => []) (r := r) (by omega)
            rw [hm0] at this
            exact this
          rw [hrow]
          unfold dRow
          rw [h13, nI_clamp (by omega)]
          by_cases hrk : r ≤ k
          · rw [if_pos (Or.inl hrk)]
            exact r4 r hrk
          · rw [if_neg (by omega)]
            have := y5 r hr
            rw [hrow0] at this
            exact o4 _ _ (by omega) (hRR3 _ _ this)
        · have hrow : aRow (aNew C nm k (C.1 8) (dRow C)) m' r = aRow (aNew C nm k (C.1 8) (fun _ => [])) m' r := by
            rw [(aNew_old (show m' < (C.2.1 2).length by omega) h3).2.2 r (by omega), (aNew_old (show m' < (C.2.1 2).length by omega) h3).2.2 r (by omega)]
          rw [hrow]
          exact o4 _ _ (by omega) (hRR3 _ _ (y5 r hr))
    · rw [a4 8 (by decide) (by decide) (by decide) (by decide)]
      exact q3 i hi
    · rw [a4 9 (by decide) (by decide) (by decide) (by decide)]
      exact q4 j i hj hi
  have aj : ∀ j, j = 0 ∨ j = 1 ∨ 10 ≤ j → s4.2 j = st.2 j := fun j hj => by
    rw [a4 j (by omega) (by omega) (by omega) (by omega)]
    exact a1 j (by omega) (by omega) (by omega) (by omega) (by omega) (by omega)
  -- what stands then
  have hE : dEnter C = dLater (aPi (aPi (aPi (aNew C nm k (C.1 8) (dRow C)) 10 0) 2 0) 8 0) := by
    unfold dEnter
    rw [hnmc, h13, nI_clamp (by omega)]
  generalize hEE : aNew C nm k (C.1 8) (dRow C) = E at M4 hE
  have hEi : E.1 = C.1 := by rw [← hEE]; rfl
  have hEt : E.2.2.2 = C.2.2.2 := by rw [← hEE]; rfl
  have hEl : ∀ j, j ≠ 2 → j ≠ 3 → j < 1000 → E.2.1 j = C.2.1 j := fun j h2 h3 hj => by rw [← hEE]; exact aNew_l h2 h3 (by omega)
  generalize hs6 : rput (rput s4 22 0) 32 0 = s6
  have i6 : ∀ j, j ≠ 6 → j ≠ 22 → j ≠ 32 → s6.1 j = st.1 j := fun j h6 h22 h32 => by
    rw [← hs6]
    show upd (upd s4.1 22 0) 32 0 j = _
    rw [upd_other h32, upd_other h22]
    exact i4 j h6
  have c6 : s6.2 = s4.2 := by rw [← hs6]; rfl
  have h622 : s6.1 22 = 0 := by rw [← hs6]; rfl
  have h632 : s6.1 32 = 0 := by rw [← hs6]; rfl
  have h66 : s6.1 6 = s4.1 6 := by rw [← hs6]; rfl
  have hX6 : RX s6 (aPi (aPi (aPi E 10 0) 2 0) 8 0) := by
    refine ⟨?_, ?_, ?_, ?_, ?_, ?_, ?_, ?_, ?_⟩
    · rw [i6 0 (by decide) (by decide) (by decide), x0]
      show C.1 0 = E.1 0
      rw [hEi]
    · rw [i6 23 (by decide) (by decide) (by decide), x1]
      show C.1 1 = E.1 1
      rw [hEi]
    · rw [h622]
      rfl
    · show RT s6 E.2.2.2
      rw [hEt]
      exact x3.same (i6 25 (by decide) (by decide) (by decide)) (by rw [c6]; exact aj 14 (by omega))
    · exact (M4.k h66 (by rw [i6 14 (by decide) (by decide) (by decide), i4 14 (by decide)]) (fun j _ _ => by rw [c6])).abs rfl rfl (fun _ _ => rfl) rfl rfl
    · have hN : rN s6 C := x5.k (i6 16 (by decide) (by decide) (by decide)) (by rw [c6]; exact aj 10 (by omega)) (by rw [c6]; exact aj 11 (by omega))
      exact hN.abs (by show E.1 16 = C.1 16; rw [hEi]) (fun j h1 h2 => hEl j (by omega) (by omega) (by omega))
    · show RO s6 (E.2.1 1)
      rw [hEl 1 (by decide) (by decide) (by decide)]
      exact x6.same (i6 4 (by decide) (by decide) (by decide)) (by rw [c6]; exact aj 1 (by omega))
    · rw [h632]
      rfl
    · rw [i6 33 (by decide) (by decide) (by decide), x8]
      show C.1 9 = E.1 9
      rw [hEi]
  have hV6 : RV s6 (C.2.1 0) := hV.same (i6 2 (by decide) (by decide) (by decide)) (i6 3 (by decide) (by decide) (by decide)) (by rw [c6]; exact aj 0 (by omega))
  have h216 : s6.1 21 = 0 := (i6 21 (by decide) (by decide) (by decide)).trans h21
  have h336 : s6.1 33 = C.1 9 := (i6 33 (by decide) (by decide) (by decide)).trans x8
  have hpre : g_defines_j488 n (C.1 12 - 1000) (nI k) (nI (C.2.1 410).length) st = if s6.1 33 < 0 then some ((), s6) else if s6.1 3 = 3000 then gbW (g_mark 8 s6) fun _ h674 => some ((), h674) else gbW (g_spread n 0 1 s6) fun _ h681 => gbW (g_set 0 (h681.1 33) h681) fun _ h690 => some ((), rput h690 33 (-1)) := by
    unfold g_defines_j488
    dsimp only
    rw [if_pos h21, x7, hnme, e1]
    simp only [gbW]
    rw [rset_at hm (by decide), Option.bind_some, e3]
    simp only []
    rw [e4]
    simp only []
    rw [hs6]
  rw [hpre, h336, hE]
  unfold dLater
  rw [show (aPi (aPi (aPi E 10 0) 2 0) 8 0).1 9 = C.1 9 from by show E.1 9 = C.1 9; rw [hEi]]
  by_cases hl : C.1 9 = -1
  · rw [if_pos (by rw [hl]; decide), if_pos hl]
    refine ⟨s6, rfl, hX6, ?_, ?_, h216⟩
    · show RV s6 (E.2.1 0)
      rw [hEl 0 (by decide) (by decide) (by decide)]
      exact hV6
    · rw [i6 24 (by decide) (by decide) (by decide), h24]
      show C.1 3 = E.1 3
      rw [hEi]
  · have hlp : 0 ≤ C.1 9 := h9.resolve_left hl
    rw [if_neg (Int32.not_lt.mpr hlp), if_neg hl, hV6.size, if_neg (show ¬ nI (C.2.1 0).length = (3000 : Int32) from fun q => by
      have := (nI_eq (b := 3000) (by omega) (by decide)).mp q
      omega)]
    obtain ⟨s7, gap, hgl, e7, V7, f7, q7⟩ := RV.spread (n := n) (st := s6) (as := []) (cs := C.2.1 0) (many := 1) hV6 (by simp; omega) (by omega)
    obtain ⟨gg, rfl⟩ : ∃ gg, gap = [gg] := by
      cases gap with
      | nil => simp at hgl
      | cons g gs =>
        cases gs with
        | nil => exact ⟨g, rfl⟩
        | cons _ _ => simp at hgl
    obtain ⟨s8, e8, V8, f8, q8⟩ := RV.set (st := s7) (as := []) (cs := C.2.1 0) (t0 := gg) (t := C.1 9) V7
    have h337 : s7.1 33 = C.1 9 := (f7 33 (by decide) (by decide)).trans h336
    rw [show g_spread n 0 1 s6 = some ((), s7) from e7]
    simp only [gbW]
    rw [h337, show g_set 0 (C.1 9) s7 = some ((), s8) from e8]
    simp only []
    have hi9 : ∀ j, j ≠ 2 → j ≠ 3 → j ≠ 33 → (rput s8 33 (-1)).1 j = s6.1 j := fun j h2 h3 h33 => by
      show upd s8.1 33 (-1) j = _
      rw [upd_other h33, f8]
      exact f7 j h2 h3
    have ha9 : ∀ j, j ≠ 0 → (rput s8 33 (-1)).2 j = s6.2 j := fun j hj => (q8 j hj).trans (q7 j hj)
    refine ⟨_, rfl, ⟨?_, ?_, ?_, ?_, ?_, ?_, ?_, ?_, rfl⟩, ?_, ?_, ?_⟩
    · rw [hi9 0 (by decide) (by decide) (by decide)]
      exact hX6.1
    · rw [hi9 23 (by decide) (by decide) (by decide)]
      exact hX6.2.1
    · rw [hi9 22 (by decide) (by decide) (by decide)]
      exact hX6.2.2.1
    · exact hX6.2.2.2.1.same (hi9 25 (by decide) (by decide) (by decide)) (ha9 14 (by decide))
    · exact (hX6.2.2.2.2.1.k (hi9 6 (by decide) (by decide) (by decide)) (hi9 14 (by decide) (by decide) (by decide)) (fun j h1 h2 => ha9 j (by omega))).abs rfl rfl (fun j hj => by
        show va_up E.2.1 0 _ j = E.2.1 j
        rw [va_up_ne _ _ (by omega)]) rfl rfl
    · exact (hX6.2.2.2.2.2.1.k (hi9 16 (by decide) (by decide) (by decide)) (ha9 10 (by decide)) (ha9 11 (by decide))).abs rfl (fun j h1 h2 => by
        show va_up E.2.1 0 _ j = E.2.1 j
        rw [va_up_ne _ _ (by omega)])
    · exact hX6.2.2.2.2.2.2.1.same (hi9 4 (by decide) (by decide) (by decide)) (ha9 1 (by decide))
    · rw [hi9 32 (by decide) (by decide) (by decide), h632]
      rfl
    · show RV (rput s8 33 (-1)) (C.1 9 :: E.2.1 0)
      rw [hEl 0 (by decide) (by decide) (by decide)]
      exact V8.same rfl rfl rfl
    · rw [hi9 24 (by decide) (by decide) (by decide), i6 24 (by decide) (by decide) (by decide), h24]
      show C.1 3 = E.1 3
      rw [hEi]
    · rw [hi9 21 (by decide) (by decide) (by decide)]
      exact h216
