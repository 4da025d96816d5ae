/-! A NEW MACRO: the reference -/
theorem g_newMacro_at {n nm k : Nat} {mk : Int32} {st : rS} {A : aS} (hM : rM st A) (h3 : (A.2.1 3).length = (A.2.1 2).length) (hm : (A.2.1 2).length < 100) (hk : k ≤ 9) (hnm : nm < 200) (hn : 30 < n) : ∃ st' : rS, g_newMacro n (nI nm) (nI k) mk st = some (nI (A.2.1 2).length, st') ∧ rM st' (aNew A nm k mk (fun _ => [])) ∧ (∀ j, j ≠ 6 → st'.1 j = st.1 j) ∧ ∀ j, j ≠ 2 → j ≠ 3 → j ≠ 4 → j ≠ 6 → j ≠ 8 → j ≠ 9 → st'.2 j = st.2 j := by
  obtain ⟨q1, q2, q3, g, hg, hg15, hg14, q4⟩ := hM
  generalize hm0 : (A.2.1 2).length = m at hm q1 q2 ⊢
  -- the rows are empty
  obtain ⟨b, s1, e1, f1, f2, f3⟩ := gloopW_rule (body := g_newMacro_b33 n (nI nm) mk (nI m)) (fun e x s => ∃ i, e = 10 - i ∧ i ≤ 10 ∧ x = nI i ∧ s.1 = st.1 ∧ (∀ j, j ≠ 6 → s.2 j = (fun q => if q = 4 then upd (st.2 4) m 0 else if q = 3 then upd (st.2 3) m mk else if q = 2 then upd (st.2 2) m (nI k) else st.2 q) j) ∧ ∀ q, s.2 6 q = if 10 * m ≤ q ∧ q < 10 * m + i then 0 else st.2 6 q) (fun _ s => s.1 = st.1 ∧ (∀ j, j ≠ 6 → s.2 j = (fun q => if q = 4 then upd (st.2 4) m 0 else if q = 3 then upd (st.2 3) m mk else if q = 2 then upd (st.2 2) m (nI k) else st.2 q) j) ∧ ∀ q, s.2 6 q = if 10 * m ≤ q ∧ q < 10 * m + 10 then 0 else st.2 6 q)
    (by
      rintro e x s ⟨i, rfl, hi, rfl, g1, g2, g3⟩
      by_cases he : i = 10
      · refine Or.inr ⟨(), s, ?_, g1, g2, by rw [he] at g3; exact g3⟩
        unfold g_newMacro_b33
        dsimp only
        rw [if_pos (show (10 : Int32) ≤ _ from nI_le (a := 10) (by omega) (by omega))]
      · refine Or.inl ⟨nI (i + 1), 10 - (i + 1), (s.1, fun q => if q = 6 then upd (s.2 6) (10 * m + i) 0 else s.2 q), ?_, by omega, i + 1, rfl, by omega, rfl, g1, fun j hj => ?_, fun q => ?_⟩
        · unfold g_newMacro_b33
          dsimp only
          rw [if_neg (show ¬ (10 : Int32) ≤ _ from nI_ge (b := 10) (by omega) (by decide)), show (10 : Int32) = nI 10 from rfl, pk_mul, nI_add, rset_at (by omega) (by decide), Option.bind_some, nI_1]
        · show (if j = 6 then _ else s.2 j) = _
          rw [if_neg hj]
          exact g2 j hj
        · show upd (s.2 6) (10 * m + i) 0 q = _
          by_cases hq : q = 10 * m + i
          · rw [hq, upd_same, if_pos (by omega)]
          · rw [upd_other hq, g3 q]
            by_cases hq2 : 10 * m ≤ q ∧ q < 10 * m + i
            · rw [if_pos hq2, if_pos (by omega)]
            · rw [if_neg hq2, if_neg (by omega)])
    n 10 (nI 0) (st.1, fun q => if q = 4 then upd (st.2 4) m 0 else if q = 3 then upd (st.2 3) m mk else if q = 2 then upd (st.2 2) m (nI k) else st.2 q) (by omega) ⟨0, by omega, by omega, rfl, rfl, fun _ _ => rfl, fun q => by rw [if_neg (by omega)]; rfl⟩
  -- the groups have it if it is GLOBAL
  have h146 : (rput s1 6 (nI (m + 1))).1 14 = nI g := by
    rw [show (rput s1 6 (nI (m + 1))).1 14 = s1.1 14 from rfl, f1]
    exact hg14
  obtain ⟨b2, s2, e2, u1, u2, u3⟩ := gloopW_rule (body := g_newMacro_b81 n (nI nm) mk (nI m)) (fun e x s => ∃ i, e = g - i ∧ i ≤ g ∧ x = nI i ∧ s.1 = (rput s1 6 (nI (m + 1))).1 ∧ (∀ j, j ≠ 9 → s.2 j = (if j = 8 then upd (s1.2 8) nm (nI m) else s1.2 j)) ∧ (mk &&& 4 = 0 → i = 0) ∧ ∀ q, s.2 9 q = if (∃ j, j < i ∧ q = 200 * j + nm) then nI m else st.2 9 q) (fun _ s => s.1 = (rput s1 6 (nI (m + 1))).1 ∧ (∀ j, j ≠ 9 → s.2 j = (if j = 8 then upd (s1.2 8) nm (nI m) else s1.2 j)) ∧ ∀ q, s.2 9 q = if (mk &&& 4 ≠ 0 ∧ ∃ j, j < g ∧ q = 200 * j + nm) then nI m else st.2 9 q)
    (by
      rintro e x s ⟨i, rfl, hi, rfl, g1, g2, g4, g3⟩
      by_cases he : i = g
      · refine Or.inr ⟨(), s, ?_, g1, g2, fun q => ?_⟩
        · unfold g_newMacro_b81
          dsimp only
          rw [g1, h146, if_pos (nI_le (by omega) (by omega))]
        · rw [g3 q]
          by_cases h4 : mk &&& 4 = 0
          · rw [if_neg (fun w => by obtain ⟨j, hj, -⟩ := w; have := g4 h4; omega), if_neg (fun w => w.1 h4)]
          · rw [he]
            by_cases hw : ∃ j, j < g ∧ q = 200 * j + nm
            · rw [if_pos hw, if_pos ⟨h4, hw⟩]
            · rw [if_neg hw, if_neg (fun w => hw w.2)]
      · by_cases h4 : mk &&& 4 = 0
        · have hi0 := g4 h4
          refine Or.inr ⟨(), s, ?_, g1, g2, fun q => ?_⟩
          · unfold g_newMacro_b81
            dsimp only
            rw [g1, h146, if_neg (nI_ge (by omega) (by omega)), if_pos h4]
          · rw [g3 q, if_neg (fun w => by obtain ⟨j, hj, -⟩ := w; omega), if_neg (fun w => w.1 h4)]
        · refine Or.inl ⟨nI (i + 1), g - (i + 1), (s.1, fun q => if q = 9 then upd (s.2 9) (200 * i + nm) (nI m) else s.2 q), ?_, by omega, i + 1, rfl, by omega, rfl, g1, fun j hj => ?_, fun w => absurd w h4, fun q => ?_⟩
          · unfold g_newMacro_b81
            dsimp only
            rw [g1, h146, if_neg (nI_ge (by omega) (by omega)), if_neg h4, show (200 : Int32) = nI 200 from rfl, pk_mul, nI_add, rset_at (by omega) (by decide), Option.bind_some, nI_1]
            rw [g1]
          · show (if j = 9 then _ else s.2 j) = _
            rw [if_neg hj]
            exact g2 j hj
          · show upd (s.2 9) (200 * i + nm) (nI m) q = _
            by_cases hq : q = 200 * i + nm
            · rw [hq, upd_same, if_pos ⟨i, by omega, rfl⟩]
            · rw [upd_other hq, g3 q]
              by_cases hw : ∃ j, j < i ∧ q = 200 * j + nm
              · obtain ⟨j, hj, hjq⟩ := hw
                rw [if_pos ⟨j, hj, hjq⟩, if_pos ⟨j, by omega, hjq⟩]
              · rw [if_neg hw, if_neg (fun w => by
                  obtain ⟨j, hj, hjq⟩ := w
                  by_cases hji : j = i
                  · rw [hji] at hjq
                    exact hq hjq
                  · exact hw ⟨j, by omega, hjq⟩)])
    n g (nI 0) ((rput s1 6 (nI (m + 1))).1, fun q => if q = 8 then upd (s1.2 8) nm (nI m) else s1.2 q) (by omega) ⟨0, by omega, by omega, rfl, rfl, fun _ _ => rfl, fun _ => rfl, fun q => by
      rw [if_neg (fun w => by obtain ⟨j, hj, -⟩ := w; omega)]
      show s1.2 9 q = st.2 9 q
      rw [f2 9 (by decide)]
      rfl⟩
  have hs6 : s1.1 6 = nI m := by rw [f1]; exact q1
  have hu : ∀ j, j ≠ 9 → j ≠ 8 → s2.2 j = s1.2 j := fun j h1 h2 => by rw [u2 j h1, if_neg h2]
  have w2 : s2.2 2 = upd (st.2 2) m (nI k) := by rw [hu 2 (by decide) (by decide), f2 2 (by decide)]; rfl
  have w3 : s2.2 3 = upd (st.2 3) m mk := by rw [hu 3 (by decide) (by decide), f2 3 (by decide)]; rfl
  have w4 : s2.2 4 = upd (st.2 4) m 0 := by rw [hu 4 (by decide) (by decide), f2 4 (by decide)]; rfl
  have w6 : ∀ q, s2.2 6 q = if 10 * m ≤ q ∧ q < 10 * m + 10 then 0 else st.2 6 q := fun q => by rw [hu 6 (by decide) (by decide)]; exact f3 q
  have w8 : s2.2 8 = upd (st.2 8) nm (nI m) := by
    rw [u2 8 (by decide), if_pos rfl, f2 8 (by decide)]
    rfl
  have wo : ∀ j, j ≠ 2 → j ≠ 3 → j ≠ 4 → j ≠ 6 → j ≠ 8 → j ≠ 9 → s2.2 j = st.2 j := fun j h2 h3 h4 h6 h8 h9 => by
    rw [hu j h9 h8, f2 j h6]
    show (if j = 4 then _ else if j = 3 then _ else if j = 2 then _ else st.2 j) = _
    rw [if_neg h4, if_neg h3, if_neg h2]
  have wi : ∀ j, j ≠ 6 → s2.1 j = st.1 j := fun j hj => by
    rw [u1, show (rput s1 6 (nI (m + 1))).1 j = s1.1 j from upd_other hj, f1]
  refine ⟨s2, ?_, ?_, wi, wo⟩
  · unfold g_newMacro
    try dsimp only
    rw [q1, rset_at hm (by decide), Option.bind_some]
    try dsimp only
    rw [rset_at hm (by decide), Option.bind_some]
    try dsimp only
    rw [rset_at hm (by decide), Option.bind_some]
    try dsimp only
    rw [show (0 : Int32) = nI 0 from rfl]
    have e1' := e1
    rw [show (st.1, fun q => if q = 4 then upd (st.2 4) m 0 else if q = 3 then upd (st.2 3) m mk else if q = 2 then upd (st.2 2) m (nI k) else st.2 q) = (st.1, fun q => if q = 4 then upd ((fun q => if q = 3 then upd ((fun q => if q = 2 then upd (st.2 2) m (nI k) else st.2 q) 3) m mk else if q = 2 then upd (st.2 2) m (nI k) else st.2 q) 4) m (nI 0) else if q = 3 then upd ((fun q => if q = 2 then upd (st.2 2) m (nI k) else st.2 q) 3) m mk else if q = 2 then upd (st.2 2) m (nI k) else st.2 q) from rfl] at e1'
    rw [e1']
    simp only [gbW]
    rw [hs6, nI_1, rset_at hnm (by decide), Option.bind_some]
    try dsimp only
    rw [show ((rput s1 6 (nI (m + 1))).1, fun q => if q = 8 then upd ((rput s1 6 (nI (m + 1))).2 8) nm (nI m) else (rput s1 6 (nI (m + 1))).2 q) = ((rput s1 6 (nI (m + 1))).1, fun q => if q = 8 then upd (s1.2 8) nm (nI m) else s1.2 q) from rfl, e2]
  · have hl2 : ((aNew A nm k mk (fun _ => [])).2.1 2).length = m + 1 := by
      rw [aNew_2, List.length_append, hm0]
      rfl
    have hgc : (A.1 15).toNatClampNeg = g := by rw [hg15, nI_clamp (by omega)]
    refine ⟨?_, fun m' hm' => ?_, fun i hi => ?_, g, hg, hg15, (wi 14 (by decide)).trans hg14, fun j i hj hi => ?_⟩
    · rw [hl2, u1]
      rfl
    · rw [hl2] at hm'
      by_cases hme : m' = m
      · subst hme
        obtain ⟨n1, n2⟩ := aNew_new (A := A) (nm := nm) (mk := mk) (rows := fun _ => []) hk h3
        rw [hm0] at n1 n2
        have hrow : ∀ r, r < 20 → aRow (aNew A nm k mk (fun _ => [])) m' r = [] := fun r hr => by
          have := aNew_row (A := A) (nm := nm) (k := k) (mk := mk) (rows := fun _ => []) hr
          rw [hm0] at this
          exact this
        refine ⟨by rw [w2, upd_same, n1], by rw [n1]; exact hk, by rw [w3, upd_same, n2], ?_, fun r hr => ?_⟩
        · rw [hrow 10 (by omega)]
          exact ⟨by rw [w4, upd_same]; rfl, by decide, fun i t hi => by simp at hi⟩
        · rw [hrow r (by omega)]
          exact ⟨by rw [w6, if_pos (by omega)]; rfl, by decide, fun i t hi => by simp at hi⟩
      · obtain ⟨p1, p2, p3, p4, p5⟩ := q2 m' (by omega)
        obtain ⟨r1, r2, r3⟩ := aNew_old (A := A) (nm := nm) (k := k) (mk := mk) (rows := fun _ => []) (show m' < (A.2.1 2).length by omega) h3
        refine ⟨by rw [w2, upd_other hme, r1]; exact p1, by rw [r1]; exact p2, by rw [w3, upd_other hme, r2]; exact p3, ?_, fun r hr => ?_⟩
        · rw [r3 10 (by omega)]
          exact ⟨by rw [w4, upd_other hme]; exact p4.1, p4.2.1, fun i t hi => by rw [wo 5 (by decide) (by decide) (by decide) (by decide) (by decide) (by decide)]; exact p4.2.2 i t hi⟩
        · rw [r3 r (by omega)]
          obtain ⟨y1, y2, y3⟩ := p5 r hr
          exact ⟨by rw [w6, if_neg (by omega)]; exact y1, y2, fun i t hi => by rw [wo 7 (by decide) (by decide) (by decide) (by decide) (by decide) (by decide)]; exact y3 i t hi⟩
    · rw [w8]
      show _ = (if 0 = 0 ∨ (mk &&& 4 ≠ 0 ∧ 1 ≤ 0 ∧ 0 ≤ (A.1 15).toNatClampNeg) then upd (A.2.2.1 0) nm (nI (A.2.1 2).length) else A.2.2.1 0) i
      rw [if_pos (Or.inl rfl), hm0]
      by_cases hin : i = nm
      · rw [hin, upd_same, upd_same]
      · rw [upd_other hin, upd_other hin]
        exact q3 i hi
    · rw [u3]
      show _ = (if 1 + j = 0 ∨ (mk &&& 4 ≠ 0 ∧ 1 ≤ 1 + j ∧ 1 + j ≤ (A.1 15).toNatClampNeg) then upd (A.2.2.1 (1 + j)) nm (nI (A.2.1 2).length) else A.2.2.1 (1 + j)) i
      rw [hgc, hm0]
      by_cases h4 : mk &&& 4 = 0
      · rw [if_neg (fun w => w.1 h4), if_neg (fun w => w.elim (by omega) (fun w => w.1 h4))]
        exact q4 j i hj hi
      · rw [if_pos (show 1 + j = 0 ∨ (mk &&& 4 ≠ 0 ∧ 1 ≤ 1 + j ∧ 1 + j ≤ g) from Or.inr ⟨h4, by omega, by omega⟩)]
        by_cases hin : i = nm
        · rw [hin, upd_same, if_pos ⟨h4, j, hj, rfl⟩]
        · rw [upd_other hin, if_neg (fun w => by
            obtain ⟨-, j', hj', hjq⟩ := w
            have : j' = j ∧ i = nm := by omega
            exact hin this.2)]
          exact q4 j i hj hi
