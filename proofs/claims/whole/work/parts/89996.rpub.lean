/-! THE REFERENCE'S CALLS -/
theorem out_of {i : Int32} {n : Nat} (h : i < 0 ∨ ∃ k, n ≤ k ∧ k < 2 ^ 31 ∧ i = nI k) : i < 0 ∨ nI n ≤ i := by
  rcases h with h | ⟨k, h1, h2, rfl⟩
  · exact Or.inl h
  · exact Or.inr (nI_le h1 h2)
def rKm (st st' : rS) : Prop := (∀ j, j ≠ 6 → j ≠ 14 → st'.1 j = st.1 j) ∧ ∀ j, j < 2 ∨ 10 ≤ j → st'.2 j = st.2 j
theorem rKm.rf (st : rS) : rKm st st := ⟨fun _ _ _ => rfl, fun _ _ => rfl⟩
theorem rKm.v {st st' : rS} {xs : List Int32} (h : rKm st st') (hV : RV st xs) : RV st' xs := hV.same (h.1 2 (by decide) (by decide)) (h.1 3 (by decide) (by decide)) (h.2 0 (by decide))
theorem RX.m {st st' : rS} {A B : aS} (h : RX st A) (hk : rKm st st') (hM : rM st' B) (hi : ∀ j, j ≠ 15 → B.1 j = A.1 j) (hl : ∀ j, j = 1 ∨ (100 ≤ j ∧ j < 200) → B.2.1 j = A.2.1 j) (ht : B.2.2.2 = A.2.2.2) : RX st' B := by
  obtain ⟨q0, q1, q2, q3, -, q5, q6, q7, q8⟩ := h
  refine ⟨by rw [hk.1 0 (by decide) (by decide), q0, hi 0 (by decide)], by rw [hk.1 23 (by decide) (by decide), q1, hi 1 (by decide)], by rw [hk.1 22 (by decide) (by decide), q2, hi 2 (by decide)], by rw [ht]; exact q3.same (hk.1 25 (by decide) (by decide)) (hk.2 14 (by decide)), hM, (q5.k (hk.1 16 (by decide) (by decide)) (hk.2 10 (by decide)) (hk.2 11 (by decide))).abs (hi 16 (by decide)) (fun j h1 h2 => hl j (by omega)), by rw [hl 1 (by omega)]; exact q6.same (hk.1 4 (by decide) (by decide)) (hk.2 1 (by decide)), by rw [hk.1 32 (by decide) (by decide), q7, hi 8 (by decide)], by rw [hk.1 33 (by decide) (by decide), q8, hi 9 (by decide)]⟩
theorem g_define_at {n : Nat} {i1 i2 i3 : Int32} {st : rS} {A : aS} (hM : rM st A) (hN : aNm A) (h3 : (A.2.1 3).length = (A.2.1 2).length) (hn : 30 < n) : ∃ st', g_define n i1 i2 i3 st = some ((pDef A i1 i2 i3).1, st') ∧ rM st' (pDef A i1 i2 i3).2 ∧ rKm st st' := by
  have h100 := hN.1
  unfold g_define pDef
  rw [g_in_at, Option.bind_some]
  rcases in_cases (i := i1) (n := 200) (by decide) with ⟨⟨nm, hnm, rfl⟩, hq⟩ | ⟨hk, hq⟩
  · rw [show nI 200 - 1 = 199 by decide] at hq
    rw [if_neg (by simp [hq, b01]), g_in_at, Option.bind_some]
    rcases in_cases (i := i2) (n := 10) (by decide) with ⟨⟨k, hk, rfl⟩, hq2⟩ | ⟨hk, hq2⟩
    · rw [show nI 10 - 1 = 9 by decide] at hq2
      rw [if_neg (by simp [hq2, b01]), g_in_at, Option.bind_some]
      rcases in_cases (i := i3) (n := 8) (by decide) with ⟨⟨mk, hmk, rfl⟩, hq3⟩ | ⟨hk3, hq3⟩
      · rw [show nI 8 - 1 = 7 by decide] at hq3
        rw [if_neg (by simp [hq3, b01]), if_neg (show ¬ ((nI nm < 0 ∨ 200 ≤ nI nm) ∨ (nI k < 0 ∨ 9 < nI k) ∨ (nI mk < 0 ∨ 7 < nI mk)) from fun q => by
          rcases q with (q | q) | (q | q) | (q | q)
          · exact nI_pos (by omega) q
          · exact (show ¬ (200 : Int32) ≤ nI nm from nI_ge (b := 200) (by omega) (by decide)) q
          · exact nI_pos (by omega) q
          · exact Int32.not_le.mpr q hq2.2
          · exact nI_pos (by omega) q
          · exact Int32.not_le.mpr q hq3.2)]
        dsimp only
        rw [hM.1]
        by_cases hf : (A.2.1 2).length = 100
        · rw [if_pos (by rw [hf]; rfl), if_pos hf]
          exact ⟨st, rfl, hM, rKm.rf _⟩
        · rw [if_neg (show ¬ nI (A.2.1 2).length = (100 : Int32) from fun q => hf ((nI_eq (b := 100) (by omega) (by omega)).mp q)), if_neg hf, nI_clamp (show nm < 2 ^ 31 by omega), nI_clamp (show k < 2 ^ 31 by omega)]
          obtain ⟨st', e1, M1, s1, s2⟩ := g_newMacro_at (n := n) (nm := nm) (k := k) (mk := nI mk) hM h3 (by omega) (by omega) hnm hn
          rw [e1]
          exact ⟨st', rfl, M1, fun j h6 _ => s1 j h6, fun j hj => s2 j (by omega) (by omega) (by omega) (by omega) (by omega) (by omega)⟩
      · rw [show nI 8 - 1 = 7 by decide] at hq3
        rw [if_pos (by simp only [hq3, decide_false]; rfl), if_pos (Or.inr (Or.inr (by
          rcases hk3 with q | ⟨j, h1, h2, rfl⟩
          · exact Or.inl q
          · exact Or.inr (nI_lt (a := 7) (by omega) h2))))]
        exact ⟨st, rfl, hM, rKm.rf _⟩
    · rw [show nI 10 - 1 = 9 by decide] at hq2
      rw [if_pos (by simp only [hq2, decide_false]; rfl), if_pos (Or.inr (Or.inl (by
        rcases hk with q | ⟨j, h1, h2, rfl⟩
        · exact Or.inl q
        · exact Or.inr (nI_lt (a := 9) (by omega) h2))))]
      exact ⟨st, rfl, hM, rKm.rf _⟩
  · rw [show nI 200 - 1 = 199 by decide] at hq
    rw [if_pos (by simp only [hq, decide_false]; rfl), if_pos (Or.inl (show i1 < 0 ∨ (200 : Int32) ≤ i1 from out_of (n := 200) hk))]
    exact ⟨st, rfl, hM, rKm.rf _⟩
theorem push_self {f : Nat → Int32} {xs : List Int32} {t : Int32} {b : Nat} (hx : ∀ (i : Nat) (u : Int32), xs[i]? = some u → f (b + i) = u) : ∀ (i : Nat) (u : Int32), (xs ++ [t])[i]? = some u → upd f (b + xs.length) t (b + i) = u := by
  intro i u hi
  by_cases hil : i < xs.length
  · rw [List.getElem?_append_left hil] at hi
    rw [upd_other (by omega)]
    exact hx i u hi
  · rw [List.getElem?_append_right (by omega)] at hi
    have hi0 : i = xs.length := by
      have := (List.getElem?_eq_some_iff.mp hi).1
      simp at this
      omega
    subst hi0
    simp at hi
    rw [upd_same]
    exact hi
theorem push_other {f : Nat → Int32} {ys : List Int32} {t : Int32} {k k' p : Nat} (hy : ∀ (i : Nat) (u : Int32), ys[i]? = some u → f (200 * k' + i) = u) (hl : ys.length ≤ 200) (hp : p < 200) (hk : k' ≠ k) : ∀ (i : Nat) (u : Int32), ys[i]? = some u → upd f (200 * k + p) t (200 * k' + i) = u := by
  intro i u hi
  have := (List.getElem?_eq_some_iff.mp hi).1
  rw [upd_other (by omega)]
  exact hy i u hi
theorem aMore_same {A : aS} {m r : Nat} {t : Int32} (h : ¬ (aRow A m r).length < 200) : aMore A m r t = A := by
  unfold aMore
  rw [if_neg h]
  show (A.1, va_up A.2.1 (1000 + 20 * m + r) (A.2.1 (1000 + 20 * m + r)), A.2.2) = A
  have : va_up A.2.1 (1000 + 20 * m + r) (A.2.1 (1000 + 20 * m + r)) = A.2.1 := by
    funext j
    by_cases hj : j = 1000 + 20 * m + r
    · rw [hj, va_up_self]
    · rw [va_up_ne _ _ hj]
  rw [this]
theorem g_body_at {i1 t : Int32} {st : rS} {A : aS} (hM : rM st A) (hN : aNm A) : ∃ st', g_body i1 t st = some ((pBody A i1 t).1, st') ∧ rM st' (pBody A i1 t).2 ∧ rKm st st' := by
  have h100 := hN.1
  unfold g_body pBody
  dsimp only
  rw [hM.1, g_in_at, Option.bind_some]
  rcases in_cases (i := i1) (n := (A.2.1 2).length) (by omega) with ⟨⟨m, hm, rfl⟩, hq⟩ | ⟨hk, hq⟩
  · rw [if_neg (by simp [hq, b01]), if_neg (show ¬ (nI m < 0 ∨ nI (A.2.1 2).length ≤ nI m) from fun q => q.elim (nI_pos (by omega)) (nI_ge (by omega) (by omega))), nI_clamp (show m < 2 ^ 31 by omega), g_isToken_at, Option.bind_some, b01_if]
    cases ht : tTok t with
    | false => exact ⟨st, rfl, hM, rKm.rf _⟩
    | true =>
      rw [if_pos rfl, if_neg (by decide), rget_at (show m < 100 by omega) (by decide), Option.bind_some]
      obtain ⟨q1, q2, q3, g, q4, q5, q6, q7⟩ := id hM
      obtain ⟨w1, w2, w3, w4, w5⟩ := q2 m hm
      rw [w4.1]
      have h200 := w4.2.1
      by_cases hf : (aRow A m 10).length < 200
      · rw [if_neg (show ¬ nI (aRow A m 10).length = (200 : Int32) from fun q => Nat.ne_of_lt hf ((nI_eq (b := 200) (by omega) (by omega)).mp q)), if_pos hf, Option.bind_some, show (200 : Int32) = nI 200 from rfl, pk_mul, nI_add, rset_at (by omega) (by decide), Option.bind_some]
        generalize hs1 : ((st.1, fun q => if q = 5 then upd (st.2 5) (200 * m + (aRow A m 10).length) t else st.2 q) : rS) = s1
        have a1 : s1.1 = st.1 := by rw [← hs1]
        have a2 : s1.2 5 = upd (st.2 5) (200 * m + (aRow A m 10).length) t := by rw [← hs1]; rfl
        have a3 : ∀ j, j ≠ 5 → s1.2 j = st.2 j := fun j hj => by rw [← hs1]; exact if_neg hj
        rw [rget_at (show m < 100 by omega) (by decide), Option.bind_some, a3 4 (by decide), w4.1, rset_at (show m < 100 by omega) (by decide), Option.bind_some, rget_at (show m < 100 by omega) (by decide), Option.bind_some, nI_1]
        generalize hs2 : ((s1.1, fun q => if q = 4 then upd (s1.2 4) m (nI ((aRow A m 10).length + 1)) else s1.2 q) : rS) = s2
        have b1 : s2.1 = st.1 := by rw [← hs2]; exact a1
        have b2 : s2.2 5 = upd (st.2 5) (200 * m + (aRow A m 10).length) t := by rw [← hs2, ← a2]; rfl
        have b4 : s2.2 4 = upd (st.2 4) m (nI ((aRow A m 10).length + 1)) := by rw [← a3 4 (by decide), ← hs2]; rfl
        have b3 : ∀ j, j ≠ 5 → j ≠ 4 → s2.2 j = st.2 j := fun j hj hj2 => by rw [← a3 j hj, ← hs2]; exact if_neg hj2
        refine ⟨s2, ?_, ⟨by rw [b1]; exact q1, fun m' hm' => ?_, fun i hi => by rw [b3 8 (by decide) (by decide)]; exact q3 i hi, g, q4, q5, by rw [b1]; exact q6, fun j i hj hi => by rw [b3 9 (by decide) (by decide)]; exact q7 j i hj hi⟩, ⟨fun j _ _ => by rw [b1], fun j hj => b3 j (by omega) (by omega)⟩⟩
        · rw [b4, upd_same]
        · obtain ⟨y1, y2, y3, y4, y5⟩ := q2 m' hm'
          refine ⟨by rw [b3 2 (by decide) (by decide)]; exact y1, y2, by rw [b3 3 (by decide) (by decide)]; exact y3, ?_, fun r hr => ?_⟩
          · by_cases hmm : m' = m
            · subst hmm
              rw [aMore_row, if_pos hf]
              refine ⟨?_, by rw [List.length_append]; show _ + 1 ≤ 200; omega, by rw [b2]; exact push_self y4.2.2⟩
              rw [b4, upd_same, List.length_append]
              rfl
            · rw [show aRow (aMore A m 10 t) m' 10 = aRow A m' 10 from aMore_l (by omega)]
              refine ⟨?_, y4.2.1, by rw [b2]; exact push_other y4.2.2 y4.2.1 hf hmm⟩
              rw [b4, upd_other hmm]
              exact y4.1
          · rw [show aRow (aMore A m 10 t) m' r = aRow A m' r from aMore_l (by omega)]
            exact (y5 r hr).same (b3 6 (by decide) (by decide)) (b3 7 (by decide) (by decide))
      · rw [if_pos (show nI (aRow A m 10).length = 200 by rw [show (aRow A m 10).length = 200 by omega]; rfl), if_neg hf, aMore_same hf]
        exact ⟨st, rfl, hM, rKm.rf _⟩
  · rw [if_pos (by simp only [hq, decide_false]; rfl), if_pos (out_of hk)]
    exact ⟨st, rfl, hM, rKm.rf _⟩
theorem g_delimiter_at {i1 i2 t : Int32} {st : rS} {A : aS} (hM : rM st A) (hN : aNm A) : ∃ st', g_delimiter i1 i2 t st = some ((pDel A i1 i2 t).1, st') ∧ rM st' (pDel A i1 i2 t).2 ∧ rKm st st' := by
  have h100 := hN.1
  unfold g_delimiter pDel
  dsimp only
  rw [hM.1, g_in_at, Option.bind_some]
  rcases in_cases (i := i1) (n := (A.2.1 2).length) (by omega) with ⟨⟨m, hm, rfl⟩, hq⟩ | ⟨hk, hq⟩
  · obtain ⟨q1, q2, q3, g, q4, q5, q6, q7⟩ := id hM
    obtain ⟨w1, w2, w3, w4, w5⟩ := q2 m hm
    rw [if_neg (by simp [hq, b01]), if_neg (show ¬ (nI m < 0 ∨ nI (A.2.1 2).length ≤ nI m) from fun q => q.elim (nI_pos (by omega)) (nI_ge (by omega) (by omega))), nI_clamp (show m < 2 ^ 31 by omega), rget_at (show m < 100 by omega) (by decide), Option.bind_some, w1, g_in_at, Option.bind_some]
    by_cases hr : 0 ≤ i2 ∧ i2 ≤ nI (aNum A m)
    · obtain ⟨r, hr31, rfl⟩ := nI_of (Int32.not_lt.mpr hr.1)
      have hrk : r ≤ aNum A m := Nat.le_of_not_lt (fun q => Int32.not_lt.mpr hr.2 (nI_lt q hr31))
      rw [if_neg (by simp [hr, b01]), if_neg (show ¬ (nI r < 0 ∨ nI (aNum A m) < nI r) from fun q => q.elim (Int32.not_lt.mpr hr.1) (Int32.not_lt.mpr hr.2)), g_isToken_at, Option.bind_some, b01_if, nI_clamp hr31]
      have hno : ∀ b : Bool, tDel t = b → b = false → ∃ st', (some ((-2 : Int32), st) : Option (Int32 × rS)) = some ((if tDel t = false then ((-2 : Int32), A) else (if (aRow A m r).length < 200 then nI ((aRow A m r).length + 1) else -4, aMore A m r t)).1, st') ∧ rM st' (if tDel t = false then ((-2 : Int32), A) else (if (aRow A m r).length < 200 then nI ((aRow A m r).length + 1) else -4, aMore A m r t)).2 ∧ rKm st st' := by
        intro b h1 h2
        rw [h1, h2, if_pos rfl]
        exact ⟨st, rfl, hM, rKm.rf _⟩
      cases ht : tTok t with
      | false =>
        rw [if_neg (by decide)]
        exact hno false (by unfold tDel; simp [ht]) rfl
      | true =>
        rw [if_pos rfl]
        by_cases h257 : t = 257
        · rw [if_pos h257]
          exact hno false (by rw [h257]; decide) rfl
        · rw [if_neg h257]
          by_cases h258 : t = 258
          · rw [if_pos h258]
            exact hno false (by rw [h258]; decide) rfl
          · rw [if_neg h258, g_isParameter_at, Option.bind_some, b01_if]
            cases hp : tPar t with
            | true =>
              rw [if_pos rfl]
              exact hno false (by unfold tDel; rw [hp, Bool.not_true, Bool.and_false]) rfl
            | false =>
              have hd : tDel t = true := by
                unfold tDel
                rw [ht, hp, decide_eq_false h257, decide_eq_false h258]
                rfl
              rw [if_neg (by decide), if_neg (by rw [hd]; decide)]
              obtain ⟨v1, v2, v3⟩ := w5 r (by omega)
              have hR : 10 * m + r < 1000 := by omega
              rw [show (10 : Int32) = nI 10 from rfl, pk_mul, nI_add, rget_at hR (by decide), Option.bind_some, v1]
              by_cases hf : (aRow A m r).length < 200
              · rw [if_neg (show ¬ nI (aRow A m r).length = (200 : Int32) from fun q => Nat.ne_of_lt hf ((nI_eq (b := 200) (by omega) (by omega)).mp q)), if_pos hf, Option.bind_some, show (200 : Int32) = nI 200 from rfl, pk_mul, nI_add, rset_at (by omega) (by decide), Option.bind_some]
                generalize hs1 : ((st.1, fun q => if q = 7 then upd (st.2 7) (200 * (10 * m + r) + (aRow A m r).length) t else st.2 q) : rS) = s1
                have a1 : s1.1 = st.1 := by rw [← hs1]
                have a2 : s1.2 7 = upd (st.2 7) (200 * (10 * m + r) + (aRow A m r).length) t := by rw [← hs1]; rfl
                have a3 : ∀ j, j ≠ 7 → s1.2 j = st.2 j := fun j hj => by rw [← hs1]; exact if_neg hj
                rw [rget_at hR (by decide), Option.bind_some, a3 6 (by decide), v1, rset_at hR (by decide), Option.bind_some, rget_at hR (by decide), Option.bind_some, nI_1]
                generalize hs2 : ((s1.1, fun q => if q = 6 then upd (s1.2 6) (10 * m + r) (nI ((aRow A m r).length + 1)) else s1.2 q) : rS) = s2
                have b1 : s2.1 = st.1 := by rw [← hs2]; exact a1
                have b2 : s2.2 7 = upd (st.2 7) (200 * (10 * m + r) + (aRow A m r).length) t := by rw [← hs2, ← a2]; rfl
                have b4 : s2.2 6 = upd (st.2 6) (10 * m + r) (nI ((aRow A m r).length + 1)) := by rw [← a3 6 (by decide), ← hs2]; rfl
                have b3 : ∀ j, j ≠ 7 → j ≠ 6 → s2.2 j = st.2 j := fun j hj hj2 => by rw [← a3 j hj, ← hs2]; exact if_neg hj2
                refine ⟨s2, ?_, ⟨by rw [b1, show (aMore A m r t).2.1 2 = A.2.1 2 from aMore_l (by omega)]; exact q1, fun m' hm' => ?_, fun i hi => by rw [b3 8 (by decide) (by decide)]; exact q3 i hi, g, q4, q5, by rw [b1]; exact q6, fun j i hj hi => by rw [b3 9 (by decide) (by decide)]; exact q7 j i hj hi⟩, ⟨fun j _ _ => by rw [b1], fun j hj => b3 j (by omega) (by omega)⟩⟩
                · rw [b4, upd_same]
                · rw [show (aMore A m r t).2.1 2 = A.2.1 2 from aMore_l (by omega)] at hm'
                  obtain ⟨y1, y2, y3, y4, y5⟩ := q2 m' hm'
                  have n1 : aNum (aMore A m r t) m' = aNum A m' := by unfold aNum; rw [aMore_l (by omega)]
                  have n2 : aMk (aMore A m r t) m' = aMk A m' := by unfold aMk; rw [aMore_l (by omega)]
                  refine ⟨by rw [n1, b3 2 (by decide) (by decide)]; exact y1, by rw [n1]; exact y2, by rw [n2, b3 3 (by decide) (by decide)]; exact y3, ?_, fun r' hr' => ?_⟩
                  · rw [show aRow (aMore A m r t) m' 10 = aRow A m' 10 from aMore_l (by omega)]
                    exact y4.same (b3 4 (by decide) (by decide)) (b3 5 (by decide) (by decide))
                  · by_cases hmm : 10 * m' + r' = 10 * m + r
                    · have hmr : m' = m ∧ r' = r := by omega
                      obtain ⟨rfl, rfl⟩ := hmr
                      rw [aMore_row, if_pos hf]
                      refine ⟨?_, by rw [List.length_append]; show _ + 1 ≤ 200; omega, by rw [b2]; exact push_self (y5 r' hr').2.2⟩
                      rw [b4, upd_same, List.length_append]
                      rfl
                    · rw [show aRow (aMore A m r t) m' r' = aRow A m' r' from aMore_l (by omega)]
                      refine ⟨?_, (y5 r' hr').2.1, by rw [b2]; exact push_other (y5 r' hr').2.2 (y5 r' hr').2.1 hf hmm⟩
                      rw [b4, upd_other hmm]
                      exact (y5 r' hr').1
              · rw [if_pos (show nI (aRow A m r).length = 200 by rw [show (aRow A m r).length = 200 by omega]; rfl), if_neg hf, aMore_same hf]
                exact ⟨st, rfl, hM, rKm.rf _⟩
    · rw [if_pos (by simp only [hr, decide_false]; rfl), if_pos (show i2 < 0 ∨ nI (aNum A m) < i2 from by
        by_cases hn : i2 < 0
        · exact Or.inl hn
        · exact Or.inr (Int32.not_le.mp (fun q => hr ⟨Int32.not_lt.mp hn, q⟩)))]
      exact ⟨st, rfl, hM, rKm.rf _⟩
  · rw [if_pos (by simp only [hq, decide_false]; rfl), if_pos (out_of hk)]
    exact ⟨st, rfl, hM, rKm.rf _⟩
theorem g_group_at {n g : Nat} {b : Int32} {st : rS} {A : aS} (hM : rM st A) (hg15 : A.1 15 = nI g) (hg : g ≤ 20) (hn : 300 < n) : ∃ st', g_group n b st = some (if b = 0 then (if g = 0 then -3 else nI (g - 1)) else if g = 20 then -4 else nI (g + 1), st') ∧ rM st' (if b = 0 then (if g = 0 then A else aClose A g) else if g = 20 then A else aOpen A g) ∧ rKm st st' := by
  obtain ⟨q1, q2, q3, g', q4, q5, q6, q7⟩ := id hM
  have hgg : g' = g := (nI_eq (by omega) (by omega)).mp (by rw [← q5, hg15])
  subst hgg
  unfold g_group
  by_cases hb : b = 0
  · simp only [if_pos hb]
    rw [q6]
    by_cases h0 : g' = 0
    · simp only [if_pos h0]
      rw [if_pos (by rw [h0]; rfl)]
      exact ⟨st, rfl, hM, rKm.rf _⟩
    · simp only [if_neg h0]
      rw [if_neg (show ¬ nI g' = (0 : Int32) from fun q => h0 ((nI_eq (b := 0) (by omega) (by omega)).mp q)), show nI g' - 1 = nI (g' - 1) from pk_sub (b := 1) (by omega)]
      obtain ⟨u, s1, e1, f1, f2, f3⟩ := gloopW_rule (body := g_group_b89 n) (fun e x s => ∃ i, e = 200 - i ∧ i ≤ 200 ∧ x = nI i ∧ s.1 = (rput st 14 (nI (g' - 1))).1 ∧ (∀ j, j ≠ 8 → s.2 j = st.2 j) ∧ ∀ q, s.2 8 q = if q < i then st.2 9 (200 * (g' - 1) + q) else st.2 8 q) (fun _ s => s.1 = (rput st 14 (nI (g' - 1))).1 ∧ (∀ j, j ≠ 8 → s.2 j = st.2 j) ∧ ∀ q, q < 200 → s.2 8 q = st.2 9 (200 * (g' - 1) + q))
        (by
          rintro e x s ⟨i, rfl, hi, rfl, g1, g2, g3⟩
          by_cases he : i = 200
          · refine Or.inr ⟨(), s, ?_, g1, g2, fun q hq => by rw [g3 q, if_pos (by omega)]⟩
            unfold g_group_b89
            dsimp only
            rw [if_pos (show (200 : Int32) ≤ _ from nI_le (a := 200) (by omega) (by omega))]
          · refine Or.inl ⟨nI (i + 1), 200 - (i + 1), (s.1, fun q => if q = 8 then upd (s.2 8) i (s.2 9 (200 * (g' - 1) + i)) else s.2 q), ?_, by omega, i + 1, rfl, by omega, rfl, g1, fun j hj => ?_, fun q => ?_⟩
            · unfold g_group_b89
              dsimp only
              rw [if_neg (show ¬ (200 : Int32) ≤ _ from nI_ge (b := 200) (by omega) (by decide)), show s.1 14 = nI (g' - 1) by rw [g1]; rfl, show (200 : Int32) = nI 200 from rfl, pk_mul, nI_add, rget_at (by omega) (by decide), Option.bind_some, rset_at (by omega) (by decide), Option.bind_some, nI_1]
            · show (if j = 8 then _ else s.2 j) = _
              rw [if_neg hj]
              exact g2 j hj
            · show upd (s.2 8) i (s.2 9 (200 * (g' - 1) + i)) q = _
              by_cases hq : q = i
              · rw [hq, upd_same, if_pos (by omega), g2 9 (by decide)]
              · rw [upd_other hq, g3 q]
                by_cases hq2 : q < i
                · rw [if_pos hq2, if_pos (by omega)]
                · rw [if_neg hq2, if_neg (by omega)])
        n 200 (nI 0) (rput st 14 (nI (g' - 1))) (by omega) ⟨0, by omega, by omega, rfl, rfl, fun _ _ => rfl, fun q => by rw [if_neg (by omega)]; rfl⟩
      rw [show (0 : Int32) = nI 0 from rfl, e1]
      simp only [gbW]
      have s14 : s1.1 14 = nI (g' - 1) := by rw [f1]; rfl
      have so : ∀ j, j ≠ 14 → s1.1 j = st.1 j := fun j hj => by rw [f1]; exact upd_other hj
      refine ⟨s1, by rw [s14], ⟨?_, fun m hm => ?_, fun i hi => ?_, g' - 1, by omega, rfl, s14, fun j i hj hi => ?_⟩, fun j _ hj => so j hj, fun j hj => f2 j (by omega)⟩
      · rw [so 6 (by decide)]
        exact q1
      · obtain ⟨y1, y2, y3, y4, y5⟩ := q2 m hm
        exact ⟨by rw [f2 2 (by decide)]; exact y1, y2, by rw [f2 3 (by decide)]; exact y3, y4.same (f2 4 (by decide)) (f2 5 (by decide)), fun r hr => (y5 r hr).same (f2 6 (by decide)) (f2 7 (by decide))⟩
      · rw [f3 i hi, q7 (g' - 1) i (by omega) hi]
        show _ = va_up A.2.2.1 0 (A.2.2.1 (1 + (g' - 1))) 0 i
        rw [va_up_self]
      · rw [f2 9 (by decide), q7 j i (by omega) hi]
        show _ = va_up A.2.2.1 0 (A.2.2.1 (1 + (g' - 1))) (1 + j) i
        rw [va_up_ne _ _ (by omega)]
  · simp only [if_neg hb]
    rw [q6]
    by_cases h20 : g' = 20
    · simp only [if_pos h20]
      rw [if_pos (by rw [h20]; rfl)]
      exact ⟨st, rfl, hM, rKm.rf _⟩
    · simp only [if_neg h20]
      rw [if_neg (show ¬ nI g' = (20 : Int32) from fun q => h20 ((nI_eq (b := 20) (by omega) (by omega)).mp q))]
      obtain ⟨u, s1, e1, f1, f2, f3⟩ := gloopW_rule (body := g_group_b18 n) (fun e x s => ∃ i, e = 200 - i ∧ i ≤ 200 ∧ x = nI i ∧ s.1 = st.1 ∧ (∀ j, j ≠ 9 → s.2 j = st.2 j) ∧ ∀ q, s.2 9 q = if 200 * g' ≤ q ∧ q < 200 * g' + i then st.2 8 (q - 200 * g') else st.2 9 q) (fun _ s => s.1 = st.1 ∧ (∀ j, j ≠ 9 → s.2 j = st.2 j) ∧ ∀ q, s.2 9 q = if 200 * g' ≤ q ∧ q < 200 * g' + 200 then st.2 8 (q - 200 * g') else st.2 9 q)
        (by
          rintro e x s ⟨i, rfl, hi, rfl, g1, g2, g3⟩
          by_cases he : i = 200
          · refine Or.inr ⟨(), s, ?_, g1, g2, by rw [he] at g3; exact g3⟩
            unfold g_group_b18
            dsimp only
            rw [if_pos (show (200 : Int32) ≤ _ from nI_le (a := 200) (by omega) (by omega))]
          · refine Or.inl ⟨nI (i + 1), 200 - (i + 1), (s.1, fun q => if q = 9 then upd (s.2 9) (200 * g' + i) (s.2 8 i) else s.2 q), ?_, by omega, i + 1, rfl, by omega, rfl, g1, fun j hj => ?_, fun q => ?_⟩
            · unfold g_group_b18
              dsimp only
              rw [if_neg (show ¬ (200 : Int32) ≤ _ from nI_ge (b := 200) (by omega) (by decide)), show s.1 14 = nI g' by rw [g1]; exact q6, rget_at (by omega) (by decide), Option.bind_some, show (200 : Int32) = nI 200 from rfl, pk_mul, nI_add, rset_at (by omega) (by decide), Option.bind_some, nI_1]
            · show (if j = 9 then _ else s.2 j) = _
              rw [if_neg hj]
              exact g2 j hj
            · show upd (s.2 9) (200 * g' + i) (s.2 8 i) q = _
              by_cases hq : q = 200 * g' + i
              · rw [hq, upd_same, if_pos (by omega), g2 8 (by decide), show 200 * g' + i - 200 * g' = i by omega]
              · rw [upd_other hq, g3 q]
                by_cases hq2 : 200 * g' ≤ q ∧ q < 200 * g' + i
                · rw [if_pos hq2, if_pos (by omega)]
                · rw [if_neg hq2, if_neg (by omega)])
        n 200 (nI 0) st (by omega) ⟨0, by omega, by omega, rfl, rfl, fun _ _ => rfl, fun q => by rw [if_neg (by omega)]⟩
      rw [show (0 : Int32) = nI 0 from rfl, e1]
      simp only [gbW]
      rw [show s1.1 14 = nI g' by rw [f1]; exact q6, nI_1]
      have s14 : (rput s1 14 (nI (g' + 1))).1 14 = nI (g' + 1) := rfl
      have so : ∀ j, j ≠ 14 → (rput s1 14 (nI (g' + 1))).1 j = st.1 j := fun j hj => by
        rw [← f1]
        exact upd_other hj
      refine ⟨rput s1 14 (nI (g' + 1)), by rw [s14], ⟨?_, fun m hm => ?_, fun i hi => ?_, g' + 1, by omega, rfl, s14, fun j i hj hi => ?_⟩, fun j _ hj => so j hj, fun j hj => f2 j (by omega)⟩
      · rw [so 6 (by decide)]
        exact q1
      · obtain ⟨y1, y2, y3, y4, y5⟩ := q2 m hm
        exact ⟨by rw [show (rput s1 14 (nI (g' + 1))).2 2 = st.2 2 from f2 2 (by decide)]; exact y1, y2, by rw [show (rput s1 14 (nI (g' + 1))).2 3 = st.2 3 from f2 3 (by decide)]; exact y3, y4.same (f2 4 (by decide)) (f2 5 (by decide)), fun r hr => (y5 r hr).same (f2 6 (by decide)) (f2 7 (by decide))⟩
      · rw [show (rput s1 14 (nI (g' + 1))).2 8 = st.2 8 from f2 8 (by decide), q3 i hi]
        show _ = va_up A.2.2.1 (1 + g') (A.2.2.1 0) 0 i
        rw [va_up_ne _ _ (by omega)]
      · show s1.2 9 (200 * j + i) = va_up A.2.2.1 (1 + g') (A.2.2.1 0) (1 + j) i
        rw [f3]
        by_cases hjg : j = g'
        · subst hjg
          rw [if_pos (by omega), va_up_self, show 200 * j + i - 200 * j = i by omega]
          exact q3 i hi
        · rw [if_neg (by omega), va_up_ne _ _ (by omega)]
          exact q7 j i (by omega) hi
theorem g_fault_at {i f v s : Int32} {st : rS} (h21 : st.1 21 = f) (h0 : f = 0 → v = 0) (h1 : f ≠ 0 → v = st.1 22) (h23 : st.1 23 = s) : g_fault i st = some (if i = 0 then f else if i = 1 then v else if i = 2 then s else -2) := by
  unfold g_fault
  dsimp only
  rw [h21, h23]
  by_cases i0 : i = 0
  · rw [if_pos i0, if_pos i0]
  · rw [if_neg i0, if_neg i0]
    by_cases i1 : i = 1
    · rw [if_pos i1, if_pos i1]
      by_cases hf : f = 0
      · rw [if_pos hf, h0 hf]
      · rw [if_neg hf, h1 hf]
    · rw [if_neg i1, if_neg i1]
      by_cases i2 : i = 2
      · rw [if_pos i2, if_pos i2]
      · rw [if_neg i2, if_neg i2]
theorem g_named_at {i : Int32} {st : rS} {A : aS} (h : rN st A) : g_named i st = some (if i = -1 then A.1 16 else mAt ((List.range (A.1 16).toNatClampNeg).map (fun j => nI (A.2.1 (100 + j)).length)) i) := by
  obtain ⟨c, hc, h16, s16, hw⟩ := h
  unfold g_named
  dsimp only
  rw [s16, h16, nI_clamp (by omega)]
  by_cases hm : i = -1
  · rw [if_pos hm, if_pos hm]
  · rw [if_neg hm, if_neg hm, g_in_at, Option.bind_some]
    rcases in_cases (i := i) (n := c) (by omega) with ⟨⟨k, hk, rfl⟩, hq⟩ | ⟨hk, hq⟩
    · rw [if_neg (by simp [hq, b01]), rget_at (by omega) (by decide), Option.bind_some, (hw k hk).1, mAt_in (t := nI (A.2.1 (100 + k)).length) (by simp [List.getElem?_range hk]) (by omega)]
    · rw [if_pos (by simp only [hq, decide_false]; rfl), mAt_out (by simpa using hk)]
theorem tAt_out {tr : List (Int32 × Int32 × Int32)} {i w : Int32} (hi : i < 0 ∨ ∃ j, tr.length ≤ j ∧ j < 2 ^ 31 ∧ i = nI j) : tAt tr i w = -1 := by
  unfold tAt
  rw [mAt_out (xs := tr.map (fun q => q.1)) (by simpa using hi), mAt_out (xs := tr.map (fun q => q.2.1)) (by simpa using hi), mAt_out (xs := tr.map (fun q => q.2.2)) (by simpa using hi)]
  split
  · rfl
  · split
    · rfl
    · split <;> rfl
theorem g_traced_at {i w : Int32} {st : rS} {tr : List (Int32 × Int32 × Int32)} (h : RT st tr) : g_traced i w st = some (tAt tr i w) := by
  obtain ⟨h1, h2, h3⟩ := h
  unfold g_traced
  dsimp only
  rw [h1, g_in_at, Option.bind_some]
  rcases in_cases (i := i) (n := tr.length) (by omega) with ⟨⟨k, hk, rfl⟩, hq⟩ | ⟨hk, hq⟩
  · rw [if_neg (by simp [hq, b01]), g_in_at, Option.bind_some]
    have hgk : tr[k]? = some (tr[k]'hk) := List.getElem?_eq_getElem hk
    obtain ⟨r1, r2, r3⟩ := h3 k _ hgk
    rcases in_cases (i := w) (n := 3) (by decide) with ⟨⟨j, hj, rfl⟩, hq2⟩ | ⟨hk2, hq2⟩
    · rw [show nI 3 - 1 = 2 by decide] at hq2
      rw [if_neg (by simp [hq2, b01]), show (3 : Int32) = nI 3 from rfl, pk_mul, nI_add, rget_at (by omega) (by decide), Option.bind_some]
      unfold tAt
      rcases (show j = 0 ∨ j = 1 ∨ j = 2 by omega) with rfl | rfl | rfl
      · rw [if_pos (show nI 0 = 0 from rfl), mAt_in (xs := tr.map (fun q => q.1)) (t := (tr[k]'hk).1) (by simp [hgk]) (by omega), ← r1]
        rfl
      · rw [if_neg (by decide), if_pos (show nI 1 = 1 from rfl), mAt_in (xs := tr.map (fun q => q.2.1)) (t := (tr[k]'hk).2.1) (by simp [hgk]) (by omega), ← r2]
      · rw [if_neg (by decide), if_neg (by decide), if_pos (show nI 2 = 2 from rfl), mAt_in (xs := tr.map (fun q => q.2.2)) (t := (tr[k]'hk).2.2) (by simp [hgk]) (by omega), ← r3]
    · rw [show nI 3 - 1 = 2 by decide] at hq2
      rw [if_pos (by simp only [hq2, decide_false]; rfl)]
      unfold tAt
      rw [if_neg (fun q => hq2 (by rw [q]; decide)), if_neg (fun q => hq2 (by rw [q]; decide)), if_neg (fun q => hq2 (by rw [q]; decide))]
  · rw [if_pos (by simp only [hq, decide_false]; rfl), tAt_out hk]
