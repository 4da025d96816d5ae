/-! ROOM IN THE REFERENCE'S INPUT -/
theorem RV.spread {n : Nat} {st : rS} {as cs : List Int32} {many : Nat} (h : RV st (as ++ cs)) (hs : as.length + cs.length + many ≤ 3100) (hn : 3200 < n) : ∃ (st' : rS) (bs : List Int32), bs.length = many ∧ g_spread n (nI as.length) (nI many) st = some ((), st') ∧ RV st' (as ++ bs ++ cs) ∧ (∀ k, k ≠ 2 → k ≠ 3 → st'.1 k = st.1 k) ∧ ∀ j, j ≠ 0 → st'.2 j = st.2 j := by
  obtain ⟨hd, q1, q2, q3, q4, q5⟩ := h
  obtain ⟨st', e1, e2, e3, e4, e5, e6, e7⟩ := g_spread_at (n := n) (at_ := as.length) (many := many) q2 q1 (by omega) (by omega)
  refine ⟨st', (List.range many).map (fun i => st'.2 0 (((hd + 4096 - many) % 4096 + (as.length + i)) % 4096)), by simp, e1, ⟨(hd + 4096 - many) % 4096, by omega, e2, ?_, ?_, fun k t hk => ?_⟩, e4, e5⟩
  · rw [e3, q3, nI_add]
    simp only [List.length_append, List.length_map, List.length_range]
    exact congrArg nI (by omega)
  · simp only [List.length_append, List.length_map, List.length_range]
    omega
  · by_cases h1 : k < as.length
    · rw [List.append_assoc, List.getElem?_append_left h1] at hk
      rw [show ((hd + 4096 - many) % 4096 + k) % 4096 = (hd + 4096 - many + k) % 4096 by omega, e6 k h1]
      exact q5 k t (by rw [List.getElem?_append_left h1]; exact hk)
    · by_cases h2 : k < as.length + many
      · rw [List.append_assoc, List.getElem?_append_right (by omega), List.getElem?_append_left (by simp; omega), List.getElem?_map, List.getElem?_range (by omega)] at hk
        simp only [Option.map_some, Option.some.injEq] at hk
        rw [← hk, show as.length + (k - as.length) = k by omega]
      · rw [List.getElem?_append_right (by simp; omega)] at hk
        simp only [List.length_append, List.length_map, List.length_range] at hk
        have hlt : k - (as.length + many) < cs.length := (List.getElem?_eq_some_iff.mp hk).1
        rw [show ((hd + 4096 - many) % 4096 + k) % 4096 = (hd + (k - many)) % 4096 by omega, e7 (k - many) (by omega) (by omega)]
        refine q5 (k - many) t ?_
        rw [List.getElem?_append_right (by omega), show k - many - as.length = k - (as.length + many) by omega]
        exact hk
