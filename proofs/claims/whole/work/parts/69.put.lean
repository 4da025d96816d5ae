/-! A BODY'S TOKENS COME INTO THE ROOM -/
theorem g_putArg {n : Nat} {s : rS} {as gap cs xs : List Int32} {x2 x6 x7 x8 x10 : Int32} {m k a : Nat} (hV : RV s (as ++ gap ++ cs)) (hg : xs.length ≤ gap.length) (hm : m < 100) (ha : a < 10) (hk : k ≤ 9) (hak : a ≤ k) (h2 : s.2 2 m = nI k) (hA : RA s a xs) (hn : 500 < n) :
    ∃ s', gloopW (g_expandName_b351 n x2 (nI m) x6 x7 x8 x10 (nI a)) n (nI as.length, 0) s = some (nI (as.length + xs.length), s') ∧ RV s' (as ++ xs ++ gap.drop xs.length ++ cs) ∧ s'.1 = s.1 ∧ ∀ j, j ≠ 0 → s'.2 j = s.2 j := by
  have h4 := hA.2.1
  have hle := hV.le
  simp only [List.length_append] at hle
  obtain ⟨b, s', e1, rfl, e2, e3, e4⟩ := gloopW_rule (body := g_expandName_b351 n x2 (nI m) x6 x7 x8 x10 (nI a)) (fun e x u => ∃ i, e = xs.length - i ∧ i ≤ xs.length ∧ x = (nI (as.length + i), nI i) ∧ RV u (as ++ xs.take i ++ gap.drop i ++ cs) ∧ u.1 = s.1 ∧ ∀ j, j ≠ 0 → u.2 j = s.2 j) (fun b u => b = nI (as.length + xs.length) ∧ RV u (as ++ xs ++ gap.drop xs.length ++ cs) ∧ u.1 = s.1 ∧ ∀ j, j ≠ 0 → u.2 j = s.2 j)
    (by
      rintro e x u ⟨i, rfl, hi, rfl, hU, u1, u2⟩
      have hb2 : rget u 2 100 (nI m) = some (nI k) := by rw [rget_at hm (by decide), u2 2 (by decide), h2]
      have hb12 : rget u 12 10 (nI a) = some (nI xs.length) := by rw [rget_at ha (by decide), u2 12 (by decide), hA.1]
      by_cases he : i = xs.length
      · subst he
        rw [List.take_length] at hU
        refine Or.inr ⟨_, u, ?_, rfl, hU, u1, u2⟩
        unfold g_expandName_b351
        dsimp only
        rw [hb2, Option.bind_some, if_neg (nI_nlt hak (by omega)), hb12, Option.bind_some, if_pos (nI_le (Nat.le_refl _) (by omega))]
      · obtain ⟨t, ht⟩ : ∃ t, xs[i]? = some t := ⟨xs[i]'(by omega), List.getElem?_eq_getElem (by omega)⟩
        have hgd : gap.drop i = gap[i]'(by omega) :: gap.drop (i + 1) := List.drop_eq_getElem_cons (by omega)
        have htk : xs.take (i + 1) = xs.take i ++ [t] := by rw [List.take_succ, ht]; rfl
        rw [hgd, List.append_assoc (as ++ xs.take i), List.cons_append] at hU
        obtain ⟨u', g1, g2, g3, g4⟩ := hU.set (t := t)
        have hlen : (as ++ xs.take i).length = as.length + i := by rw [List.length_append, List.length_take]; omega
        rw [hlen] at g1
        refine Or.inl ⟨(nI (as.length + (i + 1)), nI (i + 1)), xs.length - (i + 1), u', ?_, by omega, i + 1, rfl, by omega, rfl, ?_, g3.trans u1, fun j hj => (g4 j hj).trans (u2 j hj)⟩
        · unfold g_expandName_b351
          dsimp only
          rw [hb2, Option.bind_some, if_neg (nI_nlt hak (by omega)), hb12, Option.bind_some, if_neg (nI_ge (by omega) (by omega)), show (400 : Int32) = nI 400 from rfl, pk_mul, nI_add, rget_at (by omega) (by decide), Option.bind_some, u2 13 (by decide), hA.2.2 i t ht, g1]
          show some (Sum.inl (nI (as.length + i) + 1, nI i + 1), u') = _
          rw [nI_1, nI_1]
          rfl
        · rw [htk, show as ++ (xs.take i ++ [t]) ++ gap.drop (i + 1) ++ cs = as ++ xs.take i ++ t :: (gap.drop (i + 1) ++ cs) by simp]
          exact g2) n xs.length (nI as.length, 0) s (by omega) ⟨0, rfl, by omega, rfl, by simpa using hV, rfl, fun _ _ => rfl⟩
  exact ⟨s', e1, e2, e3, e4⟩
