/-! A BODY'S TOKENS COME INTO THE ROOM -/
theorem g_putArg {n : Nat} {s : rS} {as gap cs xs : List Int32} {x2 x6 x7 x8 x10 : Int32} {m k a : Nat} (hV : RV s (as ++ gap ++ cs)) (hg : xs.length ≤ gap.length) (hm : m < 100) (ha : a < 10) (hk : k ≤ 9) (hak : a ≤ k) (h2 : s.2 2 m = nI k) (hA : RA s a xs) (hn : 500 < n) :
    ∃ s', gloopW (g_expandName_b351 n x2 (nI m) x6 x7 x8 x10 (nI a)) n (nI as.length, 0) s = some (nI (as.length + xs.length), s') ∧ RV s' (as ++ xs ++ gap.drop xs.length ++ cs) ∧ s'.1 = s.1 ∧ ∀ j, j ≠ 0 → s'.2 j = s.2 j := by
  have h4 := hA.2.1
  have hle := hV.le
  simp only [List.length_append] at hle
  obtain ⟨b, s', e1, rfl, e2, e3, e4⟩ := gloopW_rule (body := g_expandName_b351 n x2 (nI m) x6 x7 x8 x10 (nI a)) (fun e x u => ∃ i, e = xs.length - i ∧ i ≤ xs.length ∧ x = (nI (as.length + i), nI i) ∧ RV u (as ++ xs.take i ++ gap.drop i ++ cs) ∧ u.1 = s.1 ∧ ∀ j, j ≠ 0 → u.2 j = s.2 j) (fun b u => b = nI (as.length + xs.length) ∧ RV u (as ++ xs ++ gap.drop xs.length ++ cs) ∧ u.1 = s.1 ∧ ∀ j, j ≠ 0 → u.2 j = s.2 j)
    (by
      rintro e x u ⟨i, rfl, hi, rfl, hU, u1, u2⟩
      have hb2 : rget u 2 100 (nI m) = some (nI k) := by rw [rget_at hm (by decide), u2 2 (by decide), h2]
      have hb12 : rget u 12 10 (nI a) = some (nI xs.length) := by rw [rget_at ha (by decide), u2 12 (by decide), hA.1]
      by_cases he : i = xs.length
      · subst he
        rw [List.take_length] at hU
        refine Or.inr ⟨_, u, ?_, rfl, hU, u1, u2⟩
        unfold g_expandName_b351
        dsimp only
        rw [hb2, Option.bind_some, if_neg (nI_nlt hak (by omega)), hb12, Option.bind_some, if_pos (nI_le (Nat.le_refl _) (by omega))]
      · obtain ⟨t, ht⟩ : ∃ t, xs[i]? = some t := ⟨xs[i]'(by omega), List.getElem?_eq_getElem (by omega)⟩
        have hgd : gap.drop i = gap[i]'(by omega) :: gap.drop (i + 1) := List.drop_eq_getElem_cons (by omega)
        have htk : xs.take (i + 1) = xs.take i ++ [t] := by rw [List.take_succ, ht]; rfl
        rw [hgd, List.append_assoc (as ++ xs.take i), List.cons_append] at hU
        obtain ⟨u', g1, g2, g3, g4⟩ := hU.set (t := t)
        have hlen : (as ++ xs.take i).length = as.length + i := by rw [List.length_append, List.length_take]; omega
        rw [hlen] at g1
        refine Or.inl ⟨(nI (as.length + (i + 1)), nI (i + 1)), xs.length - (i + 1), u', ?_, by omega, i + 1, rfl, by omega, rfl, ?_, g3.trans u1, fun j hj => (g4 j hj).trans (u2 j hj)⟩
        · unfold g_expandName_b351
          dsimp only
          rw [hb2, Option.bind_some, if_neg (nI_nlt hak (by omega)), hb12, Option.bind_some, if_neg (nI_ge (by omega) (by omega)), show (400 : Int32) = nI 400 from rfl, pk_mul, nI_add, rget_at (by omega) (by decide), Option.bind_some, u2 13 (by decide), hA.2.2 i t ht, g1]
          show some (Sum.inl (nI (as.length + i) + 1, nI i + 1), u') = _
          rw [nI_1, nI_1]
          rfl
        · rw [htk, show as ++ (xs.take i ++ [t]) ++ gap.drop (i + 1) ++ cs = as ++ xs.take i ++ t :: (gap.drop (i + 1) ++ cs) by simp]
          exact g2) n xs.length (nI as.length, 0) s (by omega) ⟨0, rfl, by omega, rfl, by simpa using hV, rfl, fun _ _ => rfl⟩
  exact ⟨s', e1, e2, e3, e4⟩
theorem g_putText {n : Nat} {s : rS} {as gap cs bs : List Int32} {args : Nat → List Int32} {x2 x6 x7 x8 : Int32} {m k : Nat} (hV : RV s (as ++ gap ++ cs)) (hg : gap.length = (bs.flatMap (mPut k args)).length) (hm : m < 100) (hk : k ≤ 9) (h2 : s.2 2 m = nI k) (hB : RB s m bs) (hA : ∀ a, 1 ≤ a → a ≤ k → RA s a (args a)) (hn : 500 < n) :
    ∃ s', gloopW (g_expandName_b300 n x2 (nI m) x6 x7 x8) n (nI as.length, 0) s = some ((), s') ∧ RV s' (as ++ bs.flatMap (mPut k args) ++ cs) ∧ s'.1 = s.1 ∧ ∀ j, j ≠ 0 → s'.2 j = s.2 j := by
  have hl := hB.2.1
  have hle := hV.le
  simp only [List.length_append] at hle
  obtain ⟨b, s', e1, e2, e3, e4⟩ := gloopW_rule (body := g_expandName_b300 n x2 (nI m) x6 x7 x8) (fun e x u => ∃ i, e = bs.length - i ∧ i ≤ bs.length ∧ x = (nI (as.length + ((bs.take i).flatMap (mPut k args)).length), nI i) ∧ RV u (as ++ (bs.take i).flatMap (mPut k args) ++ gap.drop ((bs.take i).flatMap (mPut k args)).length ++ cs) ∧ u.1 = s.1 ∧ ∀ j, j ≠ 0 → u.2 j = s.2 j) (fun _ u => RV u (as ++ bs.flatMap (mPut k args) ++ cs) ∧ u.1 = s.1 ∧ ∀ j, j ≠ 0 → u.2 j = s.2 j)
    (by
      rintro e x u ⟨i, rfl, hi, rfl, hU, u1, u2⟩
      have hb4 : rget u 4 100 (nI m) = some (nI bs.length) := by rw [rget_at hm (by decide), u2 4 (by decide), hB.1]
      by_cases he : i = bs.length
      · subst he
        rw [List.take_length, ← hg, List.drop_length, List.append_nil] at hU
        refine Or.inr ⟨(), u, ?_, hU, u1, u2⟩
        unfold g_expandName_b300
        dsimp only
        rw [hb4, Option.bind_some, if_pos (nI_le (Nat.le_refl _) (by omega))]
      · obtain ⟨t, ht⟩ : ∃ t, bs[i]? = some t := ⟨bs[i]'(by omega), List.getElem?_eq_getElem (by omega)⟩
        have htk : (bs.take (i + 1)).flatMap (mPut k args) = (bs.take i).flatMap (mPut k args) ++ mPut k args t := by rw [List.take_succ, ht]; simp
        have hroom : ((bs.take i).flatMap (mPut k args)).length + (mPut k args t).length ≤ gap.length := by
          rw [hg]
          have h1 : bs.flatMap (mPut k args) = (bs.take (i + 1)).flatMap (mPut k args) ++ (bs.drop (i + 1)).flatMap (mPut k args) := by rw [← List.flatMap_append, List.take_append_drop]
          rw [h1, htk]
          simp only [List.length_append]
          omega
        generalize hdn : (bs.take i).flatMap (mPut k args) = dn at hU htk hroom ⊢
        have hb5 : rget u 5 20000 ((200 : Int32) * nI m + nI i) = some t := by rw [show (200 : Int32) = nI 200 from rfl, pk_mul, nI_add, rget_at (by omega) (by decide), u2 5 (by decide), hB.2.2 i t ht]
        have hgo : ∀ u', RV u' (as ++ dn ++ mPut k args t ++ gap.drop (dn.length + (mPut k args t).length) ++ cs) → u'.1 = u.1 → (∀ j, j ≠ 0 → u'.2 j = u.2 j) → g_expandName_b300 n x2 (nI m) x6 x7 x8 (nI (as.length + dn.length), nI i) u = some (.inl (nI (as.length + (dn.length + (mPut k args t).length)), nI (i + 1)), u') → (∃ y k' s1, g_expandName_b300 n x2 (nI m) x6 x7 x8 (nI (as.length + dn.length), nI i) u = some (.inl y, s1) ∧ k' < bs.length - i ∧ ∃ i, k' = bs.length - i ∧ i ≤ bs.length ∧ y = (nI (as.length + ((bs.take i).flatMap (mPut k args)).length), nI i) ∧ RV s1 (as ++ (bs.take i).flatMap (mPut k args) ++ gap.drop ((bs.take i).flatMap (mPut k args)).length ++ cs) ∧ s1.1 = s.1 ∧ ∀ j, j ≠ 0 → s1.2 j = s.2 j) := by
          intro u' v1 v2 v3 v4
          refine ⟨_, bs.length - (i + 1), u', v4, by omega, i + 1, rfl, by omega, by rw [htk, List.length_append], ?_, v2.trans u1, fun j hj => (v3 j hj).trans (u2 j hj)⟩
          rw [htk, List.length_append, ← List.append_assoc as]
          exact v1
        left
        have hlen : (as ++ dn).length = as.length + dn.length := List.length_append
        by_cases hp : 311 ≤ t ∧ t ≤ 319
        · obtain ⟨a, a1, a2, a3, a4⟩ := tArg_of hp
          by_cases hak : a ≤ k
          · have hmp : mPut k args t = args a := by unfold mPut; rw [if_neg (by omega), if_pos (by omega), a3]
            rw [hmp] at hgo hroom
            have hAu : RA u a (args a) := (hA a a1 hak).same (u2 12 (by decide)) (u2 13 (by decide))
            obtain ⟨u', g1, g2, g3, g4⟩ := g_putArg (n := n) (x2 := x2) (x6 := x6) (x7 := x7) (x8 := x8) (x10 := nI i) (as := as ++ dn) (gap := gap.drop dn.length) hU (by rw [List.length_drop]; omega) hm (by omega) hk hak (by rw [u2 2 (by decide)]; exact h2) hAu hn
            rw [List.drop_drop] at g2
            refine hgo u' g2 g3 g4 ?_
            unfold g_expandName_b300 g_expandName_j433
            dsimp only
            rw [hlen] at g1
            rw [hb4, Option.bind_some, if_neg (nI_ge (by omega) (by omega)), hb5, Option.bind_some, g_in_at, Option.bind_some, if_neg (by simp [hp, b01]), a4, g1, nI_1, Nat.add_assoc]
            rfl
          · have hmp : mPut k args t = [] := by unfold mPut; rw [if_neg (by omega), if_neg (by omega)]
            rw [hmp] at hgo
            refine hgo u (by simpa using hU) rfl (fun _ _ => rfl) ?_
            have hin : gloopW (g_expandName_b351 n x2 (nI m) x6 x7 x8 (nI i) (nI a)) n (nI (as.length + dn.length), 0) u = some (nI (as.length + dn.length), u) := by
              obtain ⟨n', hn'⟩ : ∃ n', n = n' + 1 := ⟨n - 1, by omega⟩
              have hb1 : g_expandName_b351 n x2 (nI m) x6 x7 x8 (nI i) (nI a) (nI (as.length + dn.length), 0) u = some (.inr (nI (as.length + dn.length)), u) := by
                unfold g_expandName_b351
                dsimp only
                rw [rget_at hm (by decide), u2 2 (by decide), h2, Option.bind_some, if_pos (nI_lt (by omega) (by omega))]
              generalize g_expandName_b351 n x2 (nI m) x6 x7 x8 (nI i) (nI a) = f at hb1 ⊢
              rw [hn']
              unfold gloopW
              rw [hb1]
              rfl
            unfold g_expandName_b300 g_expandName_j433
            dsimp only
            rw [hb4, Option.bind_some, if_neg (nI_ge (by omega) (by omega)), hb5, Option.bind_some, g_in_at, Option.bind_some, if_neg (by simp [hp, b01]), a4, hin, nI_1]
            rfl
        · have h0 : tArg t = 0 := by unfold tArg; rw [if_neg hp]
          have hmp : mPut k args t = [if tPar t then t - 10 else t] := by unfold mPut; rw [if_pos h0]
          rw [hmp] at hgo hroom
          simp only [List.length_cons, List.length_nil] at hroom
          have hgd : gap.drop dn.length = gap[dn.length]'(by omega) :: gap.drop (dn.length + 1) := List.drop_eq_getElem_cons (by omega)
          rw [hgd, List.append_assoc (as ++ dn), List.cons_append] at hU
          obtain ⟨u', g1, g2, g3, g4⟩ := hU.set (t := if tPar t then t - 10 else t)
          rw [hlen] at g1
          refine hgo u' (by simpa using g2) g3 g4 ?_
          unfold g_expandName_b300 g_expandName_j427 g_expandName_j433
          dsimp only
          rw [hb4, Option.bind_some, if_neg (nI_ge (by omega) (by omega)), hb5, Option.bind_some, g_in_at, Option.bind_some, if_pos (by simp [hp, b01]), g_isParameter_at, Option.bind_some, nI_1, nI_1]
          cases hpar : tPar t
          · rw [hpar] at g1
            rw [if_pos (by decide)]
            have g1' : g_set (nI (as.length + dn.length)) t u = some ((), u') := g1
            rw [g1']
            rfl
          · rw [hpar] at g1
            rw [if_neg (by decide)]
            have g1' : g_set (nI (as.length + dn.length)) (t - 10) u = some ((), u') := g1
            rw [g1']
            rfl) n bs.length (nI as.length, 0) s (by omega) ⟨0, rfl, by omega, rfl, by simpa using hV, rfl, fun _ _ => rfl⟩
  exact ⟨s', e1, e2, e3, e4⟩
