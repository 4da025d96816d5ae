/-! SMALL CALLS OF THE REFERENCE -/
/-- place i of a row, -1 outside -/
def mAt (xs : List Int32) (i : Int32) : Int32 := if i < 0 then -1 else (xs[i.toNatClampNeg]?).getD (-1)
/-- an int within 0 .. n - 1 is a place, or it is outside -/
theorem in_cases {i : Int32} {n : Nat} (hn : n < 2 ^ 30) : ((∃ k, k < n ∧ i = nI k) ∧ (0 ≤ i ∧ i ≤ nI n - 1)) ∨ ((i < 0 ∨ ∃ k, n ≤ k ∧ k < 2 ^ 31 ∧ i = nI k) ∧ ¬ (0 ≤ i ∧ i ≤ nI n - 1)) := by
  by_cases h : i < 0
  · exact Or.inr ⟨Or.inl h, fun q => Int32.not_le.mpr h q.1⟩
  · obtain ⟨k, hk, rfl⟩ := nI_of h
    have h0 : (0 : Int32) ≤ nI k := nI_pos' hk
    have e : (nI n - 1).toInt = (n : Int) - 1 := by
      rw [show (1 : Int32) = nI 1 from rfl, pk_sub_toInt hn (by decide)]
      rfl
    have hle : nI k ≤ nI n - 1 ↔ k < n := by
      rw [Int32.le_iff_toInt_le, nI_toInt hk, e]
      omega
    by_cases hkn : k < n
    · exact Or.inl ⟨⟨k, hkn, rfl⟩, h0, hle.mpr hkn⟩
    · exact Or.inr ⟨Or.inr ⟨k, by omega, hk, rfl⟩, fun q => hkn (hle.mp q.2)⟩
theorem mAt_in {xs : List Int32} {k : Nat} {t : Int32} (h : xs[k]? = some t) (hk : k < 2 ^ 31) : mAt xs (nI k) = t := by
  unfold mAt
  rw [if_neg (nI_pos hk), nI_clamp hk, h]
  rfl
theorem mAt_out {xs : List Int32} {i : Int32} (h : i < 0 ∨ ∃ k, xs.length ≤ k ∧ k < 2 ^ 31 ∧ i = nI k) : mAt xs i = -1 := by
  unfold mAt
  rcases h with h | ⟨k, h1, h2, rfl⟩
  · rw [if_pos h]
  · rw [if_neg (nI_pos h2), nI_clamp h2, List.getElem?_eq_none h1]
    rfl
theorem g_input_at {st : rS} {xs : List Int32} {i : Int32} (hV : RV st xs) : g_input i st = some (mAt xs i) := by
  have hle := hV.le
  unfold g_input
  dsimp only
  rw [hV.size, g_in_at, Option.bind_some]
  rcases in_cases (i := i) (n := xs.length) (by omega) with ⟨⟨k, hk, rfl⟩, hq⟩ | ⟨hk, hq⟩
  · obtain ⟨t, ht⟩ : ∃ t, xs[k]? = some t := ⟨xs[k], List.getElem?_eq_getElem hk⟩
    rw [if_neg (by simp [hq, b01]), hV.get ht, mAt_in ht (by omega)]
    rfl
  · rw [if_pos (by simp only [hq, decide_false]; rfl), mAt_out hk]
/-- the reference's output -/
def RO (st : rS) (os : List Int32) : Prop := st.1 4 = nI os.length ∧ os.length ≤ 3000 ∧ ∀ (i : Nat) (t : Int32), os[i]? = some t → st.2 1 i = t
theorem g_at_at {st : rS} {os : List Int32} {i : Int32} (hO : RO st os) : g_at i st = some (mAt os i) := by
  have hle := hO.2.1
  unfold g_at
  dsimp only
  rw [hO.1, g_in_at, Option.bind_some]
  rcases in_cases (i := i) (n := os.length) (by omega) with ⟨⟨k, hk, rfl⟩, hq⟩ | ⟨hk, hq⟩
  · obtain ⟨t, ht⟩ : ∃ t, os[k]? = some t := ⟨os[k], List.getElem?_eq_getElem hk⟩
    rw [if_neg (by simp [hq, b01]), rget_at (by omega) (by decide), hO.2.2 k t ht, mAt_in ht (by omega)]
    rfl
  · rw [if_pos (by simp only [hq, decide_false]; rfl), mAt_out hk]
theorem g_token_no {st : rS} {i : Int32} (h : tTok i = false) : g_token i st = some (-2, st) := by
  unfold g_token
  rw [g_isToken_at, h, Option.bind_some, if_pos (by decide)]
theorem g_token_full {st : rS} {xs : List Int32} {i : Int32} (hV : RV st xs) (h : tTok i = true) (hf : xs.length = 3000) : g_token i st = some (-4, st) := by
  unfold g_token
  rw [g_isToken_at, h, Option.bind_some, if_neg (by decide)]
  dsimp only
  rw [hV.size, hf, if_pos (by decide)]
theorem g_token_at {st : rS} {xs : List Int32} {i : Int32} (hV : RV st xs) (h : tTok i = true) (hf : xs.length < 3000) : ∃ st' : rS, g_token i st = some (nI (xs.length + 1), st') ∧ RV st' (xs ++ [i]) ∧ (∀ k, k ≠ 3 → st'.1 k = st.1 k) ∧ ∀ j, j ≠ 0 → st'.2 j = st.2 j := by
  obtain ⟨hd, q1, q2, q3, q4, q5⟩ := hV
  refine ⟨rput (st.1, fun q => if q = 0 then upd (st.2 0) ((hd + xs.length) % 4096) i else st.2 q) 3 (nI (xs.length + 1)), ?_, ⟨hd, q1, ?_, ?_, by simp; omega, fun k t hk => ?_⟩, fun k hk => ?_, fun j hj => ?_⟩
  · unfold g_token
    rw [g_isToken_at, h, Option.bind_some, if_neg (by decide)]
    dsimp only
    rw [q3, if_neg (fun q => by have := (nI_eq (b := 3000) (by omega) (by decide)).mp q; omega), q2, nI_add, nI_mask (by omega), rset_at (Nat.mod_lt _ (by decide)) (by decide), Option.bind_some]
    dsimp only
    rw [q3, nI_1]
    show some (upd st.1 3 (nI (xs.length + 1)) 3, _) = _
    rw [upd_same]
  · show upd st.1 3 (nI (xs.length + 1)) 2 = _
    rw [upd_other (by decide)]
    exact q2
  · show upd st.1 3 (nI (xs.length + 1)) 3 = nI (xs ++ [i]).length
    rw [upd_same, List.length_append]
    rfl
  · show upd (st.2 0) ((hd + xs.length) % 4096) i ((hd + k) % 4096) = t
    by_cases hl : k < xs.length
    · rw [List.getElem?_append_left hl] at hk
      rw [upd_other (by omega)]
      exact q5 k t hk
    · rw [List.getElem?_append_right (by omega)] at hk
      have : k - xs.length < 1 := (List.getElem?_eq_some_iff.mp hk).1
      have e : k = xs.length := by omega
      subst e
      simp at hk
      rw [upd_same]
      exact hk
  · show upd st.1 3 (nI (xs.length + 1)) k = _
    rw [upd_other hk]
  · show (if j = 0 then _ else st.2 j) = _
    rw [if_neg hj]
theorem g_macro_at {st : rS} {i : Int32} : g_macro i st = some (mAt ((List.range 200).map (st.2 8)) i) := by
  unfold g_macro
  rw [g_in_at, Option.bind_some]
  have e : nI 200 - 1 = 199 := by decide
  rcases in_cases (i := i) (n := 200) (by decide) with ⟨⟨k, hk, rfl⟩, hq⟩ | ⟨hk, hq⟩
  · rw [e] at hq
    have ht : ((List.range 200).map (st.2 8))[k]? = some (st.2 8 k) := by rw [List.getElem?_map, List.getElem?_range hk]; rfl
    rw [if_neg (by simp [hq, b01]), rget_at hk (by decide), mAt_in ht (by omega)]
    rfl
  · rw [e] at hq
    rw [if_pos (by simp only [hq, decide_false]; rfl), mAt_out (by simpa using hk)]
