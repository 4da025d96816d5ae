/-! SMALL CALLS OF THE REFERENCE -/
/-- place i of a row, -1 outside -/
def mAt (xs : List Int32) (i : Int32) : Int32 := if i < 0 then -1 else (xs[i.toNatClampNeg]?).getD (-1)
/-- an int within 0 .. n - 1 is a place, or it is outside -/
theorem in_cases {i : Int32} {n : Nat} (hn : n < 2 ^ 30) : ((∃ k, k < n ∧ i = nI k) ∧ (0 ≤ i ∧ i ≤ nI n - 1)) ∨ ((i < 0 ∨ ∃ k, n ≤ k ∧ k < 2 ^ 31 ∧ i = nI k) ∧ ¬ (0 ≤ i ∧ i ≤ nI n - 1)) := by
  by_cases h : i < 0
  · exact Or.inr ⟨Or.inl h, fun q => Int32.not_le.mpr h q.1⟩
  · obtain ⟨k, hk, rfl⟩ := nI_of h
    have h0 : (0 : Int32) ≤ nI k := nI_pos' hk
    have e : (nI n - 1).toInt = (n : Int) - 1 := by
      rw [show (1 : Int32) = nI 1 from rfl, pk_sub_toInt hn (by decide)]
      rfl
    have hle : nI k ≤ nI n - 1 ↔ k < n := by
      rw [Int32.le_iff_toInt_le, nI_toInt hk, e]
      omega
    by_cases hkn : k < n
    · exact Or.inl ⟨⟨k, hkn, rfl⟩, h0, hle.mpr hkn⟩
    · exact Or.inr ⟨Or.inr ⟨k, by omega, hk, rfl⟩, fun q => hkn (hle.mp q.2)⟩
theorem mAt_in {xs : List Int32} {k : Nat} {t : Int32} (h : xs[k]? = some t) (hk : k < 2 ^ 31) : mAt xs (nI k) = t := by
  unfold mAt
  rw [if_neg (nI_pos hk), nI_clamp hk, h]
  rfl
theorem mAt_out {xs : List Int32} {i : Int32} (h : i < 0 ∨ ∃ k, xs.length ≤ k ∧ k < 2 ^ 31 ∧ i = nI k) : mAt xs i = -1 := by
  unfold mAt
  rcases h with h | ⟨k, h1, h2, rfl⟩
  · rw [if_pos h]
  · rw [if_neg (nI_pos h2), nI_clamp h2, List.getElem?_eq_none h1]
    rfl
theorem g_input_at {st : rS} {xs : List Int32} {i : Int32} (hV : RV st xs) : g_input i st = some (mAt xs i) := by
  have hle := hV.le
  unfold g_input
  dsimp only
  rw [hV.size, g_in_at, Option.bind_some]
  rcases in_cases (i := i) (n := xs.length) (by omega) with ⟨⟨k, hk, rfl⟩, hq⟩ | ⟨hk, hq⟩
  · obtain ⟨t, ht⟩ : ∃ t, xs[k]? = some t := ⟨xs[k], List.getElem?_eq_getElem hk⟩
    rw [if_neg (by simp [hq, b01]), hV.get ht, mAt_in ht (by omega)]
    rfl
  · rw [if_pos (by simp only [hq, decide_false]; rfl), mAt_out hk]
/-- the reference's output -/
def RO (st : rS) (os : List Int32) : Prop := st.1 4 = nI os.length ∧ os.length ≤ 3000 ∧ ∀ (i : Nat) (t : Int32), os[i]? = some t → st.2 1 i = t
theorem g_at_at {st : rS} {os : List Int32} {i : Int32} (hO : RO st os) : g_at i st = some (mAt os i) := by
  have hle := hO.2.1
  unfold g_at
  dsimp only
  rw [hO.1, g_in_at, Option.bind_some]
  rcases in_cases (i := i) (n := os.length) (by omega) with ⟨⟨k, hk, rfl⟩, hq⟩ | ⟨hk, hq⟩
  · obtain ⟨t, ht⟩ : ∃ t, os[k]? = some t := ⟨os[k], List.getElem?_eq_getElem hk⟩
    rw [if_neg (by simp [hq, b01]), rget_at (by omega) (by decide), hO.2.2 k t ht, mAt_in ht (by omega)]
    rfl
  · rw [if_pos (by simp only [hq, decide_false]; rfl), mAt_out hk]
