/-! WHAT THE REFERENCE SEES IN A TOKEN -/
def tName (t : Int32) : Bool := decide (1000 ≤ t ∧ t ≤ 1199)
def tPar (t : Int32) : Bool := decide (311 ≤ t ∧ t ≤ 399) && !(decide (t - t / 10 * 10 = 0))
def tTok (t : Int32) : Bool := decide (0 ≤ t ∧ t ≤ 258) || decide (260 ≤ t ∧ t ≤ 269) || tPar t || tName t
def b01 (b : Bool) : Int32 := if b then 1 else 0
theorem b01_0 {b : Bool} : b01 b = 0 ↔ b = false := by cases b <;> decide
theorem b01_or {b : Bool} : b01 b = 0 ∨ b01 b = 1 := by cases b <;> decide
theorem g_in_at {a b c : Int32} {st : rS} : g_in a b c st = some (b01 (decide (b ≤ a ∧ a ≤ c))) := by
  unfold g_in
  by_cases h1 : a < b
  · rw [if_pos h1]
    have : ¬ (b ≤ a ∧ a ≤ c) := fun q => Int32.not_le.mpr h1 q.1
    simp [this, b01]
  · rw [if_neg h1]
    by_cases h2 : c < a
    · rw [if_pos h2]
      have : ¬ (b ≤ a ∧ a ≤ c) := fun q => Int32.not_le.mpr h2 q.2
      simp [this, b01]
    · rw [if_neg h2]
      have : b ≤ a ∧ a ≤ c := ⟨Int32.not_lt.mp h1, Int32.not_lt.mp h2⟩
      simp [this, b01]
theorem g_isName_at {t : Int32} {st : rS} : g_isName t st = some (b01 (tName t)) := by
  unfold g_isName
  rw [g_in_at]
  show (if b01 (tName t) = 0 ∨ b01 (tName t) = 1 then _ else _) = _
  rw [if_pos b01_or]
  rfl
theorem g_isParameter_at {t : Int32} {st : rS} : g_isParameter t st = some (b01 (tPar t)) := by
  unfold g_isParameter
  rw [g_in_at]
  show (if b01 (decide (311 ≤ t ∧ t ≤ 399)) = 0 then _ else _) = _
  by_cases h : 311 ≤ t ∧ t ≤ 399
  · rw [if_neg (by simp [h, b01]), if_neg (by decide)]
    by_cases h2 : t - t / 10 * 10 = 0
    · rw [if_pos h2]
      simp [tPar, h2, b01]
    · rw [if_neg h2]
      simp [tPar, h, h2, b01]
  · rw [if_pos (by simp [h, b01])]
    simp [tPar, h, b01]
theorem g_isToken_at {t : Int32} {st : rS} : g_isToken t st = some (b01 (tTok t)) := by
  unfold g_isToken tTok
  rw [g_in_at]
  show (if b01 (decide (0 ≤ t ∧ t ≤ 258)) = 0 then _ else _) = _
  by_cases h1 : 0 ≤ t ∧ t ≤ 258
  · simp [h1, b01]
  · rw [if_pos (by simp [h1, b01]), g_in_at]
    show (if b01 (decide (260 ≤ t ∧ t ≤ 269)) = 0 then _ else _) = _
    by_cases h2 : 260 ≤ t ∧ t ≤ 269
    · simp [h2, b01]
    · rw [if_pos (by simp [h2, b01]), g_isParameter_at]
      show (if b01 (tPar t) = 0 then _ else _) = _
      cases h3 : tPar t
      · rw [if_pos (by decide), g_isName_at]
        show (if b01 (tName t) = 0 then _ else _) = _
        cases h4 : tName t
        · simp [h1, h2, b01]
        · simp [b01]
      · simp [b01]
theorem tName_ix {t : Int32} (h : tName t = true) : hIn (t - 1000) 200 = true ∧ (t - 1000).toNatClampNeg < 200 := by
  simp only [tName, decide_eq_true_eq] at h
  obtain ⟨h1, h2⟩ := h
  rw [Int32.le_iff_toInt_le] at h1 h2
  have e1 : (1000 : Int32).toInt = 1000 := by decide
  have e2 : (1199 : Int32).toInt = 1199 := by decide
  rw [e1] at h1
  rw [e2] at h2
  have e3 : (t - 1000).toInt = t.toInt - 1000 := by
    rw [Jvm.Kit.i32_sub (by rw [e1]; omega) (by rw [e1]; omega), e1]
  obtain ⟨j, hj, he⟩ := nI_of (x := t - 1000) (by rw [Int32.lt_iff_toInt_lt, Int32.toInt_zero, e3]; omega)
  rw [he] at e3 ⊢
  rw [nI_toInt hj] at e3
  have hlt : j < 200 := by omega
  exact ⟨hIn_nI hlt (by decide), by rw [nI_clamp hj]; exact hlt⟩
def rMac (st : rS) (t : Int32) : Int32 := if tName t then st.2 8 (t - 1000).toNatClampNeg else -1
theorem g_macroAt_at {st : rS} {i t : Int32} (hg : g_get i st = some t) : g_macroAt i st = some (rMac st t) := by
  unfold g_macroAt rMac
  rw [hg]
  show Option.bind (g_isName t st) _ = _
  rw [g_isName_at]
  show (if b01 (tName t) = 0 then _ else _) = _
  cases h : tName t
  · rfl
  · rw [if_neg (by decide)]
    show Option.bind (rget st 8 200 (t - 1000)) _ = _
    unfold rget
    rw [if_pos (tName_ix h).1]
    rfl
theorem g_canBeExpanded_at {st : rS} {i t : Int32} (hg : g_get i st = some t) : g_canBeExpanded i st = some (b01 (decide (0 ≤ rMac st t) || decide (260 ≤ t ∧ t ≤ 262))) := by
  unfold g_canBeExpanded
  rw [g_macroAt_at hg]
  show (if 0 ≤ rMac st t then _ else _) = _
  by_cases h : 0 ≤ rMac st t
  · simp [h, b01]
  · rw [if_neg h, hg]
    show Option.bind (g_in t 260 262 st) _ = _
    rw [g_in_at]
    show (if b01 (decide (260 ≤ t ∧ t ≤ 262)) = 0 then _ else _) = _
    by_cases h2 : 260 ≤ t ∧ t ≤ 262
    · simp [h2, b01]
    · simp [h, h2, b01]
/-- every name's macro is one of the hundred -/
def rMk (st : rS) : Prop := ∀ i, i < 200 → st.2 8 i = -1 ∨ ∃ m : Nat, m < 100 ∧ st.2 8 i = nI m
theorem rMac_of {st : rS} (h : rMk st) (t : Int32) : rMac st t = -1 ∨ ∃ m : Nat, m < 100 ∧ rMac st t = nI m := by
  unfold rMac
  split
  · rename_i ht
    exact h _ (tName_ix ht).2
  · exact Or.inl rfl
def rMarked (c : Int32) (st : rS) : rS := rput st 21 (if st.1 21 = 0 then c else st.1 21)
def rOut (st : rS) (t : Int32) : Bool := decide (0 ≤ rMac st t) && !(decide (st.2 3 (rMac st t).toNatClampNeg &&& 2 = 0))
theorem g_isThere_j36_at {st : rS} {i p t : Int32} (hg : g_get i st = some t) : g_isThere_j36 i p st = if t = 10 ∧ p = 0 then some (0, rMarked 2 st) else some (1, st) := by
  unfold g_isThere_j36 g_isThere_j50
  rw [hg]
  show (if t = 10 then _ else _) = _
  by_cases h1 : t = 10
  · rw [if_pos h1]
    by_cases h2 : p = 0
    · rw [if_pos h2, if_pos ⟨h1, h2⟩, g_mark_at]
      rfl
    · rw [if_neg h2, if_neg (fun q => h2 q.2)]
  · rw [if_neg h1, if_neg (fun q => h1 q.1)]
theorem g_isThere_in {st : rS} {i p t : Int32} (hm : rMk st) (hl : i < st.1 3) (hg : g_get i st = some t) : g_isThere i p st = if rOut st t = true ∨ (t = 10 ∧ p = 0) then some (0, rMarked 2 st) else some (1, st) := by
  unfold g_isThere
  dsimp only
  rw [if_pos hl, g_macroAt_at hg]
  show (if rMac st t < 0 then _ else _) = _
  rcases rMac_of hm t with h | ⟨m, hm1, h⟩
  · rw [if_pos (by rw [h]; decide), g_isThere_j36_at hg]
    have : rOut st t = false := by
      unfold rOut
      rw [h, show decide ((0 : Int32) ≤ -1) = false by decide]
      rfl
    simp [this]
  · rw [if_neg (by rw [h]; exact nI_pos (by omega)), h, rget_at hm1 (by decide)]
    show (if st.2 3 m &&& 2 = 0 then _ else _) = _
    have h0 : (0 : Int32) ≤ nI m := nI_pos' (by omega)
    have ho : rOut st t = !(decide (st.2 3 m &&& 2 = 0)) := by
      unfold rOut
      rw [h, nI_clamp (by omega)]
      simp [h0]
    by_cases h3 : st.2 3 m &&& 2 = 0
    · rw [if_pos h3, g_isThere_j36_at hg]
      simp [ho, h3]
    · rw [if_neg h3]
      unfold g_isThere_j50
      rw [g_mark_at]
      simp [ho, h3, gbW, rMarked]
theorem g_isThere_end {st : rS} {i p : Int32} (hl : ¬ i < st.1 3) : g_isThere i p st = some (0, rMarked 1 st) := by
  unfold g_isThere
  dsimp only
  rw [if_neg hl, g_mark_at]
  rfl
