/-! WHAT A TOKEN'S NUMBER SAYS OF IT: the class -/
theorem c_par {t : Int32} {h : hH} : f_Kind_isParameter t h = some (b01 (tPar t)) := by
  unfold f_Kind_isParameter
  by_cases h1 : t ≤ 310
  · have : ¬ (311 ≤ t ∧ t ≤ 399) := by
      rintro ⟨q, -⟩
      rw [Int32.le_iff_toInt_le, show (310 : Int32).toInt = 310 by decide] at h1
      rw [Int32.le_iff_toInt_le, show (311 : Int32).toInt = 311 by decide] at q
      omega
    rw [if_pos h1]
    simp [tPar, this, b01]
  · rw [if_neg h1]
    by_cases h2 : (399 : Int32) < t
    · have : ¬ (311 ≤ t ∧ t ≤ 399) := fun q => Int32.not_le.mpr h2 q.2
      rw [if_pos h2]
      simp [tPar, this, b01]
    · rw [if_neg h2, if_neg (by decide)]
      rw [Int32.le_iff_toInt_le, show (310 : Int32).toInt = 310 by decide] at h1
      rw [Int32.lt_iff_toInt_lt, show (399 : Int32).toInt = 399 by decide] at h2
      obtain ⟨k, hk, rfl⟩ := nI_of (x := t) (by rw [Int32.lt_iff_toInt_lt, Int32.toInt_zero]; omega)
      rw [nI_toInt hk] at h1 h2
      have hin : (311 : Int32) ≤ nI k ∧ nI k ≤ 399 := ⟨nI_le (a := 311) (by omega) (by omega), nI_le (b := 399) (by omega) (by omega)⟩
      have e1 : (nI k - 310) - (nI k - 310) / 10 * 10 = nI (k % 10) := by
        rw [show (310 : Int32) = nI 310 from rfl, show (10 : Int32) = nI 10 from rfl, pk_sub (by omega), pk_rem (by omega) (by omega) (by omega), show (k - 310) % 10 = k % 10 by omega]
      have e2 : nI k - nI k / 10 * 10 = nI (k % 10) := by
        rw [show (10 : Int32) = nI 10 from rfl, pk_rem (by omega) (by omega) (by omega)]
      rw [e1]
      by_cases h3 : nI (k % 10) = 0
      · rw [if_pos h3]
        simp [tPar, e2, h3, b01]
      · rw [if_neg h3]
        simp [tPar, hin, e2, h3, b01]
theorem c_name {t : Int32} {h : hH} : f_Kind_isName t h = some (b01 (tName t)) := by
  unfold f_Kind_isName
  by_cases h1 : t < 1000
  · have : ¬ (1000 ≤ t ∧ t ≤ 1199) := fun q => Int32.not_le.mpr h1 q.1
    rw [if_pos h1]
    simp [tName, this, b01]
  · rw [if_neg h1]
    have h1' : 1000 ≤ t := Int32.not_lt.mp h1
    by_cases h2 : (1200 : Int32) ≤ t
    · have : ¬ (1000 ≤ t ∧ t ≤ 1199) := by
        rintro ⟨-, q⟩
        rw [Int32.le_iff_toInt_le, show (1200 : Int32).toInt = 1200 by decide] at h2
        rw [Int32.le_iff_toInt_le, show (1199 : Int32).toInt = 1199 by decide] at q
        omega
      rw [if_pos h2]
      simp [tName, this, b01]
    · have : t ≤ 1199 := by
        rw [Int32.le_iff_toInt_le, show (1200 : Int32).toInt = 1200 by decide] at h2
        rw [Int32.le_iff_toInt_le, show (1199 : Int32).toInt = 1199 by decide]
        omega
      rw [if_neg h2]
      simp [tName, h1', this, b01]
theorem c_tok {t : Int32} {h : hH} : f_Kind_isToken t h = some (b01 (tTok t)) := by
  have h25 : f_Kind_isToken_j25 t h = some (b01 (tPar t || tName t)) := by
    unfold f_Kind_isToken_j25
    rw [c_par, Option.bind_some]
    cases h3 : tPar t
    · rw [if_pos (by decide), c_name, Option.bind_some]
      cases h4 : tName t <;> rfl
    · rfl
  have h11 : f_Kind_isToken_j11 t h = some (b01 (decide (260 ≤ t ∧ t ≤ 269) || tPar t || tName t)) := by
    unfold f_Kind_isToken_j11
    by_cases h1 : t < 260
    · have : ¬ (260 ≤ t ∧ t ≤ 269) := fun q => Int32.not_le.mpr h1 q.1
      rw [if_pos h1, h25]
      simp [this]
    · rw [if_neg h1]
      by_cases h2 : t ≤ 269
      · have : 260 ≤ t ∧ t ≤ 269 := ⟨Int32.not_lt.mp h1, h2⟩
        rw [if_pos h2]
        simp [this, b01]
      · have : ¬ (260 ≤ t ∧ t ≤ 269) := fun q => h2 q.2
        rw [if_neg h2, h25]
        simp [this]
  unfold f_Kind_isToken tTok
  by_cases h1 : t < 0
  · have : ¬ (0 ≤ t ∧ t ≤ 258) := fun q => Int32.not_le.mpr h1 q.1
    rw [if_pos h1, h11]
    simp [this]
  · rw [if_neg h1]
    by_cases h2 : t ≤ 258
    · have : 0 ≤ t ∧ t ≤ 258 := ⟨Int32.not_lt.mp h1, h2⟩
      rw [if_pos h2]
      simp [this, b01]
    · have : ¬ (0 ≤ t ∧ t ≤ 258) := fun q => h2 q.2
      rw [if_neg h2, h11]
      simp [this]
theorem c_argOf {t : Int32} {h : hH} : f_Kind_argumentOf t h = some (nI (tArg t)) := by
  unfold f_Kind_argumentOf
  by_cases h1 : t ≤ 310
  · have : ¬ (311 ≤ t ∧ t ≤ 319) := by
      rintro ⟨q, -⟩
      rw [Int32.le_iff_toInt_le, show (310 : Int32).toInt = 310 by decide] at h1
      rw [Int32.le_iff_toInt_le, show (311 : Int32).toInt = 311 by decide] at q
      omega
    rw [if_pos h1]
    unfold tArg
    rw [if_neg this]
    rfl
  · rw [if_neg h1]
    by_cases h2 : (320 : Int32) ≤ t
    · have : ¬ (311 ≤ t ∧ t ≤ 319) := by
        rintro ⟨-, q⟩
        rw [Int32.le_iff_toInt_le, show (320 : Int32).toInt = 320 by decide] at h2
        rw [Int32.le_iff_toInt_le, show (319 : Int32).toInt = 319 by decide] at q
        omega
      rw [if_pos h2]
      unfold tArg
      rw [if_neg this]
      rfl
    · have : 311 ≤ t ∧ t ≤ 319 := by
        rw [Int32.le_iff_toInt_le, show (310 : Int32).toInt = 310 by decide] at h1
        rw [Int32.le_iff_toInt_le, show (320 : Int32).toInt = 320 by decide] at h2
        rw [Int32.le_iff_toInt_le, Int32.le_iff_toInt_le, show (311 : Int32).toInt = 311 by decide, show (319 : Int32).toInt = 319 by decide]
        omega
      obtain ⟨a, ha1, ha2, ha3, ha4⟩ := tArg_of this
      rw [if_neg h2, ha3, ha4]
theorem tArg_le (t : Int32) : tArg t ≤ 9 := by
  by_cases h : 311 ≤ t ∧ t ≤ 319
  · obtain ⟨a, ha1, ha2, ha3, ha4⟩ := tArg_of h
    omega
  · unfold tArg
    rw [if_neg h]
    exact Nat.zero_le _
theorem c_nest {t : Int32} {h : hH} : f_Kind_nesting t h = some (mNest t) := by
  unfold f_Kind_nesting mNest
  by_cases h1 : t = 257
  · rw [if_pos h1, if_pos h1]
  · rw [if_neg h1, if_neg h1]
    by_cases h2 : t = 258
    · rw [if_pos h2, if_pos h2]
    · rw [if_neg h2, if_neg h2]
theorem c_mark {t : Int32} {h : hH} : f_Kind_markOf t h = some (mMark t) := by
  unfold f_Kind_markOf mMark
  by_cases h1 : t = 266
  · rw [if_pos h1, if_pos h1]
  · rw [if_neg h1, if_neg h1]
    by_cases h2 : t = 267
    · rw [if_pos h2, if_pos h2]
    · rw [if_neg h2, if_neg h2]
      by_cases h3 : t = 268
      · rw [if_pos h3, if_pos h3]
      · rw [if_neg h3, if_neg h3]
theorem c_sign {t : Int32} {h : hH} : f_Kind_isSign t h = some (b01 (decide (0 ≤ t ∧ t ≤ 255))) := by
  unfold f_Kind_isSign
  by_cases h1 : t < 0
  · have : ¬ (0 ≤ t ∧ t ≤ 255) := fun q => Int32.not_le.mpr h1 q.1
    rw [if_pos h1]
    simp [this, b01]
  · rw [if_neg h1]
    by_cases h2 : (255 : Int32) < t
    · have : ¬ (0 ≤ t ∧ t ≤ 255) := fun q => Int32.not_le.mpr h2 q.2
      rw [if_pos h2]
      simp [this, b01]
    · have : 0 ≤ t ∧ t ≤ 255 := ⟨Int32.not_lt.mp h1, Int32.not_lt.mp h2⟩
      rw [if_neg h2]
      simp [this, b01]
def tDel (t : Int32) : Bool := tTok t && !(decide (t = 257)) && !(decide (t = 258)) && !(tPar t)
theorem c_del {t : Int32} {h : hH} : f_Kind_canDelimit t h = some (b01 (tDel t)) := by
  unfold f_Kind_canDelimit tDel
  rw [c_tok, Option.bind_some]
  cases h1 : tTok t
  · rfl
  · rw [if_neg (by decide)]
    by_cases h2 : t = 257
    · rw [if_pos h2]
      simp [h2, b01]
    · rw [if_neg h2]
      by_cases h3 : t = 258
      · rw [if_pos h3]
        simp [h3, b01]
      · rw [if_neg h3, c_par, Option.bind_some]
        cases h4 : tPar t
        · simp [h2, h3, b01]
        · simp [b01]
/-- a name's index in the table of names -/
theorem tName_of {t : Int32} {j : Nat} (hj : j < 200) (e : t - 1000 = nI j) : tName t = true := by
  have : t = nI (j + 1000) := by
    rw [← Int32.sub_add_cancel t 1000, e, show (1000 : Int32) = nI 1000 from rfl, nI_add]
  subst this
  simp only [tName, decide_eq_true_eq]
  exact ⟨nI_le (a := 1000) (by omega) (by omega), nI_le (b := 1199) (by omega) (by omega)⟩
theorem tName_no {t : Int32} (h : tName t = false) : t - 1000 < 0 ∨ ¬ t - 1000 < 200 := by
  by_cases h0 : t - 1000 < 0
  · exact Or.inl h0
  · refine Or.inr (fun h1 => ?_)
    obtain ⟨j, hj, e⟩ := nI_of h0
    rw [e] at h1
    have hj2 : j < 200 := (nI_ltI (b := 200) hj (by decide)).mp h1
    rw [tName_of hj2 e] at h
    cases h
theorem tName_nI {t : Int32} (h : tName t = true) : ∃ j, j < 200 ∧ t - 1000 = nI j ∧ (t - 1000).toNatClampNeg = j := by
  simp only [tName, decide_eq_true_eq] at h
  obtain ⟨h1, h2⟩ := h
  rw [Int32.le_iff_toInt_le] at h1 h2
  have e1 : (1000 : Int32).toInt = 1000 := by decide
  have e2 : (1199 : Int32).toInt = 1199 := by decide
  rw [e1] at h1
  rw [e2] at h2
  have e3 : (t - 1000).toInt = t.toInt - 1000 := by
    rw [Jvm.Kit.i32_sub (by rw [e1]; omega) (by rw [e1]; omega), e1]
  obtain ⟨j, hj, he⟩ := nI_of (x := t - 1000) (by rw [Int32.lt_iff_toInt_lt, Int32.toInt_zero, e3]; omega)
  have e4 : (j : Int) = t.toInt - 1000 := by rw [← e3, he, nI_toInt hj]
  exact ⟨j, by omega, he, by rw [he, nI_clamp hj]⟩
