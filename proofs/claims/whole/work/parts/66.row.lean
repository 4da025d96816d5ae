/-! ROW 0 OF A MACRO -/
def mRow (out : Int32 → Bool) : List Int32 → List Int32 → Int32 ⊕ List Int32
  | [], ys => .inr ys
  | _ :: _, [] => .inl 1
  | r :: rs, t :: ts => if out t then .inl 2 else if t = r then mRow out rs ts else .inl 3
theorem g_row0 {n : Nat} {st : rS} {xs row : List Int32} {x1 x2 x4 : Int32} {m p : Nat} (hV : RV st xs) (hm : rMk st) (hmm : m < 100) (hRR : RR st (10 * m) row) (h0 : st.1 21 = 0) (hp : p ≤ xs.length) (hn : 300 < n) :
    ∃ b s, gloopW (g_expandName_b46 n x1 x2 (nI m) x4) n (nI p, 0) st = some (b, s) ∧ rRd st s ∧ s.2 = st.2 ∧ match mRow (rOut st) row (xs.drop p) with
      | .inl c => s.1 21 = c ∧ c ≠ 0
      | .inr zs => s = st ∧ ∃ q, q ≤ xs.length ∧ b = nI q ∧ xs.drop q = zs := by
  have hle := hV.le
  have hl := hRR.2.1
  have hr6 : ∀ s : rS, s.2 = st.2 → rget s 6 1000 ((10 : Int32) * nI m) = some (nI row.length) := by
    intro s hs
    rw [show (10 : Int32) = nI 10 from rfl, pk_mul, rget_at (by omega) (by decide), hs, hRR.1]
  refine gloopW_rule (body := g_expandName_b46 n x1 x2 (nI m) x4) (fun k x s => ∃ i q, x = (nI q, nI i) ∧ ((k = row.length + 1 - i ∧ i ≤ row.length ∧ q ≤ xs.length ∧ s = st ∧ mRow (rOut st) row (xs.drop p) = mRow (rOut st) (row.drop i) (xs.drop q)) ∨ (k = 0 ∧ rRd st s ∧ s.2 = st.2 ∧ s.1 21 ≠ 0 ∧ mRow (rOut st) row (xs.drop p) = .inl (s.1 21)))) _ ?_ n (row.length + 1) (nI p, nI 0) st (by omega) ⟨0, p, rfl, Or.inl ⟨rfl, by omega, hp, rfl, rfl⟩⟩
  rintro k x s ⟨i, q, rfl, ⟨rfl, hi, hq, rfl, hmi⟩ | ⟨rfl, hR, hs2, wn, hmi⟩⟩
  · by_cases he : i = row.length
    · refine Or.inr ⟨nI q, s, ?_, rRd.rf s, rfl, ?_⟩
      · unfold g_expandName_b46
        dsimp only
        rw [hr6 s rfl, Option.bind_some, if_pos (nI_le (by omega) (by omega))]
      · rw [hmi, he, List.drop_length]
        exact ⟨rfl, q, hq, rfl, rfl⟩
    · obtain ⟨r, hr⟩ : ∃ r, row[i]? = some r := ⟨row[i]'(by omega), List.getElem?_eq_getElem (by omega)⟩
      have hrd : row.drop i = r :: row.drop (i + 1) := by
        rw [List.drop_eq_getElem_cons (by omega)]
        congr 1
        exact Option.some.inj ((List.getElem?_eq_getElem (by omega)).symm.trans hr)
      have hT := rThere (lng := true) hV hm q hq
      have hone : (b01 true) = 1 := rfl
      rw [hone] at hT
      rw [hrd] at hmi
      have hbd : ∀ (v : Int32) (u : rS), g_isThere (nI q) 1 s = some (v, u) → g_expandName_b46 n x1 x2 (nI m) x4 (nI q, nI i) s = if v = 0 then some (.inl (nI (q + 1), nI (i + 1)), u) else (g_get (nI q) u).bind fun v80 => (rget u 7 200000 (((2000 : Int32) * nI m) + nI i)).bind fun v95 => if v80 = v95 then some (.inl (nI (q + 1), nI (i + 1)), u) else gbW (g_mark 3 u) fun _ h101 => some (.inl (nI (q + 1), nI (i + 1)), h101) := by
        intro v u hvu
        unfold g_expandName_b46 g_expandName_j104
        dsimp only
        rw [hr6 s rfl, Option.bind_some, if_neg (nI_ge (by omega) (by omega)), if_pos h0, hvu, nI_1, nI_1]
        rfl
      cases hdd : xs.drop q with
      | nil =>
        rw [hdd] at hT hmi
        refine Or.inl ⟨(nI (q + 1), nI (i + 1)), 0, rMarked 1 s, ?_, by omega, i + 1, q + 1, rfl, Or.inr ⟨rfl, rRd.mark s 1, rfl, by rw [rMarked_0 h0]; decide, ?_⟩⟩
        · rw [hbd _ _ hT, if_pos rfl]
        · rw [hmi, rMarked_0 h0]
          rfl
      | cons t ts =>
        obtain ⟨hlt, ht, hts⟩ := drop_cons hdd
        rw [hdd] at hT hmi
        have hfb : mForb (rOut s) true t = rOut s t := by simp [mForb]
        simp only [mRow] at hmi
        by_cases hf : rOut s t = true
        · have hT1 : g_isThere (nI q) 1 s = some (0, rMarked 2 s) := by simpa [hfb, hf] using hT
          refine Or.inl ⟨(nI (q + 1), nI (i + 1)), 0, rMarked 2 s, ?_, by omega, i + 1, q + 1, rfl, Or.inr ⟨rfl, rRd.mark s 2, rfl, by rw [rMarked_0 h0]; decide, ?_⟩⟩
          · rw [hbd _ _ hT1, if_pos rfl]
          · rw [hmi, rMarked_0 h0, if_pos hf]
        · have hT1 : g_isThere (nI q) 1 s = some (1, s) := by simpa [hfb, hf] using hT
          rw [if_neg hf] at hmi
          have hb := hbd _ _ hT1
          rw [if_neg (by decide), hV.get ht, Option.bind_some, show (2000 : Int32) = nI 2000 from rfl, pk_mul, nI_add, rget_at (by omega) (by decide), Option.bind_some, show 2000 * m + i = 200 * (10 * m) + i by omega, hRR.2.2 i r hr] at hb
          by_cases htr : t = r
          · rw [if_pos htr] at hb hmi
            exact Or.inl ⟨_, row.length + 1 - (i + 1), s, hb, by omega, i + 1, q + 1, rfl, Or.inl ⟨rfl, by omega, by omega, rfl, by rw [hmi, hts]⟩⟩
          · rw [if_neg htr] at hb hmi
            refine Or.inl ⟨(nI (q + 1), nI (i + 1)), 0, rMarked 3 s, ?_, by omega, i + 1, q + 1, rfl, Or.inr ⟨rfl, rRd.mark s 3, rfl, by rw [rMarked_0 h0]; decide, by rw [hmi, rMarked_0 h0]⟩⟩
            rw [hb, g_mark_at]
            rfl
  · refine Or.inr ⟨nI q, s, ?_, hR, hs2, by rw [hmi]; exact ⟨rfl, wn⟩⟩
    unfold g_expandName_b46
    dsimp only
    rw [hr6 s hs2, Option.bind_some, if_neg wn]
    split <;> rfl
