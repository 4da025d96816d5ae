/-! WHAT COMES FOR A NAME, AND HOW MANY TOKENS ARE PUT ASIDE -/
def rAf (f : Nat → Int32) : Nat → Nat
  | 0 => 0
  | k + 1 => rAf f k + (if f k = 261 then 1 else 0)
theorem rAf_le (f : Nat → Int32) : ∀ k, rAf f k ≤ k
  | 0 => Nat.le_refl _
  | k + 1 => by
    have := rAf_le f k
    unfold rAf
    split <;> omega
theorem g_passed_at {n : Nat} {st : rS} {dp : Nat} (h : st.1 28 = nI dp) (hd : dp ≤ 51) (hn : 100 < n) : g_passed n st = some (nI (rAf (st.2 16) dp)) := by
  obtain ⟨b, e1, rfl⟩ := gloopR_rule (body := g_passed_b4 n st) (fun k x => ∃ i, k = dp - i ∧ i ≤ dp ∧ x = (nI (rAf (st.2 16) i), nI i)) (fun b => b = nI (rAf (st.2 16) dp))
    (by
      rintro k x ⟨i, rfl, hi, rfl⟩
      by_cases he : i = dp
      · subst he
        refine Or.inr ⟨_, ?_, rfl⟩
        unfold g_passed_b4
        dsimp only
        rw [h, if_pos (nI_le (Nat.le_refl _) (by omega))]
      · refine Or.inl ⟨(nI (rAf (st.2 16) (i + 1)), nI (i + 1)), dp - (i + 1), ?_, by omega, i + 1, rfl, by omega, rfl⟩
        unfold g_passed_b4 g_passed_j30
        dsimp only
        rw [h, if_neg (nI_ge (by omega) (by omega)), rget_at (by omega) (by decide), Option.bind_some]
        show (if st.2 16 i = 261 then _ else _) = some (Sum.inl (nI (rAf (st.2 16) i + (if st.2 16 i = 261 then 1 else 0)), _))
        by_cases h6 : st.2 16 i = 261
        · rw [if_pos h6, if_pos h6, nI_1, nI_1]
        · rw [if_neg h6, if_neg h6, Int32.add_zero, nI_1]
          rfl) n dp (0, 0) (by omega) ⟨0, rfl, by omega, rfl⟩
  unfold g_passed
  rw [e1]
  rfl
/-- which argument a parameter of level 0 stands for, 0 for others -/
def tArg (t : Int32) : Nat := if 311 ≤ t ∧ t ≤ 319 then (t - 310).toNatClampNeg else 0
theorem tArg_of {t : Int32} (h : 311 ≤ t ∧ t ≤ 319) : ∃ a, 1 ≤ a ∧ a ≤ 9 ∧ tArg t = a ∧ t - 310 = nI a := by
  obtain ⟨h1, h2⟩ := id h
  rw [Int32.le_iff_toInt_le] at h1 h2
  rw [show (311 : Int32).toInt = 311 by decide] at h1
  rw [show (319 : Int32).toInt = 319 by decide] at h2
  have e1 : (310 : Int32).toInt = 310 := by decide
  have e3 : (t - 310).toInt = t.toInt - 310 := by rw [Jvm.Kit.i32_sub (by rw [e1]; omega) (by rw [e1]; omega), e1]
  obtain ⟨j, hj, he⟩ := nI_of (x := t - 310) (by rw [Int32.lt_iff_toInt_lt, Int32.toInt_zero, e3]; omega)
  have e4 : (j : Int) = t.toInt - 310 := by rw [← e3, he, nI_toInt hj]
  refine ⟨j, by omega, by omega, ?_, he⟩
  unfold tArg
  rw [if_pos h, he, nI_clamp hj]
/-- what comes for a token of a body -/
def mPut (k : Nat) (args : Nat → List Int32) (t : Int32) : List Int32 := if tArg t = 0 then [if tPar t then t - 10 else t] else if tArg t ≤ k then args (tArg t) else []
/-- a body of the reference -/
def RB (st : rS) (m : Nat) (bs : List Int32) : Prop := st.2 4 m = nI bs.length ∧ bs.length ≤ 200 ∧ ∀ (i : Nat) (t : Int32), bs[i]? = some t → st.2 5 (200 * m + i) = t
theorem mPut_le {k : Nat} {args : Nat → List Int32} (hk : k ≤ 9) (hA : ∀ a, 1 ≤ a → a ≤ k → (args a).length ≤ 400) (t : Int32) : (mPut k args t).length ≤ 400 := by
  unfold mPut
  split
  · simp
  · split
    · rename_i h1 h2
      exact hA _ (by omega) h2
    · simp
theorem flat_le {k : Nat} {args : Nat → List Int32} (hk : k ≤ 9) (hA : ∀ a, 1 ≤ a → a ≤ k → (args a).length ≤ 400) : ∀ bs : List Int32, (bs.flatMap (mPut k args)).length ≤ 400 * bs.length
  | [] => by simp
  | t :: bs => by
    have h1 := flat_le hk hA bs
    have h2 := mPut_le hk hA t
    simp only [List.flatMap_cons, List.length_append, List.length_cons]
    omega
theorem g_comes_at {n : Nat} {st : rS} {m k : Nat} {bs : List Int32} {args : Nat → List Int32} (hB : RB st m bs) (hm : m < 100) (hk : k ≤ 9) (h2 : st.2 2 m = nI k) (hA : ∀ a, 1 ≤ a → a ≤ k → RA st a (args a)) (hn : 300 < n) : g_comes n (nI m) st = some (nI (bs.flatMap (mPut k args)).length) := by
  have hl := hB.2.1
  have hle := flat_le (args := args) hk (fun a h1 h2 => (hA a h1 h2).2.1)
  obtain ⟨b, e1, rfl⟩ := gloopR_rule (body := g_comes_b4 n (nI m) st) (fun j x => ∃ i, j = bs.length - i ∧ i ≤ bs.length ∧ x = (nI ((bs.take i).flatMap (mPut k args)).length, nI i)) (fun b => b = nI (bs.flatMap (mPut k args)).length)
    (by
      rintro j x ⟨i, rfl, hi, rfl⟩
      by_cases he : i = bs.length
      · refine Or.inr ⟨nI ((bs.take i).flatMap (mPut k args)).length, ?_, by rw [he, List.take_length]⟩
        unfold g_comes_b4
        dsimp only
        rw [rget_at hm (by decide), hB.1, Option.bind_some, if_pos (nI_le (by omega) (by omega))]
      · obtain ⟨t, ht⟩ : ∃ t, bs[i]? = some t := ⟨bs[i]'(by omega), List.getElem?_eq_getElem (by omega)⟩
        have htk : bs.take (i + 1) = bs.take i ++ [t] := by rw [List.take_succ, ht]; rfl
        refine Or.inl ⟨(nI ((bs.take (i + 1)).flatMap (mPut k args)).length, nI (i + 1)), bs.length - (i + 1), ?_, by omega, i + 1, rfl, by omega, rfl⟩
        rw [htk, List.flatMap_append, List.length_append, show ([t].flatMap (mPut k args)) = mPut k args t by simp]
        unfold g_comes_b4 g_comes_j81
        dsimp only
        rw [rget_at hm (by decide), hB.1, Option.bind_some, if_neg (nI_ge (by omega) (by omega)), show (200 : Int32) = nI 200 from rfl, pk_mul, nI_add, rget_at (by omega) (by decide), Option.bind_some, hB.2.2 i t ht, g_in_at, Option.bind_some, nI_1 i]
        by_cases hp : 311 ≤ t ∧ t ≤ 319
        · obtain ⟨a, a1, a2, a3, a4⟩ := tArg_of hp
          rw [if_neg (by simp [hp, b01]), rget_at hm (by decide), Option.bind_some, h2, a4]
          by_cases hak : a ≤ k
          · have hmp : mPut k args t = args a := by unfold mPut; rw [if_neg (by omega), if_pos (by omega), a3]
            rw [if_neg (nI_nlt hak (by omega)), rget_at (by omega) (by decide), Option.bind_some, (hA a a1 hak).1, nI_add, hmp]
          · have hmp : mPut k args t = [] := by unfold mPut; rw [if_neg (by omega), if_neg (by omega)]
            rw [if_pos (nI_lt (by omega) (by omega)), hmp, Int32.add_zero]
            rfl
        · rw [if_pos (by simp [hp, b01])]
          have h0 : tArg t = 0 := by unfold tArg; rw [if_neg hp]
          have hmp : mPut k args t = [if tPar t then t - 10 else t] := by unfold mPut; rw [if_pos h0]
          rw [hmp, nI_1]
          rfl) n bs.length (0, 0) (by omega) ⟨0, rfl, by omega, rfl⟩
  unfold g_comes
  rw [e1]
  rfl
