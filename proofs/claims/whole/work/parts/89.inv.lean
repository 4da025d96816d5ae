/-! WHAT THE MACHINE KEEPS, AND WHY IT STOPS -/
theorem mRow_all {P : Int32 → Prop} {out : Int32 → Bool} : ∀ (row ys zs : List Int32), (∀ t ∈ ys, P t) → mRow out row ys = .inr zs → ∀ t ∈ zs, P t
  | [], ys, zs, hy, h => by
    simp only [mRow, Sum.inr.injEq] at h
    rw [← h]
    exact hy
  | _ :: _, [], zs, hy, h => by simp [mRow] at h
  | r :: rs, t :: ts, zs, hy, h => by
    simp only [mRow] at h
    split at h
    · cases h
    · split at h
      · exact mRow_all rs ts zs (fun u hu => hy u (List.mem_cons_of_mem _ hu)) h
      · cases h
theorem all_snoc {P : Int32 → Prop} {acc : List Int32} {t : Int32} (ha : ∀ u ∈ acc, P u) (ht : P t) : ∀ u ∈ acc ++ [t], P u := by
  intro u hu
  rcases List.mem_append.mp hu with h | h
  · exact ha u h
  · rw [List.mem_singleton.mp h]
    exact ht
theorem mIn_all {P : Int32 → Prop} {fb : Int32 → Bool} : ∀ (ys : List Int32) (d : Nat) (acc : List Int32) (q : List Int32 × List Int32), (∀ t ∈ ys, P t) → (∀ t ∈ acc, P t) → mIn fb ys d acc = .inr q → (∀ t ∈ q.1, P t) ∧ ∀ t ∈ q.2, P t
  | [], _, _, q, hy, ha, h => by simp [mIn] at h
  | t :: ts, d, acc, q, hy, ha, h => by
    have hts : ∀ u ∈ ts, P u := fun u hu => hy u (List.mem_cons_of_mem _ hu)
    rw [mIn_cons] at h
    split at h
    · cases h
    · split at h
      · cases h
        exact ⟨ha, hts⟩
      · split at h
        · cases h
        · exact mIn_all ts _ _ q hts (all_snoc ha (hy t (by simp))) h
theorem mPlain_all {P : Int32 → Prop} {fb : Int32 → Bool} : ∀ (ys : List Int32) (q : List Int32 × List Int32), (∀ t ∈ ys, P t) → mPlain fb ys = .inr q → (∀ t ∈ q.1, P t) ∧ ∀ t ∈ q.2, P t
  | [], q, hy, h => by simp [mPlain] at h
  | t :: ts, q, hy, h => by
    have hts : ∀ u ∈ ts, P u := fun u hu => hy u (List.mem_cons_of_mem _ hu)
    simp only [mPlain] at h
    split at h
    · exact mPlain_all ts q hts h
    · split at h
      · cases h
      · split at h
        · cases h
        · split at h
          · exact mIn_all ts _ _ q hts (fun u hu => by simp at hu) h
          · cases h
            refine ⟨fun u hu => ?_, hts⟩
            rw [List.mem_singleton.mp hu]
            exact hy t (by simp)
theorem mDelim_all {P : Int32 → Prop} {fb : Int32 → Bool} {row : List Int32} : ∀ (ys : List Int32) (d : Nat) (acc : List Int32) (q : List Int32 × List Int32), (∀ t ∈ ys, P t) → (∀ t ∈ acc, P t) → mDelim fb row ys d acc = .inr q → (∀ t ∈ q.1, P t) ∧ ∀ t ∈ q.2, P t
  | [], d, acc, q, hy, ha, h => by
    simp only [mDelim] at h
    split at h
    · cases h
      exact ⟨ha, fun u hu => by simp at hu⟩
    · cases h
  | t :: ts, d, acc, q, hy, ha, h => by
    have hts : ∀ u ∈ ts, P u := fun u hu => hy u (List.mem_cons_of_mem _ hu)
    rw [mDelim_cons] at h
    split at h
    · cases h
      exact ⟨ha, fun u hu => hy u (List.mem_of_mem_drop hu)⟩
    · split at h
      · cases h
      · split at h
        · cases h
        · split at h
          · cases h
          · exact mDelim_all ts _ _ q hts (all_snoc ha (hy t (by simp))) h
theorem mStrip_all {P : Int32 → Prop} {acc : List Int32} (ha : ∀ t ∈ acc, P t) : ∀ t ∈ mStrip acc, P t := by
  unfold mStrip
  split
  · exact fun t ht => ha t (List.mem_of_mem_drop (List.mem_of_mem_take ht))
  · exact ha
theorem mArg_all {P : Int32 → Prop} {fb : Int32 → Bool} {row ys : List Int32} {q : List Int32 × List Int32} (hy : ∀ t ∈ ys, P t) (h : mArg fb row ys = .inr q) : (∀ t ∈ q.1, P t) ∧ ∀ t ∈ q.2, P t := by
  unfold mArg at h
  split at h
  · exact mPlain_all ys q hy h
  · unfold mDelimS at h
    cases hd : mDelim fb row ys 0 [] with
    | inl c' =>
      rw [hd] at h
      cases h
    | inr r =>
      rw [hd] at h
      cases h
      have := mDelim_all ys 0 [] r hy (fun u hu => by simp at hu) hd
      exact ⟨mStrip_all this.1, this.2⟩
theorem mArgs_all {P : Int32 → Prop} {fb : Int32 → Bool} {rows : Nat → List Int32} : ∀ (c a : Nat) (ys : List Int32) (as : Nat → List Int32) (q : (Nat → List Int32) × List Int32), (∀ t ∈ ys, P t) → (∀ b, ∀ t ∈ as b, P t) → mArgs fb rows c a ys as = .inr q → (∀ b, ∀ t ∈ q.1 b, P t) ∧ ∀ t ∈ q.2, P t
  | 0, _, ys, as, q, hy, ha, h => by
    simp only [mArgs, Sum.inr.injEq] at h
    rw [← h]
    exact ⟨ha, hy⟩
  | c + 1, a, ys, as, q, hy, ha, h => by
    simp only [mArgs] at h
    cases hd : mArg fb (rows a) ys with
    | inl c' =>
      rw [hd] at h
      cases h
    | inr r =>
      rw [hd] at h
      obtain ⟨h1, h2⟩ := mArg_all hy hd
      refine mArgs_all c (a + 1) r.2 _ q h2 (fun b t ht => ?_) h
      by_cases hb : b = a
      · rw [if_pos hb] at ht
        exact h1 t ht
      · rw [if_neg hb] at ht
        exact ha b t ht
theorem mPut_pos {k : Nat} {args : Nat → List Int32} {t : Int32} (ht : 0 ≤ t) (ha : ∀ b, aPos (args b)) : aPos (mPut k args t) := by
  intro u hu
  unfold mPut at hu
  split at hu
  · rename_i h0
    rw [List.mem_singleton] at hu
    rw [hu]
    cases hp : tPar t with
    | false => simpa using ht
    | true =>
      simp only [tPar, Bool.and_eq_true, decide_eq_true_eq] at hp
      have hlo := hp.1.1
      have h20 : ¬ t ≤ 319 := by
        intro q
        obtain ⟨a, ha1, ha2, ha3, -⟩ := tArg_of ⟨hlo, q⟩
        omega
      obtain ⟨k, hk, rfl⟩ := nI_of (x := t) (Int32.not_lt.mpr ht)
      have hk2 : 319 < k := Nat.lt_of_not_le (fun q => h20 (nI_le (b := 319) q (by decide)))
      simp only [if_true]
      rw [show (10 : Int32) = nI 10 from rfl, pk_sub (by omega)]
      exact nI_pos' (by omega)
  · split at hu
    · exact ha _ u hu
    · simp at hu
theorem mName_pos {out : Int32 → Bool} {lng : Bool} {rows : Nat → List Int32} {k : Nat} {body ts : List Int32} {q : Nat × Nat × List Int32} (hb : aPos body) (ht : aPos ts) (h : mName out lng rows k body ts = .inr q) : aPos q.2.2 ∧ q.2.2.length ≤ 3000 := by
  unfold mName at h
  cases hr : mRow out (rows 0) ts with
  | inl c =>
    rw [hr] at h
    cases h
  | inr ys =>
    rw [hr] at h
    dsimp only at h
    have hy := mRow_all (P := fun t => 0 ≤ t) _ _ _ ht hr
    cases ha : mArgs (mForb out lng) rows k 1 ys (fun _ => []) with
    | inl c =>
      rw [ha] at h
      cases h
    | inr p =>
      rw [ha] at h
      dsimp only at h
      obtain ⟨h1, h2⟩ := mArgs_all (P := fun t => 0 ≤ t) _ _ _ _ _ hy (fun b t ht => by simp at ht) ha
      split at h
      · rename_i hroom
        cases h
        refine ⟨fun u hu => ?_, by rw [List.length_append]; exact hroom⟩
        rcases List.mem_append.mp hu with hu | hu
        · obtain ⟨t, ht1, ht2⟩ := List.mem_flatMap.mp hu
          exact mPut_pos (hb t ht1) h1 u ht2
        · exact h2 u hu
      · cases h
theorem mName_ne {out : Int32 → Bool} {lng : Bool} {rows : Nat → List Int32} {k : Nat} {body ts : List Int32} {c : Int32} (h : mName out lng rows k body ts = .inl c) : c ≠ 0 := by
  unfold mName at h
  cases hr : mRow out (rows 0) ts with
  | inl d =>
    rw [hr] at h
    cases h
    exact mRow_ne _ _ _ hr
  | inr ys =>
    rw [hr] at h
    dsimp only at h
    cases ha : mArgs (mForb out lng) rows k 1 ys (fun _ => []) with
    | inl d =>
      rw [ha] at h
      cases h
      exact mArgs_ne _ _ _ _ _ ha
    | inr p =>
      rw [ha] at h
      dsimp only at h
      split at h
      · cases h
      · cases h
        decide
def sumF (g : Nat → Nat) : Nat → Nat
  | 0 => 0
  | n + 1 => sumF g n + g n
theorem sumF_congr {g k : Nat → Nat} : ∀ n, (∀ i, i < n → g i = k i) → sumF g n = sumF k n
  | 0, _ => rfl
  | n + 1, h => by
    simp only [sumF]
    rw [sumF_congr n (fun i hi => h i (by omega)), h n (by omega)]
def fW (A : aS) (i : Nat) : Nat := if (A.2.1 8)[i]? = some (-1) then 10 - (A.2.1 (200 + i)).length else 10
def fPot (A : aS) : Nat := 11 * ((A.1 0).toNatClampNeg - (A.1 1).toNatClampNeg) + sumF (fW A) (A.2.1 8).length
/-- what stands while tokens are expanded -/
def aInv (A : aS) : Prop := aNm A ∧ aSt A ∧ aPos (A.2.1 0) ∧ (A.2.1 0).length ≤ 3000 ∧ (∀ m, m < (A.2.1 2).length → aPos (aRow A m 10)) ∧ (A.2.1 8).length ≤ 50 ∧ (∀ (i : Nat) (t : Int32), (A.2.1 8)[i]? = some t → (t = -1 ∧ (A.2.1 (200 + i)).length ≤ 8) ∨ 0 ≤ t) ∧ ∃ c, c ≤ 100 ∧ A.1 16 = nI c
