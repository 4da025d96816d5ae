/-! ALL ARGUMENTS OF A NAME -/
theorem mIn_ne {fb : Int32 → Bool} : ∀ (ys : List Int32) (d : Nat) (acc : List Int32) (c : Int32), mIn fb ys d acc = .inl c → c ≠ 0
  | [], d, acc, c, h => by
    cases h
    decide
  | t :: ts, d, acc, c, h => by
    rw [mIn_cons] at h
    split at h
    · cases h; decide
    · split at h
      · cases h
      · split at h
        · cases h; decide
        · exact mIn_ne ts _ _ c h
theorem mPlain_ne {fb : Int32 → Bool} : ∀ (ys : List Int32) (c : Int32), mPlain fb ys = .inl c → c ≠ 0
  | [], c, h => by
    cases h
    decide
  | t :: ts, c, h => by
    unfold mPlain at h
    split at h
    · exact mPlain_ne ts c h
    · split at h
      · cases h; decide
      · split at h
        · cases h; decide
        · split at h
          · exact mIn_ne ts _ _ c h
          · cases h
theorem mDelim_ne {fb : Int32 → Bool} {row : List Int32} : ∀ (ys : List Int32) (d : Nat) (acc : List Int32) (c : Int32), mDelim fb row ys d acc = .inl c → c ≠ 0
  | [], d, acc, c, h => by
    unfold mDelim at h
    split at h
    · cases h
    · cases h; decide
  | t :: ts, d, acc, c, h => by
    rw [mDelim_cons] at h
    split at h
    · cases h
    · split at h
      · cases h; decide
      · split at h
        · cases h; decide
        · split at h
          · cases h; decide
          · exact mDelim_ne ts _ _ c h
/-- one argument: up to row, or the next token where row is empty -/
def mArg (fb : Int32 → Bool) (row ys : List Int32) : Int32 ⊕ (List Int32 × List Int32) := if row.length = 0 then mPlain fb ys else mDelimS fb row ys
theorem mArg_ne {fb : Int32 → Bool} {row ys : List Int32} {c : Int32} (h : mArg fb row ys = .inl c) : c ≠ 0 := by
  unfold mArg at h
  split at h
  · exact mPlain_ne ys c h
  · unfold mDelimS at h
    cases hd : mDelim fb row ys 0 [] with
    | inl c' =>
      rw [hd] at h
      cases h
      exact mDelim_ne ys 0 [] c hd
    | inr q =>
      rw [hd] at h
      cases h
def mArgs (fb : Int32 → Bool) (rows : Nat → List Int32) : Nat → Nat → List Int32 → (Nat → List Int32) → Int32 ⊕ ((Nat → List Int32) × List Int32)
  | 0, _, ys, as => .inr (as, ys)
  | c + 1, a, ys, as => match mArg fb (rows a) ys with
    | .inl f => .inl f
    | .inr q => mArgs fb rows c (a + 1) q.2 (fun b => if b = a then q.1 else as b)
def sumL (as : Nat → List Int32) : Nat → Nat
  | 0 => 0
  | j + 1 => sumL as j + (as (j + 1)).length
theorem sumL_congr {as bs : Nat → List Int32} : ∀ j, (∀ b, b ≤ j → as b = bs b) → sumL as j = sumL bs j
  | 0, _ => rfl
  | j + 1, h => by
    unfold sumL
    rw [sumL_congr j (fun b hb => h b (by omega)), h (j + 1) (Nat.le_refl _)]
theorem RA.clear {s : rS} {a : Nat} (ha : a < 10) : ∃ s' : rS, rset s 12 10 (nI a) 0 = some s' ∧ RA s' a [] ∧ rRd s s' ∧ s'.1 = s.1 ∧ ∀ c bs, c ≠ a → RA s c bs → RA s' c bs := by
  refine ⟨_, rset_at ha (by decide), ⟨?_, by decide, fun i t h => by simp at h⟩, rRd.give rfl (fun j h1 h2 => ?_), rfl, fun c bs hc h => ⟨?_, h.2.1, fun i t hi => ?_⟩⟩
  · show upd (s.2 12) a 0 a = _
    rw [upd_same]
    rfl
  · show (if j = 12 then _ else s.2 j) = _
    rw [if_neg h1]
  · show upd (s.2 12) a 0 c = _
    rw [upd_other hc]
    exact h.1
  · exact h.2.2 i t hi
theorem g_args {n : Nat} {st : rS} {xs : List Int32} {rows : Nat → List Int32} {as0 : Nat → List Int32} {x1 x2 : Int32} {lng : Bool} {m k p : Nat} (hV : RV st xs) (hm : rMk st) (hmm : m < 100) (hk : k ≤ 9) (h2 : st.2 2 m = nI k) (hRR : ∀ a, 1 ≤ a → a ≤ k → RR st (10 * m + a) (rows a)) (h0 : st.1 21 = 0) (hp : p ≤ xs.length) (hn : 7000 < n) :
    ∃ b s, gloopW (g_expandName_b119 n x1 x2 (nI m) (b01 lng)) n (nI p, 0, 1) st = some (b, s) ∧ rRd st s ∧ match mArgs (mForb (rOut st) lng) rows k 1 (xs.drop p) as0 with
      | .inl c => s.1 21 = c ∧ c ≠ 0
      | .inr q => s.1 21 = 0 ∧ (∀ a, 1 ≤ a → a ≤ k → RA s a (q.1 a)) ∧ ∃ j, j ≤ xs.length ∧ b = (nI j, nI (sumL q.1 k)) ∧ xs.drop j = q.2 := by
  have hle := hV.le
  refine gloopW_rule (body := g_expandName_b119 n x1 x2 (nI m) (b01 lng)) (fun e x s => rRd st s ∧ ((∃ q a y as, x = (nI q, y, nI a) ∧ e = k + 2 - a ∧ 1 ≤ a ∧ a ≤ k + 1 ∧ q ≤ xs.length ∧ s.1 21 = 0 ∧ y = nI (sumL as (a - 1)) ∧ (∀ b, 1 ≤ b → b < a → RA s b (as b)) ∧ mArgs (mForb (rOut st) lng) rows k 1 (xs.drop p) as0 = mArgs (mForb (rOut st) lng) rows (k + 1 - a) a (xs.drop q) as) ∨ (e = 0 ∧ s.1 21 ≠ 0 ∧ mArgs (mForb (rOut st) lng) rows k 1 (xs.drop p) as0 = .inl (s.1 21)))) _ ?_ n (k + 1) (nI p, 0, nI 1) st (by omega) ⟨rRd.rf st, Or.inl ⟨p, 1, 0, as0, rfl, by omega, by omega, by omega, hp, h0, rfl, fun b h1 h2 => absurd h2 (by omega), by simp⟩⟩
  rintro e x s ⟨hR, ⟨q, a, y, as, rfl, rfl, ha1, hak, hq, w0, rfl, hAs, hmi⟩ | ⟨rfl, wn, hmi⟩⟩
  · have hk2 : rget s 2 100 (nI m) = some (nI k) := by rw [rget_at hmm (by decide), hR.2 2 (by decide) (by decide), h2]
    by_cases he : a = k + 1
    · subst he
      refine Or.inr ⟨(nI q, nI (sumL as k)), s, ?_, hR, ?_⟩
      · unfold g_expandName_b119
        dsimp only
        rw [hk2, Option.bind_some, if_pos (nI_lt (by omega) (by omega))]
        rfl
      · rw [hmi, show k + 1 - (k + 1) = 0 by omega]
        exact ⟨w0, fun b h1 h2 => hAs b h1 (by omega), q, hq, rfl, rfl⟩
    · obtain ⟨s1, c1, c2, c3, c4, c5⟩ := RA.clear (s := s) (a := a) (by omega)
      have hR1 := hR.tr c3
      have hV1 := hR1.RV hV
      have hm1 := hR1.mk hm
      have hRa : RR s1 (10 * m + a) (rows a) := ⟨by rw [hR1.2 6 (by decide) (by decide)]; exact (hRR a ha1 (by omega)).1, (hRR a ha1 (by omega)).2.1, fun i t hi => by rw [hR1.2 7 (by decide) (by decide)]; exact (hRR a ha1 (by omega)).2.2 i t hi⟩
      have w1 : s1.1 21 = 0 := by rw [c4]; exact w0
      have hfo : mForb (rOut s1) lng = mForb (rOut st) lng := by funext t; unfold mForb; rw [hR1.out]
      have hrl := hRa.2.1
      rw [show k + 1 - a = (k + 1 - (a + 1)) + 1 by omega] at hmi
      have hone : ∃ b s', g_expandName_b119 n x1 x2 (nI m) (b01 lng) (nI q, nI (sumL as (a - 1)), nI a) s = g_expandName_j190 n x1 x2 (nI m) (b01 lng) (nI (sumL as (a - 1))) (nI a) b s' ∧ rArg s1 s' a xs b (mArg (mForb (rOut st) lng) (rows a) (xs.drop q)) := by
        unfold g_expandName_b119
        dsimp only
        rw [hk2, Option.bind_some, if_neg (nI_nlt (by omega) (by omega)), if_pos w0, c1, Option.bind_some, show (10 : Int32) = nI 10 from rfl, pk_mul, nI_add, rget_at (by omega) (by decide), hRa.1, Option.bind_some]
        unfold mArg
        by_cases hz : (rows a).length = 0
        · obtain ⟨b, s', g1, g2⟩ := g_plain_at (n := n) (lng := lng) hV1 hm1 (show a < 10 by omega) c2 w1 hq (by omega)
          rw [if_pos (by rw [hz]; rfl), if_pos hz, g1]
          rw [hfo] at g2
          exact ⟨b, s', rfl, g2⟩
        · obtain ⟨b, s', g1, g2⟩ := g_delimited_at (n := n) (lng := lng) hV1 hm1 (show a < 10 by omega) (show 10 * m + a < 1000 by omega) hRa c2 w1 hq (by omega)
          rw [if_neg (nI_ne0 (by omega) (by omega)), if_neg hz, g1]
          rw [hfo] at g2
          exact ⟨b, s', rfl, g2⟩
      obtain ⟨b, s', hb, r1, r2, r3⟩ := hone
      unfold g_expandName_j190 at hb
      cases hma : mArg (mForb (rOut st) lng) (rows a) (xs.drop q) with
      | inl c =>
        rw [hma] at r3
        have r3 : s'.1 21 = c := r3
        have hmi2 : mArgs (mForb (rOut st) lng) rows k 1 (xs.drop p) as0 = .inl c := by
          rw [hmi]
          unfold mArgs
          rw [hma]
        rw [rget_at (by omega) (by decide), Option.bind_some] at hb
        exact Or.inl ⟨_, 0, s', hb, by omega, hR1.tr r1, Or.inr ⟨rfl, by rw [r3]; exact mArg_ne hma, by rw [r3]; exact hmi2⟩⟩
      | inr z =>
        rw [hma] at r3
        obtain ⟨r4, r5, j, hj, rfl, hdj⟩ := r3
        have hmi2 : mArgs (mForb (rOut st) lng) rows k 1 (xs.drop p) as0 = mArgs (mForb (rOut st) lng) rows (k + 1 - (a + 1)) (a + 1) (xs.drop j) (fun b => if b = a then z.1 else as b) := by
          rw [hmi, hdj]
          conv => lhs; unfold mArgs
          rw [hma]
        rw [rget_at (by omega) (by decide), Option.bind_some, r5.1, nI_add, nI_1] at hb
        refine Or.inl ⟨_, k + 2 - (a + 1), s', hb, by omega, hR1.tr r1, Or.inl ⟨j, a + 1, _, (fun b => if b = a then z.1 else as b), rfl, rfl, by omega, by omega, hj, r4, ?_, fun b h1 h2 => ?_, hmi2⟩⟩
        · obtain ⟨a', rfl⟩ : ∃ a', a = a' + 1 := ⟨a - 1, by omega⟩
          show nI (sumL as (a' + 1 - 1) + z.1.length) = nI (sumL _ (a' + 1))
          show nI (sumL as a' + z.1.length) = nI (sumL (fun b => if b = a' + 1 then z.1 else as b) a' + (if a' + 1 = a' + 1 then z.1 else as (a' + 1)).length)
          rw [sumL_congr (as := fun b => if b = a' + 1 then z.1 else as b) (bs := as) a' (fun b hb => if_neg (by omega)), if_pos rfl]
        · by_cases hba : b = a
          · subst hba
            show RA s' b (if b = b then z.1 else as b)
            rw [if_pos rfl]
            exact r5
          · show RA s' b (if b = a then z.1 else as b)
            rw [if_neg hba]
            exact r2 b (as b) hba (c5 b (as b) hba (hAs b h1 (by omega)))
  · obtain ⟨x5, x6, x7⟩ := x
    refine Or.inr ⟨(x5, x6), s, ?_, hR, by rw [hmi]; exact ⟨rfl, wn⟩⟩
    unfold g_expandName_b119
    dsimp only
    rw [rget_at hmm (by decide), Option.bind_some, if_neg wn]
    split <;> rfl
