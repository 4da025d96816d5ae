/-! AN ARGUMENT UP TO A DELIMITER ROW -/
def mWs (q : Nat × Bool × Bool) (t : Int32) : Nat × Bool × Bool := (mDep t q.1, q.2.1 && (decide (0 < q.1) || (q.2.2 && decide (t = 257))), false)
/-- over a row of tokens: how deep, is it one pair, is it empty -/
def mWD (acc : List Int32) : Nat × Bool × Bool := acc.foldl mWs (0, true, true)
theorem mWD_snoc {acc : List Int32} {t : Int32} : mWD (acc ++ [t]) = mWs (mWD acc) t := by simp [mWD]
theorem mWD_first (acc : List Int32) : (mWD acc).2.2 = decide (acc.length = 0) := by
  rcases List.eq_nil_or_concat acc with rfl | ⟨l, x, rfl⟩
  · rfl
  · rw [List.concat_eq_append, mWD_snoc]
    simp [mWs]
def mDelim (fb : Int32 → Bool) (row : List Int32) : List Int32 → Nat → List Int32 → Int32 ⊕ (List Int32 × List Int32)
  | [], d, acc => if d = 0 ∧ row.isPrefixOf [] = true then .inr (acc, []) else .inl 1
  | t :: ts, d, acc => if d = 0 ∧ row.isPrefixOf (t :: ts) = true then .inr (acc, (t :: ts).drop row.length) else if fb t then .inl 2 else if t = 258 ∧ d = 0 then .inl 7 else if acc.length = 400 then .inl 8 else mDelim fb row ts (mDep t d) (acc ++ [t])
theorem mDelim_cons {fb : Int32 → Bool} {row ts acc : List Int32} {t : Int32} {d : Nat} : mDelim fb row (t :: ts) d acc = if d = 0 ∧ row.isPrefixOf (t :: ts) = true then .inr (acc, (t :: ts).drop row.length) else if fb t then .inl 2 else if t = 258 ∧ d = 0 then .inl 7 else if acc.length = 400 then .inl 8 else mDelim fb row ts (mDep t d) (acc ++ [t]) := rfl
theorem mDelim_end {fb : Int32 → Bool} {row ys acc : List Int32} (h : row.isPrefixOf ys = true) : mDelim fb row ys 0 acc = .inr (acc, ys.drop row.length) := by
  cases ys with
  | nil => unfold mDelim; rw [if_pos ⟨rfl, h⟩]; simp
  | cons t ts => rw [mDelim_cons, if_pos ⟨rfl, h⟩]
theorem mDep_J {t : Int32} {d : Nat} (hd : ¬ (t = 258 ∧ d = 0)) : nI d + (if t = 257 then 1 else if t = 258 then -1 else 0) = nI (mDep t d) := by
  by_cases h : 0 < d
  · exact mDep_I h
  · have e : d = 0 := by omega
    subst e
    have h8 : ¬ t = 258 := fun q => hd ⟨q, rfl⟩
    unfold mDep
    by_cases h1 : t = 257
    · rw [if_pos h1, if_pos h1, nI_1]
    · rw [if_neg h1, if_neg h1, if_neg h8, if_neg h8, Int32.add_zero]
theorem g_delimited_tok {n : Nat} {s : rS} {a r p0 p d : Nat} {w : Bool} {l t : Int32} (hp0 : p0 < 2 ^ 31) (hp : p < 2 ^ 31) (hd : d < 2 ^ 31) (hT : g_isThere (nI p) l s = some (1, s)) (ht : g_get (nI p) s = some t) : g_delimited_j31 n (nI a) (nI r) (nI p0) l (nI p) (nI d) (b01 w) s = if t = 258 ∧ d = 0 then some (.inl (nI (p + 1), nI d, b01 (w && (decide (0 < d) || (decide (p = p0) && decide (t = 257))))), rMarked 7 s) else gbW (g_give (nI a) t s) fun _ h => some (.inl (nI (p + 1), nI (mDep t d), b01 (w && (decide (0 < d) || (decide (p = p0) && decide (t = 257))))), h) := by
  have hj : ∀ y0 : Int32, g_delimited_j79 n (nI a) (nI r) (nI p0) l (nI p) (nI d) t y0 s = if t = 258 ∧ d = 0 then some (.inl (nI (p + 1), nI d, y0), rMarked 7 s) else gbW (g_give (nI a) t s) fun _ h => some (.inl (nI (p + 1), nI (mDep t d), y0), h) := by
    intro y0
    have hq : ¬ (t = 258 ∧ d = 0) → g_delimited_j103 n (nI a) (nI r) (nI p0) l (nI p) (nI d) y0 t s = gbW (g_give (nI a) t s) fun _ h => some (.inl (nI (p + 1), nI (mDep t d), y0), h) := by
      intro hc
      have e := mDep_J hc
      unfold g_delimited_j103 g_delimited_j130 g_delimited_j140
      rw [nI_1]
      by_cases h1 : t = 257
      · rw [if_pos h1] at e ⊢
        rw [e]
      · rw [if_neg h1] at e ⊢
        by_cases h2 : t = 258
        · rw [if_pos h2] at e ⊢
          rw [e]
        · rw [if_neg h2] at e ⊢
          rw [e]
    unfold g_delimited_j79
    by_cases h8 : t = 258
    · rw [if_pos h8]
      by_cases hz : d = 0
      · rw [if_pos (by rw [hz]; rfl), if_pos ⟨h8, hz⟩, g_mark_at]
        unfold g_delimited_j140
        rw [nI_1]
        rfl
      · rw [if_neg (nI_ne0 (by omega) hd), if_neg (fun q => hz q.2)]
        exact hq (fun q => hz q.2)
    · rw [if_neg h8, if_neg (fun q => h8 q.1)]
      exact hq (fun q => h8 q.1)
  unfold g_delimited_j31 g_delimited_j78 g_delimited_j74
  rw [hT]
  simp only [gbW]
  rw [if_neg (by decide), ht, Option.bind_some]
  simp only [hj]
  cases w
  · rw [if_pos (by decide)]
    rfl
  · rw [if_neg (by decide)]
    by_cases hz : 0 < d
    · have : (0 : Int32) < nI d := by rw [← nI_0]; exact nI_lt hz hd
      rw [if_pos this]
      simp [hz, b01]
      rfl
    · have e : d = 0 := by omega
      subst e
      rw [if_neg (by rw [nI_0]; decide)]
      by_cases hpp : p = p0
      · rw [if_pos (by rw [hpp])]
        by_cases h7 : t = 257
        · rw [if_pos h7]
          simp [hpp, h7, b01]
          rfl
        · rw [if_neg h7]
          simp [h7, b01]
          rfl
      · rw [if_neg (fun q => hpp ((nI_eq hp hp0).mp q))]
        simp [hpp, b01]
        rfl
theorem g_delimited_loop {n : Nat} {st : rS} {xs row : List Int32} {lng : Bool} {a r p0 : Nat} (hV : RV st xs) (hm : rMk st) (ha : a < 10) (hr : r < 1000) (hRR : RR st r row) (hA : RA st a []) (h0 : st.1 21 = 0) (hp0 : p0 ≤ xs.length) (hn : 7000 < n) :
    ∃ b s, gloopW (g_delimited_b9 n (nI a) (nI r) (nI p0) (b01 lng)) n (nI p0, 0, 1) st = some (b, s) ∧ rRd st s ∧ (∀ c bs, c ≠ a → RA st c bs → RA s c bs) ∧ match mDelim (mForb (rOut st) lng) row (xs.drop p0) 0 [] with
      | .inl c => s.1 21 = c ∧ c ≠ 0
      | .inr q => s.1 21 = 0 ∧ RA s a q.1 ∧ ∃ p, p ≤ xs.length ∧ b = (nI p, b01 (mWD q.1).2.1) ∧ (xs.drop p).drop row.length = q.2 ∧ row.isPrefixOf (xs.drop p) = true := by
  have hle := hV.le
  refine gloopW_rule (body := g_delimited_b9 n (nI a) (nI r) (nI p0) (b01 lng)) (fun k x s => ∃ p d w acc, p ≤ xs.length ∧ x = (nI p, nI d, b01 w) ∧ d ≤ p ∧ rRd st s ∧ (∀ c bs, c ≠ a → RA st c bs → RA s c bs) ∧ ((k = 2 * (xs.length + 1 - p) + 1 ∧ s.1 21 = 0 ∧ RA s a acc ∧ p = p0 + acc.length ∧ d = (mWD acc).1 ∧ w = (mWD acc).2.1 ∧ mDelim (mForb (rOut st) lng) row (xs.drop p0) 0 [] = mDelim (mForb (rOut st) lng) row (xs.drop p) d acc) ∨ (k = 2 * (xs.length + 1 - p) ∧ s.1 21 ≠ 0 ∧ mDelim (mForb (rOut st) lng) row (xs.drop p0) 0 [] = .inl (s.1 21))))
    _ ?_ n (2 * (xs.length + 1 - p0) + 1) (nI p0, nI 0, 1) st (by omega) ⟨p0, 0, true, [], hp0, rfl, by omega, rRd.rf st, fun _ _ _ h => h, Or.inl ⟨rfl, h0, hA, rfl, rfl, rfl, rfl⟩⟩
  rintro k x s ⟨p, d, w, acc, hp, rfl, hdp, hR, hB, ⟨rfl, w0, hA', ep, ed, ew, hmi⟩ | ⟨rfl, wn, hmi⟩⟩
  · have hV' := hR.RV hV
    have hRR' : RR s r row := ⟨by rw [hR.2 6 (by decide) (by decide)]; exact hRR.1, hRR.2.1, fun i t hi => by rw [hR.2 7 (by decide) (by decide)]; exact hRR.2.2 i t hi⟩
    have hT := rThere (lng := lng) hV' (hR.mk hm) p hp
    have hfb : ∀ t, mForb (rOut s) lng t = mForb (rOut st) lng t := fun t => by unfold mForb; rw [hR.out]
    by_cases hend : d = 0 ∧ row.isPrefixOf (xs.drop p) = true
    · refine Or.inr ⟨(nI p, b01 w), s, ?_, hR, hB, ?_⟩
      · unfold g_delimited_b9
        dsimp only
        rw [if_pos w0, hend.1, if_pos (by rw [nI_0]), g_rowComes_at hV' hRR' hr hp (by omega), hend.2]
        rfl
      · rw [hmi, hend.1, mDelim_end hend.2]
        exact ⟨w0, hA', p, hp, by rw [ew], rfl, hend.2⟩
    · have hb : g_delimited_b9 n (nI a) (nI r) (nI p0) (b01 lng) (nI p, nI d, b01 w) s = g_delimited_j31 n (nI a) (nI r) (nI p0) (b01 lng) (nI p) (nI d) (b01 w) s := by
        unfold g_delimited_b9
        dsimp only
        rw [if_pos w0]
        by_cases hz : d = 0
        · have hf : row.isPrefixOf (xs.drop p) = false := by
            cases hq : row.isPrefixOf (xs.drop p) with
            | false => rfl
            | true => exact absurd ⟨hz, hq⟩ hend
          rw [if_pos (by rw [hz, nI_0]), g_rowComes_at hV' hRR' hr hp (by omega), hf]
          rfl
        · rw [if_neg (nI_ne0 (by omega) (by omega))]
      cases hdd : xs.drop p with
      | nil =>
        rw [hdd] at hT hmi hend
        refine Or.inl ⟨(nI p, nI d, b01 w), 2 * (xs.length + 1 - p), rMarked 1 s, ?_, by omega, p, d, w, acc, hp, rfl, hdp, hR.tr (rRd.mark s 1), fun c bs hc h => (hB c bs hc h).same rfl rfl, Or.inr ⟨rfl, by rw [rMarked_0 w0]; decide, ?_⟩⟩
        · rw [hb]
          unfold g_delimited_j31
          rw [hT]
          rfl
        · rw [hmi, rMarked_0 w0]
          unfold mDelim
          rw [if_neg hend]
      | cons t ts =>
        obtain ⟨hlt, ht, hts⟩ := drop_cons hdd
        rw [hdd] at hT hmi hend
        rw [mDelim_cons, if_neg hend] at hmi
        by_cases hf : mForb (rOut st) lng t = true
        · have hT1 : g_isThere (nI p) (b01 lng) s = some (0, rMarked 2 s) := by simpa [hfb, hf] using hT
          rw [if_pos hf] at hmi
          refine Or.inl ⟨(nI p, nI d, b01 w), 2 * (xs.length + 1 - p), rMarked 2 s, ?_, by omega, p, d, w, acc, hp, rfl, hdp, hR.tr (rRd.mark s 2), fun c bs hc h => (hB c bs hc h).same rfl rfl, Or.inr ⟨rfl, by rw [rMarked_0 w0]; decide, by rw [hmi, rMarked_0 w0]⟩⟩
          rw [hb]
          unfold g_delimited_j31
          rw [hT1]
          rfl
        · have hT1 : g_isThere (nI p) (b01 lng) s = some (1, s) := by simpa [hfb, hf] using hT
          rw [if_neg hf] at hmi
          rw [g_delimited_tok (by omega) (by omega) (by omega) hT1 (hV'.get ht)] at hb
          have hd1 : mDep t d ≤ p + 1 := by unfold mDep; split <;> (try split) <;> omega
          by_cases h7 : t = 258 ∧ d = 0
          · rw [if_pos h7] at hb hmi
            exact Or.inl ⟨_, 2 * (xs.length + 1 - (p + 1)), rMarked 7 s, hb, by omega, p + 1, d, _, acc, by omega, rfl, by omega, hR.tr (rRd.mark s 7), fun c bs hc h => (hB c bs hc h).same rfl rfl, Or.inr ⟨rfl, by rw [rMarked_0 w0]; decide, by rw [hmi, rMarked_0 w0]⟩⟩
          · rw [if_neg h7] at hb hmi
            by_cases hfull : acc.length = 400
            · rw [g_give_full hA' ha hfull] at hb
              rw [if_pos hfull] at hmi
              exact Or.inl ⟨_, 2 * (xs.length + 1 - (p + 1)), rMarked 8 s, hb, by omega, p + 1, mDep t d, _, acc, by omega, rfl, hd1, hR.tr (rRd.mark s 8), fun c bs hc h => (hB c bs hc h).same rfl rfl, Or.inr ⟨rfl, by rw [rMarked_0 w0]; decide, by rw [hmi, rMarked_0 w0]⟩⟩
            · rw [if_neg hfull] at hmi
              obtain ⟨s', g1, g2, g3, g4, g5⟩ := g_give_at (t := t) hA' ha (by have := hA'.2.1; omega)
              rw [g1] at hb
              refine Or.inl ⟨_, 2 * (xs.length + 1 - (p + 1)) + 1, s', hb, by omega, p + 1, mDep t d, _, acc ++ [t], by omega, rfl, hd1, hR.tr (rRd.give g3 g4), fun c bs hc h => g5 c bs hc (hB c bs hc h), Or.inl ⟨rfl, by rw [g3]; exact w0, g2, by simp; omega, by rw [mWD_snoc, mWs, ← ed], ?_, by rw [hmi, hts]⟩⟩
              rw [mWD_snoc, mWs, ← ed, ← ew, mWD_first]
              congr 3
              exact decide_eq_decide.mpr (by omega)
  · refine Or.inr ⟨(nI p, b01 w), s, ?_, hR, hB, ?_⟩
    · unfold g_delimited_b9
      dsimp only
      rw [if_neg wn]
    · rw [hmi]
      exact ⟨rfl, wn⟩
def mStrip (acc : List Int32) : List Int32 := if (mWD acc).2.1 = true ∧ 1 < acc.length then (acc.drop 1).take (acc.length - 2) else acc
def mDelimS (fb : Int32 → Bool) (row ys : List Int32) : Int32 ⊕ (List Int32 × List Int32) := match mDelim fb row ys 0 [] with
  | .inl c => .inl c
  | .inr q => .inr (mStrip q.1, q.2)
theorem g_strip {n : Nat} {s : rS} {a : Nat} {acc : List Int32} {x2 x5 : Int32} (hA : RA s a acc) (ha : a < 10) (hl : 1 < acc.length) (hn : 500 < n) :
    ∃ b s', gloopW (g_delimited_b181 n (nI a) x2 x5) n 0 (s.1, fun q => if q = 12 then upd (s.2 12) a (nI (acc.length - 2)) else s.2 q) = some (b, s') ∧ s'.1 = s.1 ∧ (∀ j, j ≠ 12 → j ≠ 13 → s'.2 j = s.2 j) ∧ (∀ c bs, c ≠ a → RA s c bs → RA s' c bs) ∧ RA s' a ((acc.drop 1).take (acc.length - 2)) := by
  obtain ⟨q1, q2, q3⟩ := hA
  obtain ⟨b, s', e1, i1, i2, i3, i4, i5⟩ := gloopW_rule (body := g_delimited_b181 n (nI a) x2 x5) (fun k x u => ∃ i, k = acc.length - i ∧ i + 2 ≤ acc.length ∧ x = nI i ∧ u.1 = s.1 ∧ (∀ j, j ≠ 12 → j ≠ 13 → u.2 j = s.2 j) ∧ u.2 12 = upd (s.2 12) a (nI (acc.length - 2)) ∧ (∀ q, q < 400 * a ∨ 400 * a + 400 ≤ q → u.2 13 q = s.2 13 q) ∧ (∀ m, m < i → u.2 13 (400 * a + m) = s.2 13 (400 * a + (m + 1))) ∧ ∀ m, i ≤ m → m < 400 → u.2 13 (400 * a + m) = s.2 13 (400 * a + m))
    (fun _ u => u.1 = s.1 ∧ (∀ j, j ≠ 12 → j ≠ 13 → u.2 j = s.2 j) ∧ u.2 12 = upd (s.2 12) a (nI (acc.length - 2)) ∧ (∀ q, q < 400 * a ∨ 400 * a + 400 ≤ q → u.2 13 q = s.2 13 q) ∧ ∀ m, m < acc.length - 2 → u.2 13 (400 * a + m) = s.2 13 (400 * a + (m + 1)))
    (by
      rintro k x u ⟨i, rfl, hi, rfl, j1, j2, j3, j4, j5, j6⟩
      have h12 : rget u 12 10 (nI a) = some (nI (acc.length - 2)) := by rw [rget_at ha (by decide), j3, upd_same]
      by_cases hie : i = acc.length - 2
      · refine Or.inr ⟨(), u, ?_, j1, j2, j3, j4, fun m hm => j5 m (by omega)⟩
        unfold g_delimited_b181
        dsimp only
        rw [h12]
        show (if nI (acc.length - 2) ≤ nI i then _ else _) = _
        rw [if_pos (nI_le (by omega) (by omega))]
      · refine Or.inl ⟨nI (i + 1), acc.length - (i + 1), (u.1, fun q => if q = 13 then upd (u.2 13) (400 * a + i) (u.2 13 (400 * a + i + 1)) else u.2 q), ?_, by omega, i + 1, rfl, by omega, rfl, j1, fun j h1 h2 => ?_, ?_, fun q hq => ?_, fun m hm => ?_, fun m h1 h2 => ?_⟩
        · unfold g_delimited_b181
          dsimp only
          rw [h12]
          show (if nI (acc.length - 2) ≤ nI i then _ else _) = _
          rw [if_neg (nI_ge (by omega) (by omega)), show (400 : Int32) = nI 400 from rfl, pk_mul, nI_add, nI_1, rget_at (by omega) (by decide)]
          show Option.bind (rset u 13 4000 (nI (400 * a + i)) _) _ = _
          rw [rset_at (by omega) (by decide), nI_1]
          rfl
        · show (if j = 13 then _ else u.2 j) = _
          rw [if_neg h2]
          exact j2 j h1 h2
        · exact j3
        · show upd (u.2 13) (400 * a + i) _ q = _
          rw [upd_other (by omega)]
          exact j4 q hq
        · show upd (u.2 13) (400 * a + i) _ (400 * a + m) = _
          by_cases hmi : m = i
          · subst hmi
            rw [upd_same, Nat.add_assoc]
            exact j6 (m + 1) (by omega) (by omega)
          · rw [upd_other (by omega)]
            exact j5 m (by omega)
        · show upd (u.2 13) (400 * a + i) _ (400 * a + m) = _
          rw [upd_other (by omega)]
          exact j6 m (by omega) h2) n acc.length 0 (s.1, fun q => if q = 12 then upd (s.2 12) a (nI (acc.length - 2)) else s.2 q) (by omega) ⟨0, rfl, by omega, rfl, rfl, fun j h1 h2 => by show (if j = 12 then _ else s.2 j) = _; rw [if_neg h1], rfl, fun q _ => rfl, fun m hm => absurd hm (by omega), fun m _ _ => rfl⟩
  refine ⟨b, s', e1, i1, i2, fun c bs hc hB => ⟨?_, hB.2.1, fun i t hi => ?_⟩, ?_, ?_, fun i t hi => ?_⟩
  · rw [i3, upd_other hc]
    exact hB.1
  · have hlt : i < bs.length := (List.getElem?_eq_some_iff.mp hi).1
    have := hB.2.1
    rw [i4 _ (by omega)]
    exact hB.2.2 i t hi
  · rw [i3, upd_same, List.length_take, List.length_drop]
    exact congrArg nI (by omega)
  · rw [List.length_take, List.length_drop]
    omega
  · have hlt : i < ((acc.drop 1).take (acc.length - 2)).length := (List.getElem?_eq_some_iff.mp hi).1
    rw [List.length_take, List.length_drop] at hlt
    rw [List.getElem?_take, if_pos (by omega), List.getElem?_drop] at hi
    rw [i5 i (by omega)]
    exact q3 (i + 1) t (by rw [Nat.add_comm]; exact hi)
theorem g_delimited_at {n : Nat} {st : rS} {xs row : List Int32} {lng : Bool} {a r p : Nat} (hV : RV st xs) (hm : rMk st) (ha : a < 10) (hr : r < 1000) (hRR : RR st r row) (hA : RA st a []) (h0 : st.1 21 = 0) (hp : p ≤ xs.length) (hn : 7000 < n) :
    ∃ b s, g_delimited n (nI a) (nI r) (nI p) (b01 lng) st = some (b, s) ∧ rArg st s a xs b (mDelimS (mForb (rOut st) lng) row (xs.drop p)) := by
  obtain ⟨b, s, e1, e2, e3, e4⟩ := g_delimited_loop (n := n) (lng := lng) hV hm ha hr hRR hA h0 hp hn
  unfold g_delimited mDelimS
  rw [e1]
  simp only [gbW]
  cases hd : mDelim (mForb (rOut st) lng) row (xs.drop p) 0 [] with
  | inl c =>
    rw [hd] at e4
    have hw : ¬ s.1 21 = 0 := by rw [e4.1]; exact e4.2
    rw [if_neg hw]
    unfold g_delimited_j226
    rw [rget_at hr (by decide)]
    exact ⟨_, s, rfl, e2, e3, e4.1⟩
  | inr q =>
    rw [hd] at e4
    obtain ⟨w0, hA', p', hp', rfl, hz, hpre⟩ := e4
    have hrow : ∀ u : rS, (∀ j, j ≠ 12 → j ≠ 13 → u.2 j = s.2 j) → g_delimited_j226 n (nI r) (nI p') u = some (nI (p' + row.length), u) := by
      intro u hu
      unfold g_delimited_j226
      rw [rget_at hr (by decide), hu 6 (by decide) (by decide), e2.2 6 (by decide) (by decide), hRR.1, Option.bind_some, nI_add]
    have hpl : p' + row.length ≤ xs.length := by
      have := (List.isPrefixOf_iff_prefix.mp hpre).length_le
      rw [List.length_drop] at this
      omega
    rw [List.drop_drop] at hz
    rw [if_pos w0]
    dsimp only
    have h4 := hA'.2.1
    cases hw : (mWD q.1).2.1
    · rw [if_pos (by decide), hrow s (fun _ _ _ => rfl)]
      refine ⟨_, s, rfl, e2, e3, w0, ?_, p' + row.length, hpl, rfl, hz⟩
      simp only [mStrip, hw]
      exact hA'
    · rw [if_neg (by decide), rget_at ha (by decide), hA'.1, Option.bind_some]
      by_cases hl : 1 < q.1.length
      · rw [if_neg (by rw [show (1 : Int32) = nI 1 from rfl]; exact nI_ge hl (by omega)), Option.bind_some, show (2 : Int32) = nI 2 from rfl, pk_sub (by omega), rset_at ha (by decide), Option.bind_some]
        obtain ⟨b', s', g1, g2, g3, g4, g5⟩ := g_strip (n := n) (x2 := nI r) (x5 := nI p') hA' ha hl (by omega)
        rw [g1]
        show ∃ b s, g_delimited_j226 n (nI r) (nI p') s' = some (b, s) ∧ _
        rw [hrow s' g3]
        refine ⟨_, s', rfl, e2.tr (rRd.give g2 g3), fun c bs hc h => g4 c bs hc (e3 c bs hc h), by rw [g2]; exact w0, ?_, p' + row.length, hpl, rfl, hz⟩
        simp only [mStrip, hw, hl]
        exact g5
      · rw [if_pos (by rw [show (1 : Int32) = nI 1 from rfl]; exact nI_le (by omega) (by decide)), hrow s (fun _ _ _ => rfl)]
        refine ⟨_, s, rfl, e2, e3, w0, ?_, p' + row.length, hpl, rfl, hz⟩
        rw [mStrip, if_neg (fun z => hl z.2)]
        exact hA'
