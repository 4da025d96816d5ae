/-! AN ARGUMENT WITHOUT A ROW BEHIND IT: what the document says, on lists; the reference does so -/
def mForb (out : Int32 → Bool) (lng : Bool) (t : Int32) : Bool := out t || (decide (t = 10) && !lng)
def mIn (fb : Int32 → Bool) : List Int32 → Nat → List Int32 → Int32 ⊕ (List Int32 × List Int32)
  | [], _, _ => .inl 1
  | t :: ts, d, acc => if fb t then .inl 2 else if t = 258 ∧ d = 1 then .inr (acc, ts) else if acc.length = 400 then .inl 8 else mIn fb ts (if t = 257 then d + 1 else if t = 258 then d - 1 else d) (acc ++ [t])
theorem mIn_cons {fb : Int32 → Bool} {t : Int32} {ts acc : List Int32} {d : Nat} : mIn fb (t :: ts) d acc = if fb t then .inl 2 else if t = 258 ∧ d = 1 then .inr (acc, ts) else if acc.length = 400 then .inl 8 else mIn fb ts (if t = 257 then d + 1 else if t = 258 then d - 1 else d) (acc ++ [t]) := rfl
def mPlain (fb : Int32 → Bool) : List Int32 → Int32 ⊕ (List Int32 × List Int32)
  | [] => .inl 1
  | t :: ts => if t = 256 then mPlain fb ts else if fb t then .inl 2 else if t = 258 then .inl 7 else if t = 257 then mIn fb ts 1 [] else .inr ([t], ts)
/-- what reading leaves as it was -/
def rRd (st st' : rS) : Prop := (∀ k, k ≠ 21 → st'.1 k = st.1 k) ∧ ∀ j, j ≠ 12 → j ≠ 13 → st'.2 j = st.2 j
theorem rRd.rf (st : rS) : rRd st st := ⟨fun _ _ => rfl, fun _ _ _ => rfl⟩
theorem rRd.tr {a b c : rS} (h : rRd a b) (g : rRd b c) : rRd a c := ⟨fun k hk => (g.1 k hk).trans (h.1 k hk), fun j h1 h2 => (g.2 j h1 h2).trans (h.2 j h1 h2)⟩
theorem rRd.mark (st : rS) (c : Int32) : rRd st (rMarked c st) := ⟨fun k hk => by show upd st.1 21 _ k = _; rw [upd_other hk], fun _ _ _ => rfl⟩
theorem rMarked_0 {st : rS} {c : Int32} (h : st.1 21 = 0) : (rMarked c st).1 21 = c := by
  show upd st.1 21 (if st.1 21 = 0 then c else st.1 21) 21 = c
  rw [upd_same, if_pos h]
theorem rRd.RV {st st' : rS} (h : rRd st st') {xs : List Int32} (hV : RV st xs) : RV st' xs := hV.same (h.1 2 (by decide)) (h.1 3 (by decide)) (h.2 0 (by decide) (by decide))
theorem rRd.mk {st st' : rS} (h : rRd st st') (hm : rMk st) : rMk st' := fun i hi => by rw [h.2 8 (by decide) (by decide)]; exact hm i hi
theorem rRd.mac {st st' : rS} (h : rRd st st') (t : Int32) : rMac st' t = rMac st t := by unfold rMac; rw [h.2 8 (by decide) (by decide)]
theorem rRd.out {st st' : rS} (h : rRd st st') (t : Int32) : rOut st' t = rOut st t := by unfold rOut; rw [h.mac, h.2 3 (by decide) (by decide)]
theorem rRd.give {st st' : rS} (h1 : st'.1 = st.1) (h2 : ∀ j, j ≠ 12 → j ≠ 13 → st'.2 j = st.2 j) : rRd st st' := ⟨fun k _ => by rw [h1], h2⟩
/-- a look at place p of the input -/
theorem rThere {st : rS} {xs : List Int32} {lng : Bool} (hV : RV st xs) (hm : rMk st) (p : Nat) (hp : p ≤ xs.length) : g_isThere (nI p) (b01 lng) st = match xs.drop p with
    | [] => some (0, rMarked 1 st)
    | t :: _ => if mForb (rOut st) lng t then some (0, rMarked 2 st) else some (1, st) := by
  have hle := hV.le
  cases hd : xs.drop p with
  | nil =>
    have : xs.length ≤ p := List.drop_eq_nil_iff.mp hd
    exact g_isThere_end (by rw [hV.size]; exact nI_nlt (by omega) (by omega))
  | cons t ts =>
    have hlt : p < xs.length := by
      have := congrArg List.length hd
      simp at this
      omega
    have ht : xs[p]? = some t := by
      have := List.getElem?_drop (xs := xs) (i := p) (j := 0)
      rw [hd] at this
      simpa using this.symm
    rw [g_isThere_in hm (by rw [hV.size]; exact nI_lt hlt (by omega)) (hV.get ht)]
    have e : (rOut st t = true ∨ (t = 10 ∧ b01 lng = 0)) ↔ mForb (rOut st) lng t = true := by
      unfold mForb
      rw [b01_0]
      cases lng <;> simp
    by_cases h : mForb (rOut st) lng t = true
    · rw [if_pos (e.mpr h)]
      simp [h]
    · rw [if_neg (fun q => h (e.mp q))]
      simp [h]
theorem drop_cons {xs ts : List Int32} {p : Nat} {t : Int32} (h : xs.drop p = t :: ts) : p < xs.length ∧ xs[p]? = some t ∧ xs.drop (p + 1) = ts := by
  have hlt : p < xs.length := by
    have := congrArg List.length h
    simp at this
    omega
  refine ⟨hlt, ?_, ?_⟩
  · have := List.getElem?_drop (xs := xs) (i := p) (j := 0)
    rw [h] at this
    simpa using this.symm
  · rw [← List.drop_drop, h]
    rfl
def mDep (t : Int32) (d : Nat) : Nat := if t = 257 then d + 1 else if t = 258 then d - 1 else d
theorem mDep_I {t : Int32} {d : Nat} (hd : 0 < d) : nI d + (if t = 257 then 1 else if t = 258 then -1 else 0) = nI (mDep t d) := by
  unfold mDep
  by_cases h1 : t = 257
  · rw [if_pos h1, if_pos h1, nI_1]
  · rw [if_neg h1, if_neg h1]
    by_cases h2 : t = 258
    · rw [if_pos h2, if_pos h2]
      obtain ⟨e, rfl⟩ : ∃ e, d = e + 1 := ⟨d - 1, by omega⟩
      rw [pk_m1]
      rfl
    · rw [if_neg h2, if_neg h2, Int32.add_zero]
theorem g_plain_step {n : Nat} {s : rS} {a p d : Nat} {l t : Int32} (hd0 : 0 < d) (hd : d < 2 ^ 31) (w0 : s.1 21 = 0) (hT : g_isThere (nI p) l s = some (1, s)) (ht : g_get (nI p) s = some t) : g_plain_b98 n (nI a) l (nI p, nI d) s = g_plain_j155 n (nI a) l (nI p) (nI d) (if t = 257 then 1 else if t = 258 then -1 else 0) s := by
  unfold g_plain_b98
  dsimp only
  rw [if_neg (nI_nle hd0 hd), if_pos w0, hT]
  simp only [gbW]
  rw [if_neg (by decide), ht]
  simp only [Option.bind_some]
  by_cases h1 : t = 257
  · rw [if_pos h1, if_pos h1]
  · rw [if_neg h1, if_neg h1]
    by_cases h2 : t = 258
    · rw [if_pos h2, if_pos h2]
    · rw [if_neg h2, if_neg h2]
theorem g_plain_in {n : Nat} {st : rS} {xs : List Int32} {lng : Bool} {a q : Nat} (hV : RV st xs) (hm : rMk st) (ha : a < 10) (hA : RA st a []) (h0 : st.1 21 = 0) (hq : q ≤ xs.length) (hn : 3200 < n) :
    ∃ b s, gloopW (g_plain_b98 n (nI a) (b01 lng)) n (nI q, 1) st = some (b, s) ∧ rRd st s ∧ (∀ c bs, c ≠ a → RA st c bs → RA s c bs) ∧ match mIn (mForb (rOut st) lng) (xs.drop q) 1 [] with
      | .inl c => s.1 21 = c
      | .inr r => s.1 21 = 0 ∧ RA s a r.1 ∧ ∃ p, p ≤ xs.length ∧ b = nI p ∧ xs.drop p = r.2 := by
  have hle := hV.le
  refine gloopW_rule (body := g_plain_b98 n (nI a) (b01 lng)) (fun k x s => ∃ p d acc, k = xs.length + 1 - p ∧ p ≤ xs.length ∧ x = (nI p, nI d) ∧ d < 4000 + p ∧ rRd st s ∧ (∀ c bs, c ≠ a → RA st c bs → RA s c bs) ∧ ((s.1 21 = 0 ∧ 0 < d ∧ RA s a acc ∧ mIn (mForb (rOut st) lng) (xs.drop q) 1 [] = mIn (mForb (rOut st) lng) (xs.drop p) d acc) ∨ (d = 0 ∧ s.1 21 = 0 ∧ RA s a acc ∧ mIn (mForb (rOut st) lng) (xs.drop q) 1 [] = .inr (acc, xs.drop p)) ∨ (0 < d ∧ s.1 21 = 8 ∧ mIn (mForb (rOut st) lng) (xs.drop q) 1 [] = .inl 8)))
    (fun b s => rRd st s ∧ (∀ c bs, c ≠ a → RA st c bs → RA s c bs) ∧ match mIn (mForb (rOut st) lng) (xs.drop q) 1 [] with
      | .inl c => s.1 21 = c
      | .inr r => s.1 21 = 0 ∧ RA s a r.1 ∧ ∃ p, p ≤ xs.length ∧ b = nI p ∧ xs.drop p = r.2) ?_ n (xs.length + 1 - q) (nI q, nI 1) st (by omega) ⟨q, 1, [], rfl, hq, rfl, by omega, rRd.rf st, fun _ _ _ h => h, Or.inl ⟨h0, by decide, hA, rfl⟩⟩
  rintro k x s ⟨p, d, acc, rfl, hp, rfl, hd, hR, hB, ⟨w0, d0, hA', hmi⟩ | ⟨rfl, w0, hA', hmi⟩ | ⟨d0, w8, hmi⟩⟩
  · have hV' := hR.RV hV
    have hT := rThere (lng := lng) hV' (hR.mk hm) p hp
    have hfb : ∀ t, mForb (rOut s) lng t = mForb (rOut st) lng t := fun t => by unfold mForb; rw [hR.out]
    cases hdp : xs.drop p with
    | nil =>
      rw [hdp] at hT hmi
      refine Or.inr ⟨nI p, rMarked 1 s, ?_, hR.tr (rRd.mark s 1), fun c bs hc h => (hB c bs hc h).same rfl rfl, ?_⟩
      · unfold g_plain_b98
        dsimp only
        rw [if_neg (nI_nle d0 (by omega)), if_pos w0, hT]
        rfl
      · rw [hmi]
        exact rMarked_0 w0
    | cons t ts =>
      obtain ⟨hlt, ht, hts⟩ := drop_cons hdp
      rw [hdp] at hT hmi
      by_cases hf : mForb (rOut st) lng t = true
      · refine Or.inr ⟨nI p, rMarked 2 s, ?_, hR.tr (rRd.mark s 2), fun c bs hc h => (hB c bs hc h).same rfl rfl, ?_⟩
        · unfold g_plain_b98
          dsimp only
          rw [if_neg (nI_nle d0 (by omega)), if_pos w0, hT]
          simp only [hfb, hf]
          rfl
        · rw [hmi]
          unfold mIn
          rw [if_pos hf]
          exact rMarked_0 w0
      · simp only [hfb, hf] at hT
        have hT1 : g_isThere (nI p) (b01 lng) s = some (1, s) := hT
        have hbody := g_plain_step (n := n) (a := a) d0 (by omega) w0 hT1 (hV'.get ht)
        unfold g_plain_j155 g_plain_j174 at hbody
        rw [mDep_I d0, nI_1] at hbody
        have hmd : mDep t d < 4000 + (p + 1) := by unfold mDep; split <;> (try split) <;> omega
        rw [mIn_cons, if_neg hf] at hmi
        by_cases hend : t = 258 ∧ d = 1
        · have e0 : mDep t d = 0 := by unfold mDep; rw [if_neg (by rw [hend.1]; decide), if_pos hend.1, hend.2]
          rw [e0, if_pos (by rw [nI_0]; decide)] at hbody
          rw [if_pos hend] at hmi
          exact Or.inl ⟨_, xs.length + 1 - (p + 1), s, hbody, by omega, p + 1, 0, acc, rfl, by omega, rfl, by omega, hR, hB, Or.inr (Or.inl ⟨rfl, w0, hA', by rw [hmi, hts]⟩)⟩
        · have d1 : 0 < mDep t d := by
            unfold mDep
            split
            · omega
            · split
              · rename_i _ h8
                have : d ≠ 1 := fun q => hend ⟨h8, q⟩
                omega
              · exact d0
          rw [if_neg (nI_nle d1 (by omega)), hV'.get ht, Option.bind_some] at hbody
          rw [if_neg hend] at hmi
          by_cases hfull : acc.length = 400
          · rw [g_give_full hA' ha hfull] at hbody
            rw [if_pos hfull] at hmi
            exact Or.inl ⟨_, xs.length + 1 - (p + 1), rMarked 8 s, hbody, by omega, p + 1, mDep t d, acc, rfl, by omega, rfl, hmd, hR.tr (rRd.mark s 8), fun c bs hc h => (hB c bs hc h).same rfl rfl, Or.inr (Or.inr ⟨d1, rMarked_0 w0, hmi⟩)⟩
          · rw [if_neg hfull] at hmi
            obtain ⟨s', g1, g2, g3, g4, g5⟩ := g_give_at (t := t) hA' ha (by have := hA'.2.1; omega)
            rw [g1] at hbody
            exact Or.inl ⟨_, xs.length + 1 - (p + 1), s', hbody, by omega, p + 1, mDep t d, acc ++ [t], rfl, by omega, rfl, hmd, hR.tr (rRd.give g3 g4), fun c bs hc h => g5 c bs hc (hB c bs hc h), Or.inl ⟨by rw [g3]; exact w0, d1, g2, by rw [hmi, hts]; rfl⟩⟩
  · refine Or.inr ⟨nI p, s, ?_, hR, hB, ?_⟩
    · unfold g_plain_b98
      dsimp only
      rw [if_pos (by rw [nI_0]; decide)]
    · rw [hmi]
      exact ⟨w0, hA', p, hp, rfl, rfl⟩
  · refine Or.inr ⟨nI p, s, ?_, hR, hB, ?_⟩
    · unfold g_plain_b98
      dsimp only
      rw [if_neg (nI_nle d0 (by omega)), if_neg (by rw [w8]; decide)]
    · rw [hmi]
      exact w8
/-- how reading argument a ended: a fault, or the argument and what is left of the input -/
def rArg (st s : rS) (a : Nat) (xs : List Int32) (b : Int32) (res : Int32 ⊕ (List Int32 × List Int32)) : Prop := rRd st s ∧ (∀ c bs, c ≠ a → RA st c bs → RA s c bs) ∧ match res with
  | .inl c => s.1 21 = c
  | .inr r => s.1 21 = 0 ∧ RA s a r.1 ∧ ∃ p, p ≤ xs.length ∧ b = nI p ∧ xs.drop p = r.2
theorem g_plain_blanks {n : Nat} {st : rS} {xs : List Int32} {x1 x3 : Int32} {p : Nat} (fb : Int32 → Bool) (hV : RV st xs) (hp : p ≤ xs.length) (hn : 3200 < n) : ∃ i, i ≤ xs.length ∧ gloopW (g_plain_b3 n x1 x3) n (nI p) st = some (nI i, st) ∧ mPlain fb (xs.drop p) = mPlain fb (xs.drop i) ∧ ∀ t ts, xs.drop i = t :: ts → t ≠ 256 := by
  have hle := hV.le
  obtain ⟨b, s, e1, rfl, i, hi, rfl, e2, e3⟩ := gloopW_rule (body := g_plain_b3 n x1 x3) (fun k x s => ∃ i, k = xs.length + 1 - i ∧ i ≤ xs.length ∧ x = nI i ∧ s = st ∧ mPlain fb (xs.drop p) = mPlain fb (xs.drop i)) (fun b s => s = st ∧ ∃ i, i ≤ xs.length ∧ b = nI i ∧ mPlain fb (xs.drop p) = mPlain fb (xs.drop i) ∧ ∀ t ts, xs.drop i = t :: ts → t ≠ 256)
    (by
      rintro k x s ⟨i, rfl, hi, rfl, rfl, he⟩
      cases hd : xs.drop i with
      | nil =>
        have : xs.length ≤ i := List.drop_eq_nil_iff.mp hd
        refine Or.inr ⟨nI i, s, ?_, rfl, i, hi, rfl, he, fun t ts h => by rw [hd] at h; cases h⟩
        unfold g_plain_b3
        dsimp only
        rw [hV.size, if_pos (nI_le (by omega) (by omega))]
      | cons t ts =>
        obtain ⟨hlt, ht, hts⟩ := drop_cons hd
        have hb : g_plain_b3 n x1 x3 (nI i) s = if t = 256 then some (.inl (nI (i + 1)), s) else some (.inr (nI i), s) := by
          unfold g_plain_b3
          dsimp only
          rw [hV.size, if_neg (nI_ge hlt (by omega)), hV.get ht, nI_1]
          rfl
        by_cases h6 : t = 256
        · rw [if_pos h6] at hb
          refine Or.inl ⟨_, xs.length + 1 - (i + 1), s, hb, by omega, i + 1, rfl, by omega, rfl, rfl, ?_⟩
          rw [he, hd, hts]
          show (if t = 256 then _ else _) = _
          rw [if_pos h6]
        · rw [if_neg h6] at hb
          refine Or.inr ⟨_, s, hb, rfl, i, hi, rfl, he, fun t' ts' h => ?_⟩
          rw [hd] at h
          cases h
          exact h6) n (xs.length + 1 - p) (nI p) st (by omega) ⟨p, rfl, hp, rfl, rfl, rfl⟩
  exact ⟨i, hi, e1, e2, e3⟩
theorem g_plain_at {n : Nat} {st : rS} {xs : List Int32} {lng : Bool} {a p : Nat} (hV : RV st xs) (hm : rMk st) (ha : a < 10) (hA : RA st a []) (h0 : st.1 21 = 0) (hp : p ≤ xs.length) (hn : 3200 < n) :
    ∃ b s, g_plain n (nI a) (nI p) (b01 lng) st = some (b, s) ∧ rArg st s a xs b (mPlain (mForb (rOut st) lng) (xs.drop p)) := by
  have hle := hV.le
  obtain ⟨i, hi, e1, e2, e3⟩ := g_plain_blanks (n := n) (x1 := nI a) (x3 := b01 lng) (mForb (rOut st) lng) hV hp hn
  have hT := rThere (lng := lng) hV hm i hi
  unfold g_plain
  rw [e1]
  simp only [gbW]
  rw [e2]
  cases hd : xs.drop i with
  | nil =>
    rw [hd] at hT
    rw [hT]
    exact ⟨nI i, rMarked 1 st, rfl, rRd.mark st 1, fun c bs hc h => h.same rfl rfl, rMarked_0 h0⟩
  | cons t ts =>
    obtain ⟨hlt, ht, hts⟩ := drop_cons hd
    have h6 := e3 t ts hd
    rw [hd] at hT
    show ∃ b s, _ ∧ rArg st s a xs b (if t = 256 then _ else if mForb (rOut st) lng t then _ else _)
    rw [if_neg h6]
    by_cases hf : mForb (rOut st) lng t = true
    · have hT1 : g_isThere (nI i) (b01 lng) st = some (0, rMarked 2 st) := by simpa [hf] using hT
      rw [hT1, if_pos hf]
      exact ⟨nI i, rMarked 2 st, rfl, rRd.mark st 2, fun c bs hc h => h.same rfl rfl, rMarked_0 h0⟩
    · have hT1 : g_isThere (nI i) (b01 lng) st = some (1, st) := by simpa [hf] using hT
      rw [hT1, if_neg hf]
      simp only [hV.get ht, Option.bind_some]
      by_cases h8 : t = 258
      · rw [if_neg (by decide), if_pos h8]
        show ∃ b s, _ ∧ rArg st s a xs b (if t = 258 then _ else _)
        rw [if_pos h8, g_mark_at]
        exact ⟨nI i, rMarked 7 st, rfl, rRd.mark st 7, fun c bs hc h => h.same rfl rfl, rMarked_0 h0⟩
      · rw [if_neg (by decide), if_neg h8]
        show ∃ b s, _ ∧ rArg st s a xs b (if t = 258 then _ else if t = 257 then _ else _)
        rw [if_neg h8]
        by_cases h7 : t = 257
        · rw [if_pos h7, if_pos h7]
          obtain ⟨b, s, g1, g2, g3, g4⟩ := g_plain_in (n := n) (lng := lng) (q := i + 1) hV hm ha hA h0 (by omega) hn
          rw [hts] at g4
          refine ⟨b, s, ?_, g2, g3, g4⟩
          rw [nI_1, g1]
        · rw [if_neg h7, if_neg h7]
          obtain ⟨s', g1, g2, g3, g4, g5⟩ := g_give_at (t := t) hA ha (by decide)
          rw [g1]
          exact ⟨nI (i + 1), s', by rw [nI_1], rRd.give g3 g4, g5, by rw [g3]; exact h0, g2, i + 1, by omega, rfl, hts⟩
