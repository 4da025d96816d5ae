/-! A MACRO IS EXPANDED: what the document says, on lists; the reference does so -/
theorem mRow_le {out : Int32 → Bool} : ∀ (row ys zs : List Int32), mRow out row ys = .inr zs → zs.length ≤ ys.length
  | [], ys, zs, h => by
    simp only [mRow, Sum.inr.injEq] at h
    rw [h]
    exact Nat.le_refl _
  | _ :: _, [], zs, h => by simp [mRow] at h
  | r :: rs, t :: ts, zs, h => by
    simp only [mRow] at h
    split at h
    · cases h
    · split at h
      · exact Nat.le_trans (mRow_le rs ts zs h) (by simp)
      · cases h
theorem mIn_le {fb : Int32 → Bool} : ∀ (ys : List Int32) (d : Nat) (acc : List Int32) (q : List Int32 × List Int32), mIn fb ys d acc = .inr q → q.2.length ≤ ys.length
  | [], _, _, q, h => by simp [mIn] at h
  | t :: ts, d, acc, q, h => by
    rw [mIn_cons] at h
    split at h
    · cases h
    · split at h
      · cases h
        simp
      · split at h
        · cases h
        · exact Nat.le_trans (mIn_le ts _ _ q h) (by simp)
theorem mPlain_le {fb : Int32 → Bool} : ∀ (ys : List Int32) (q : List Int32 × List Int32), mPlain fb ys = .inr q → q.2.length ≤ ys.length
  | [], q, h => by simp [mPlain] at h
  | t :: ts, q, h => by
    simp only [mPlain] at h
    split at h
    · exact Nat.le_trans (mPlain_le ts q h) (by simp)
    · split at h
      · cases h
      · split at h
        · cases h
        · split at h
          · exact Nat.le_trans (mIn_le ts _ _ q h) (by simp)
          · cases h
            simp
theorem mDelim_le {fb : Int32 → Bool} {row : List Int32} : ∀ (ys : List Int32) (d : Nat) (acc : List Int32) (q : List Int32 × List Int32), mDelim fb row ys d acc = .inr q → q.2.length ≤ ys.length
  | [], d, acc, q, h => by
    simp only [mDelim] at h
    split at h
    · cases h
      simp
    · cases h
  | t :: ts, d, acc, q, h => by
    rw [mDelim_cons] at h
    split at h
    · cases h
      simp
    · split at h
      · cases h
      · split at h
        · cases h
        · split at h
          · cases h
          · exact Nat.le_trans (mDelim_le ts _ _ q h) (by simp)
theorem mArg_le {fb : Int32 → Bool} {row ys : List Int32} {q : List Int32 × List Int32} (h : mArg fb row ys = .inr q) : q.2.length ≤ ys.length := by
  unfold mArg at h
  split at h
  · exact mPlain_le ys q h
  · unfold mDelimS at h
    cases hd : mDelim fb row ys 0 [] with
    | inl c' =>
      rw [hd] at h
      cases h
    | inr r =>
      rw [hd] at h
      cases h
      exact mDelim_le ys 0 [] r hd
theorem mArgs_le {fb : Int32 → Bool} {rows : Nat → List Int32} : ∀ (c a : Nat) (ys : List Int32) (as : Nat → List Int32) (q : (Nat → List Int32) × List Int32), mArgs fb rows c a ys as = .inr q → q.2.length ≤ ys.length
  | 0, _, ys, as, q, h => by
    simp only [mArgs, Sum.inr.injEq] at h
    rw [← h]
    exact Nat.le_refl _
  | c + 1, a, ys, as, q, h => by
    simp only [mArgs] at h
    cases hd : mArg fb (rows a) ys with
    | inl c' =>
      rw [hd] at h
      cases h
    | inr r =>
      rw [hd] at h
      exact Nat.le_trans (mArgs_le c (a + 1) r.2 _ q h) (mArg_le hd)
def mName (out : Int32 → Bool) (lng : Bool) (rows : Nat → List Int32) (k : Nat) (body ts : List Int32) : Int32 ⊕ (Nat × Nat × List Int32) := match mRow out (rows 0) ts with
  | .inl c => .inl c
  | .inr ys => match mArgs (mForb out lng) rows k 1 ys (fun _ => []) with
    | .inl c => .inl c
    | .inr q => if (body.flatMap (mPut k q.1)).length + q.2.length ≤ 3000 then .inr (sumL q.1 k, (body.flatMap (mPut k q.1)).length, body.flatMap (mPut k q.1) ++ q.2) else .inl 8
def mTr (tr : List (Int32 × Int32 × Int32)) (q : Int32 × Int32 × Int32) : List (Int32 × Int32 × Int32) := if tr.length < 100 then tr ++ [q] else tr
/-- what the expansion of a name leaves as it was -/
def rXf (st st' : rS) : Prop := (∀ k, k ≠ 2 → k ≠ 3 → k ≠ 21 → k ≠ 22 → k ≠ 25 → st'.1 k = st.1 k) ∧ ∀ j, j ≠ 0 → j ≠ 12 → j ≠ 13 → j ≠ 14 → st'.2 j = st.2 j
theorem rXf.rf (st : rS) : rXf st st := ⟨fun _ _ _ _ _ _ => rfl, fun _ _ _ _ _ => rfl⟩
theorem rXf.tr {a b c : rS} (h : rXf a b) (g : rXf b c) : rXf a c := ⟨fun k h1 h2 h3 h4 h5 => (g.1 k h1 h2 h3 h4 h5).trans (h.1 k h1 h2 h3 h4 h5), fun j h1 h2 h3 h4 => (g.2 j h1 h2 h3 h4).trans (h.2 j h1 h2 h3 h4)⟩
theorem rRd.xf {st s : rS} (h : rRd st s) : rXf st s := ⟨fun k _ _ h3 _ _ => h.1 k h3, fun j _ h2 h3 _ => h.2 j h2 h3⟩
theorem RT.same {st st' : rS} {ts : List (Int32 × Int32 × Int32)} (h : RT st ts) (h1 : st'.1 25 = st.1 25) (h2 : st'.2 14 = st.2 14) : RT st' ts := ⟨by rw [h1]; exact h.1, h.2.1, fun i q hi => by rw [h2]; exact h.2.2 i q hi⟩
theorem RR.same {st st' : rS} {r : Nat} {ds : List Int32} (h : RR st r ds) (h1 : st'.2 6 = st.2 6) (h2 : st'.2 7 = st.2 7) : RR st' r ds := ⟨by rw [h1]; exact h.1, h.2.1, fun i q hi => by rw [h2]; exact h.2.2 i q hi⟩
theorem RB.same {st st' : rS} {m : Nat} {ds : List Int32} (h : RB st m ds) (h1 : st'.2 4 = st.2 4) (h2 : st'.2 5 = st.2 5) : RB st' m ds := ⟨by rw [h1]; exact h.1, h.2.1, fun i q hi => by rw [h2]; exact h.2.2 i q hi⟩
theorem g_expandName_bad {n : Nat} {s : rS} {x1 x2 x3 x5 x6 y0 : Int32} (w : s.1 21 ≠ 0) : g_expandName_j226 n x1 x2 x3 x5 x6 y0 s = some ((), s) := by
  unfold g_expandName_j226 g_expandName_j264
  dsimp only
  rw [if_neg w, if_neg w]
theorem g_args_bad {n : Nat} {s : rS} {x1 x2 x4 x5 x6 x7 : Int32} {m k : Nat} (hmm : m < 100) (h2 : s.2 2 m = nI k) (w : s.1 21 ≠ 0) (hn : 0 < n) : gloopW (g_expandName_b119 n x1 x2 (nI m) x4) n (x5, x6, x7) s = some ((x5, x6), s) := by
  obtain ⟨n', rfl⟩ : ∃ n', n = n' + 1 := ⟨n - 1, by omega⟩
  unfold gloopW
  have hb : g_expandName_b119 (n' + 1) x1 x2 (nI m) x4 (x5, x6, x7) s = some (.inr (x5, x6), s) := by
    unfold g_expandName_b119
    dsimp only
    rw [rget_at hmm (by decide), h2, Option.bind_some]
    split
    · rfl
    · first
      | rfl
      | rw [if_neg w]
  rw [hb]
  rfl
/-- the end of an expansion: the tokens go, the body comes, the trace has it -/
theorem g_expandName_end {n : Nat} {s : rS} {as bs cs body : List Int32} {t v : Int32} {m k sz : Nat} {args : Nat → List Int32} {tr : List (Int32 × Int32 × Int32)} (hV : RV s (as ++ bs ++ cs)) (hmm : m < 100) (hk : k ≤ 9) (h2 : s.2 2 m = nI k) (hB : RB s m body) (hA : ∀ a, 1 ≤ a → a ≤ k → RA s a (args a)) (hT : RT s tr) (h0 : s.1 21 = 0) (h22 : s.1 22 = t) (has : as.length ≤ 51) (hr : (body.flatMap (mPut k args)).length + cs.length ≤ 3000) (hn : 7000 < n) :
    ∃ st', g_expandName_j264 n (nI as.length) v (nI m) (nI (as.length + bs.length)) (nI sz) (nI (body.flatMap (mPut k args)).length) s = some ((), st') ∧ rXf s st' ∧ st'.1 21 = 0 ∧ st'.1 22 = v ∧ RV st' (as ++ (body.flatMap (mPut k args) ++ cs)) ∧ RT st' (mTr tr (t, nI sz, nI (body.flatMap (mPut k args)).length)) := by
  obtain ⟨s1, e1, V1, f1, q1⟩ := hV.take (n := n) (by omega)
  obtain ⟨s2, gap, hg, e2, V2, f2, q2⟩ := V1.spread (n := n) (many := (body.flatMap (mPut k args)).length) (by omega) (by omega)
  have hq : ∀ j, j ≠ 0 → s2.2 j = s.2 j := fun j hj => (q2 j hj).trans (q1 j hj)
  have hf : ∀ j, j ≠ 2 → j ≠ 3 → s2.1 j = s.1 j := fun j h1 h2 => (f2 j h1 h2).trans (f1 j h1 h2)
  obtain ⟨s3, e3, V3, f3, q3⟩ := g_putText (n := n) (s := s2) (as := as) (gap := gap) (cs := cs) (bs := body) (args := args) (x2 := v) (x6 := nI sz) (x7 := nI (body.flatMap (mPut k args)).length) (x8 := t) (m := m) (k := k) V2 hg hmm hk (by rw [hq 2 (by decide)]; exact h2) (hB.same (hq 4 (by decide)) (hq 5 (by decide))) (fun a h1 h3 => (hA a h1 h3).same (hq 12 (by decide)) (hq 13 (by decide))) (by omega)
  have hf3 : ∀ j, j ≠ 2 → j ≠ 3 → s3.1 j = s.1 j := fun j h1 h2 => by rw [f3]; exact hf j h1 h2
  have hq3 : ∀ j, j ≠ 0 → s3.2 j = s.2 j := fun j hj => (q3 j hj).trans (hq j hj)
  obtain ⟨s4, e4, T4, n4, f4, q4⟩ := g_trace_add (n := n) (st := s3) (v := t) (x2 := v) (x6 := nI sz) (x7 := nI (body.flatMap (mPut k args)).length) (hT.same (hf3 25 (by decide) (by decide)) (hq3 14 (by decide)))
  refine ⟨s4, ?_, ⟨fun j h1 h2 _ h4 h5 => (f4 j h4 h5).trans (hf3 j h1 h2), fun j h1 _ _ h4 => (q4 j h4).trans (hq3 j h1)⟩, ?_, n4, ?_, T4⟩
  · unfold g_expandName_j264
    dsimp only
    rw [if_pos h0, h22, pk_sub (by omega), show as.length + bs.length - as.length = bs.length by omega, e1]
    simp only [gbW]
    rw [e2]
    simp only [gbW]
    rw [e3]
    exact e4
  · rw [f4 21 (by decide) (by decide), hf3 21 (by decide) (by decide)]
    exact h0
  · rw [← List.append_assoc]
    exact V3.same (f4 2 (by decide) (by decide)) (f4 3 (by decide) (by decide)) (q4 0 (by decide))
theorem g_expandName_at {n : Nat} {st : rS} {as ts body : List Int32} {t : Int32} {m k dp : Nat} {rows : Nat → List Int32} {tr : List (Int32 × Int32 × Int32)} (hV : RV st (as ++ t :: ts)) (hm : rMk st) (hM : rMac st t = nI m) (hmm : m < 100) (hk : k ≤ 9) (h2 : st.2 2 m = nI k) (hRR : ∀ a, a ≤ k → RR st (10 * m + a) (rows a)) (hB : RB st m body) (hT : RT st tr) (h0 : st.1 21 = 0) (hdp : st.1 28 = nI dp) (hd : dp ≤ 51) (hp : rAf (st.2 16) dp = as.length) (hn : 7000 < n) :
    ∃ st', g_expandName n (nI as.length) st = some ((), st') ∧ rXf st st' ∧ match mName (rOut st) (!(decide (st.2 3 m &&& 1 = 0))) rows k body ts with
      | .inl c => st'.1 21 = c ∧ c ≠ 0 ∧ st'.1 22 = t ∧ RT st' tr
      | .inr q => st'.1 21 = 0 ∧ st'.1 22 = st.1 22 ∧ RV st' (as ++ q.2.2) ∧ RT st' (mTr tr (t, nI q.1, nI q.2.1)) := by
  have hle := hV.le
  have has : as.length ≤ 51 := by
    rw [← hp]
    exact Nat.le_trans (rAf_le _ _) hd
  simp only [List.length_append, List.length_cons] at hle
  have hget : (as ++ t :: ts)[as.length]? = some t := by simp
  have hdr : (as ++ t :: ts).drop (as.length + 1) = ts := by
    rw [← List.drop_drop, List.drop_left]
    rfl
  have hXf0 : rXf st (rput st 22 t) := ⟨fun j _ _ _ h4 _ => (by simp only [rput, upd] <;> (repeat rw [if_neg (by omega)])), fun j _ _ _ _ => rfl⟩
  have hV0 : RV (rput st 22 t) (as ++ t :: ts) := hV.same ((by simp only [rput, upd] <;> (repeat rw [if_neg (by omega)]))) ((by simp only [rput, upd] <;> (repeat rw [if_neg (by omega)]))) rfl
  have h00 : (rput st 22 t).1 21 = 0 := Eq.trans (by simp only [rput, upd] <;> (repeat rw [if_neg (by omega)])) h0
  have h220 : (rput st 22 t).1 22 = t := rfl
  have hT0 : RT (rput st 22 t) tr := hT.same ((by simp only [rput, upd] <;> (repeat rw [if_neg (by omega)]))) rfl
  have e0 : g_expandName n (nI as.length) st = g_expandName_j36 n (nI as.length) (st.1 22) (nI m) (b01 (!(decide (st.2 3 m &&& 1 = 0)))) (rput st 22 t) := by
    unfold g_expandName
    dsimp only
    rw [hV.get hget, Option.bind_some, g_macroAt_at (hV0.get hget), Option.bind_some, show rMac (rput st 22 t) t = nI m from hM, rget_at hmm (by decide), Option.bind_some]
    show (if st.2 3 m &&& 1 = 0 then _ else _) = _
    by_cases hl : st.2 3 m &&& 1 = 0
    · rw [if_pos hl, decide_eq_true hl]
      rfl
    · rw [if_neg hl, decide_eq_false hl]
      rfl
  rw [e0]
  clear e0
  generalize (!(decide (st.2 3 m &&& 1 = 0))) = lng
  obtain ⟨b1, s1, e1, R1, q1, M1⟩ := g_row0 (n := n) (st := rput st 22 t) (row := rows 0) (x1 := nI as.length) (x2 := st.1 22) (x4 := b01 lng) (m := m) (p := as.length + 1) hV0 hm hmm (hRR 0 (Nat.zero_le _)) h00 (by simp) (by omega)
  rw [hdr, show rOut (rput st 22 t) = rOut st from rfl] at M1
  unfold g_expandName_j36
  dsimp only
  rw [nI_1, e1]
  simp only [gbW]
  unfold mName
  cases hr : mRow (rOut st) (rows 0) ts with
  | inl c =>
    rw [hr] at M1
    obtain ⟨w1, w2⟩ := M1
    rw [g_args_bad (k := k) hmm (by rw [q1]; exact h2) (by rw [w1]; exact w2) (by omega)]
    dsimp only
    rw [if_neg (by rw [w1]; exact w2), g_expandName_bad (by rw [w1]; exact w2)]
    exact ⟨s1, rfl, hXf0.tr R1.xf, w1, w2, (R1.1 22 (by decide)).trans h220, hT0.same (R1.1 25 (by decide)) (by rw [q1])⟩
  | inr ys =>
    rw [hr] at M1
    obtain ⟨rfl, j1, hj1, rfl, hys⟩ := M1
    obtain ⟨b2, s2, e2, R2, M2⟩ := g_args (n := n) (st := rput st 22 t) (rows := rows) (as0 := fun _ => []) (x1 := nI as.length) (x2 := st.1 22) (lng := lng) (m := m) (k := k) (p := j1) hV0 hm hmm hk h2 (fun a _ ha => hRR a ha) h00 hj1 hn
    rw [hys, show rOut (rput st 22 t) = rOut st from rfl] at M2
    rw [e2]
    dsimp only
    cases ha : mArgs (mForb (rOut st) lng) rows k 1 ys (fun _ => []) with
    | inl c =>
      rw [ha] at M2
      obtain ⟨w1, w2⟩ := M2
      rw [if_neg (by rw [w1]; exact w2), g_expandName_bad (by rw [w1]; exact w2)]
      exact ⟨s2, rfl, hXf0.tr R2.xf, w1, w2, (R2.1 22 (by decide)).trans h220, hT0.same (R2.1 25 (by decide)) (R2.2 14 (by decide) (by decide))⟩
    | inr q =>
      rw [ha] at M2
      obtain ⟨w0, hA, j, hj, rfl, hzs⟩ := M2
      have hB2 : RB s2 m body := hB.same (R2.2 4 (by decide) (by decide)) (R2.2 5 (by decide) (by decide))
      have h22 : s2.2 2 m = nI k := by rw [R2.2 2 (by decide) (by decide)]; exact h2
      rw [if_pos w0, g_comes_at (n := n) (k := k) hB2 hmm hk h22 hA (by omega), Option.bind_some]
      have hl1 := mRow_le _ _ _ hr
      have hl2 := mArgs_le _ _ _ _ _ ha
      have hX : (as ++ t :: ts).length = as.length + 1 + ts.length := by
        simp only [List.length_append, List.length_cons]
        omega
      have hjl : q.2.length = as.length + 1 + ts.length - j := by
        rw [← hzs, List.length_drop, hX]
      have hV2 := R2.RV hV0
      have h28 : s2.1 28 = nI dp := (R2.1 28 (by decide)).trans (Eq.trans (by simp only [rput, upd] <;> (repeat rw [if_neg (by omega)])) hdp)
      have h16 : s2.2 16 = st.2 16 := R2.2 16 (by decide) (by decide)
      unfold g_expandName_j226
      dsimp only
      rw [if_pos w0, hV2.size, g_passed_at (n := n) h28 hd (by omega), Option.bind_some, h16, hp, hX, pk_sub (by omega), pk_sub (by omega), pk_sub (by omega), nI_add]
      have hbl := flat_le (k := k) (args := q.1) hk (fun a h1 h3 => (hA a h1 h3).2.1) body
      have hb200 := hB.2.1
      by_cases hr3 : (body.flatMap (mPut k q.1)).length + q.2.length ≤ 3000
      · rw [if_pos (by rw [show (3000 : Int32) = nI 3000 from rfl]; exact nI_le (by omega) (by decide)), if_pos hr3]
        have hsplit : as ++ t :: ts = as ++ ((t :: ts).take (j - as.length)) ++ q.2 := by
          rw [← hzs, List.append_assoc]
          congr 1
          rw [show (as ++ t :: ts).drop j = (t :: ts).drop (j - as.length) by rw [List.drop_append, List.drop_eq_nil_of_le (by omega), List.nil_append], List.take_append_drop]
        have hbl2 : ((t :: ts).take (j - as.length)).length = j - as.length := by
          rw [List.length_take, List.length_cons]
          omega
        have hjj : j = as.length + ((t :: ts).take (j - as.length)).length := by omega
        rw [hsplit] at hV2
        obtain ⟨s3, e3, X3, w3, n3, V3, T3⟩ := g_expandName_end (n := n) (t := t) (v := st.1 22) (sz := sumL q.1 k) hV2 hmm hk h22 hB2 hA (hT0.same (R2.1 25 (by decide)) (R2.2 14 (by decide) (by decide))) w0 ((R2.1 22 (by decide)).trans h220) has hr3 hn
        rw [← hjj] at e3
        exact ⟨s3, e3, (hXf0.tr R2.xf).tr X3, w3, n3, V3, T3⟩
      · rw [if_neg (by rw [show (3000 : Int32) = nI 3000 from rfl]; exact nI_ge (by omega) (by omega)), if_neg hr3, show g_mark 8 s2 = some ((), rMarked 8 s2) from g_mark_at]
        simp only [gbW]
        have w8 : (rMarked 8 s2).1 21 = 8 := rMarked_0 w0
        unfold g_expandName_j264
        dsimp only
        rw [if_neg (show ¬ (rMarked 8 s2).1 21 = 0 by rw [w8]; decide)]
        exact ⟨rMarked 8 s2, rfl, (hXf0.tr R2.xf).tr (rRd.mark s2 8).xf, w8, by decide, ((rRd.mark s2 8).1 22 (by decide)).trans ((R2.1 22 (by decide)).trans h220), (hT0.same (R2.1 25 (by decide)) (R2.2 14 (by decide) (by decide))).same ((rRd.mark s2 8).1 25 (by decide)) rfl⟩
