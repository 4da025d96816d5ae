/-! THE NAMES THAT THE REFERENCE MADE; ITS TURNS -/
theorem ne_0 {c : Int32} {A : aS} (h : c ≠ 0) : (c, A).1 ≠ 0 := h
theorem g_same {n i k : Nat} {st : rS} {w ss : List Int32} (hi : i < 100) (hk : k < 60) (hw8 : w.length ≤ 8) (hs8 : ss.length ≤ 8) (hw : ∀ (j : Nat) (t : Int32), w[j]? = some t → st.2 11 (8 * i + j) = t) (hs : ∀ (j : Nat) (t : Int32), ss[j]? = some t → st.2 15 (8 * k + j) = t) (hn : 20 < n) : gloopW (g_nameOf_b30 n (nI k) (nI ss.length) (nI i)) n (b01 (decide (w.length = ss.length)), 0) st = some (b01 (decide (w = ss)), st) := by
  obtain ⟨b, s1, e, rfl, rfl⟩ := gloopW_rule (body := g_nameOf_b30 n (nI k) (nI ss.length) (nI i)) (fun e x s => s = st ∧ ∃ (j : Nat) (v : Bool), x = (b01 v, nI j) ∧ j ≤ ss.length ∧ e = ss.length - j ∧ (v = true → w.length = ss.length ∧ ∀ q, q < j → w[q]? = ss[q]?) ∧ (v = false → w ≠ ss)) (fun b s => s = st ∧ b = b01 (decide (w = ss)))
    (by
      rintro e x s ⟨rfl, j, v, rfl, hj, rfl, h1, h2⟩
      by_cases he : j = ss.length
      · refine Or.inr ⟨b01 v, s, ?_, rfl, ?_⟩
        · unfold g_nameOf_b30
          dsimp only
          rw [if_pos (nI_le (by omega) (by omega))]
        · cases v with
          | false => rw [decide_eq_false (h2 rfl)]
          | true =>
            obtain ⟨q1, q2⟩ := h1 rfl
            rw [decide_eq_true]
            apply List.ext_getElem?
            intro q
            by_cases hq : q < j
            · exact q2 q hq
            · rw [List.getElem?_eq_none (by omega), List.getElem?_eq_none (by omega)]
      · cases v with
        | false =>
          refine Or.inr ⟨0, s, ?_, rfl, by rw [decide_eq_false (h2 rfl)]; rfl⟩
          unfold g_nameOf_b30
          dsimp only
          rw [if_neg (nI_ge (by omega) (by omega)), if_pos (show b01 false = 0 from rfl)]
          rfl
        | true =>
          obtain ⟨q1, q2⟩ := h1 rfl
          have g1 : w[j]? = some (w[j]'(by omega)) := List.getElem?_eq_getElem (by omega)
          have g2 : ss[j]? = some (ss[j]'(by omega)) := List.getElem?_eq_getElem (by omega)
          have hbd : g_nameOf_b30 n (nI k) (nI ss.length) (nI i) (b01 true, nI j) s = if w[j]'(by omega) = ss[j]'(by omega) then some (.inl (1, nI (j + 1)), s) else some (.inl (0, nI (j + 1)), s) := by
            unfold g_nameOf_b30 g_nameOf_j73
            dsimp only
            rw [if_neg (nI_ge (by omega) (by omega)), if_neg (show ¬ b01 true = 0 by decide), show (8 : Int32) = nI 8 from rfl, pk_mul, nI_add, rget_at (by omega) (by decide), Option.bind_some, pk_mul, nI_add, rget_at (by omega) (by decide), Option.bind_some, hw j _ g1, hs j _ g2, nI_1]
          by_cases heq : w[j]'(by omega) = ss[j]'(by omega)
          · refine Or.inl ⟨(b01 true, nI (j + 1)), ss.length - (j + 1), s, by rw [hbd, if_pos heq]; rfl, by omega, rfl, j + 1, true, rfl, by omega, rfl, fun _ => ⟨q1, fun q hq => ?_⟩, fun q => by cases q⟩
            by_cases hqj : q < j
            · exact q2 q hqj
            · rw [show q = j by omega, g1, g2, heq]
          · refine Or.inl ⟨(b01 false, nI (j + 1)), ss.length - (j + 1), s, by rw [hbd, if_neg heq]; rfl, by omega, rfl, j + 1, false, rfl, by omega, rfl, (fun q => by cases q), fun _ q => heq ?_⟩
            have : w[j]? = ss[j]? := by rw [q]
            rw [g1, g2] at this
            exact Option.some.inj this)
    n ss.length (b01 (decide (w.length = ss.length)), nI 0) st (by omega) ⟨rfl, 0, decide (w.length = ss.length), rfl, by omega, by omega, fun q => ⟨of_decide_eq_true q, fun _ h => by omega⟩, fun q r => by rw [decide_eq_false_iff_not] at q; exact q (by rw [r])⟩
  exact e
theorem g_nameOf_at {n k : Nat} {st : rS} {A : aS} {ss : List Int32} (hNm : rN st A) (hk : k < 60) (hs8 : ss.length ≤ 8) (hs : ∀ (j : Nat) (t : Int32), ss[j]? = some t → st.2 15 (8 * k + j) = t) (hn : 200 < n) : match mSpell (fun i => A.2.1 (100 + i)) ss (A.1 16).toNatClampNeg with
    | some i => g_nameOf n (nI k) (nI ss.length) st = some (nI (1100 + i), st) ∧ i < 100
    | none => if (A.1 16).toNatClampNeg = 100 then g_nameOf n (nI k) (nI ss.length) st = some (0, rMarked 8 st) else ∃ st', g_nameOf n (nI k) (nI ss.length) st = some (nI (1100 + (A.1 16).toNatClampNeg), st') ∧ rN st' (aPi (aPl A (100 + (A.1 16).toNatClampNeg) ss) 16 (nI ((A.1 16).toNatClampNeg + 1))) ∧ (∀ j, j ≠ 16 → st'.1 j = st.1 j) ∧ ∀ j, j ≠ 10 → j ≠ 11 → st'.2 j = st.2 j := by
  obtain ⟨c, hc, hc2, hc3, r⟩ := hNm
  rw [hc2, nI_clamp (by omega)]
  obtain ⟨b, s1, e, rfl, hb⟩ := gloopW_rule (body := g_nameOf_b2 n (nI k) (nI ss.length)) (fun e x s => s = st ∧ ∃ i, e = c - i ∧ i ≤ c ∧ x = nI i ∧ ∀ j, j < i → A.2.1 (100 + j) ≠ ss) (fun b s => s = st ∧ ((∃ i, b = .inl (nI i) ∧ i < c ∧ A.2.1 (100 + i) = ss ∧ ∀ j, j < i → A.2.1 (100 + j) ≠ ss) ∨ (b = .inr () ∧ ∀ j, j < c → A.2.1 (100 + j) ≠ ss)))
    (by
      rintro e x s ⟨rfl, i, rfl, hi, rfl, hj⟩
      by_cases he : i = c
      · refine Or.inr ⟨.inr (), s, ?_, rfl, Or.inr ⟨rfl, by rw [← he]; exact hj⟩⟩
        unfold g_nameOf_b2
        dsimp only
        rw [hc3, if_pos (nI_le (by omega) (by omega))]
      · obtain ⟨r1, r2, r3⟩ := r i (by omega)
        have hbd : g_nameOf_b2 n (nI k) (nI ss.length) (nI i) s = if b01 (decide (A.2.1 (100 + i) = ss)) = 0 then some (.inl (nI (i + 1)), s) else some (.inr (.inl (nI i)), s) := by
          unfold g_nameOf_b2 g_nameOf_j25
          dsimp only
          rw [hc3, if_neg (nI_ge (by omega) (by omega)), rget_at (by omega) (by decide), Option.bind_some, r1]
          have hsm := g_same (n := n) (i := i) (k := k) (w := A.2.1 (100 + i)) (ss := ss) (by omega) hk r2 hs8 r3 hs (by omega)
          by_cases hl : (A.2.1 (100 + i)).length = ss.length
          · rw [decide_eq_true hl] at hsm
            rw [if_pos (by rw [hl]), show (1 : Int32) = b01 true from rfl, hsm]
            simp only [gbW]
            rw [show (b01 true) = (1 : Int32) from rfl, nI_1]
          · rw [decide_eq_false hl] at hsm
            rw [if_neg (fun q => hl ((nI_eq (by omega) (by omega)).mp q)), show (gloopW (g_nameOf_b30 n (nI k) (nI ss.length) (nI i)) n ((0 : Int32), (0 : Int32)) s) = _ from hsm]
            simp only [gbW]
            rw [nI_1]
        by_cases heq : A.2.1 (100 + i) = ss
        · refine Or.inr ⟨.inl (nI i), s, ?_, rfl, Or.inl ⟨i, rfl, by omega, heq, hj⟩⟩
          rw [hbd, decide_eq_true heq]
          rfl
        · refine Or.inl ⟨nI (i + 1), c - (i + 1), s, ?_, by omega, rfl, i + 1, rfl, by omega, rfl, fun j hj2 => ?_⟩
          · rw [hbd, decide_eq_false heq]
            rfl
          · by_cases hji : j < i
            · exact hj j hji
            · rw [show j = i by omega]
              exact heq)
    n c (nI 0) st (by omega) ⟨rfl, 0, by omega, by omega, rfl, fun j hj => by omega⟩
  rw [show nI 0 = (0 : Int32) from rfl] at e
  rcases hb with ⟨i, rfl, hi, heq, hj⟩ | ⟨rfl, hj⟩
  · rw [mSpell_some hi heq hj]
    refine ⟨?_, by omega⟩
    unfold g_nameOf
    rw [e]
    simp only [gbW]
    rw [show (1100 : Int32) + nI i = nI (1100 + i) from nI_add 1100 i]
  · rw [mSpell_none hj]
    dsimp only
    by_cases h100 : c = 100
    · rw [if_pos h100]
      unfold g_nameOf
      rw [e]
      simp only [gbW]
      rw [hc3, h100, if_pos (show nI 100 = (100 : Int32) from rfl), g_mark_at]
      rfl
    · rw [if_neg h100]
      obtain ⟨b2, s2, e2, f1, f2, f3⟩ := gloopW_rule (body := g_nameOf_b117 n (nI k) (nI ss.length)) (fun e x s => ∃ i, e = ss.length - i ∧ i ≤ ss.length ∧ x = nI i ∧ s.1 = s1.1 ∧ (∀ j, j ≠ 11 → s.2 j = s1.2 j) ∧ ∀ q, s.2 11 q = if 8 * c ≤ q ∧ q < 8 * c + i then s1.2 15 (8 * k + (q - 8 * c)) else s1.2 11 q) (fun _ s => s.1 = s1.1 ∧ (∀ j, j ≠ 11 → s.2 j = s1.2 j) ∧ ∀ q, s.2 11 q = if 8 * c ≤ q ∧ q < 8 * c + ss.length then s1.2 15 (8 * k + (q - 8 * c)) else s1.2 11 q)
        (by
          rintro e x s ⟨i, rfl, hi, rfl, g1, g2, g3⟩
          by_cases he : i = ss.length
          · refine Or.inr ⟨(), s, ?_, g1, g2, by rw [← he]; exact g3⟩
            unfold g_nameOf_b117
            dsimp only
            rw [if_pos (nI_le (by omega) (by omega))]
          · refine Or.inl ⟨nI (i + 1), ss.length - (i + 1), (s.1, fun q => if q = 11 then upd (s.2 11) (8 * c + i) (s.2 15 (8 * k + i)) else s.2 q), ?_, by omega, i + 1, rfl, by omega, rfl, g1, ?_, ?_⟩
            · unfold g_nameOf_b117
              dsimp only
              rw [if_neg (nI_ge (by omega) (by omega)), show s.1 16 = nI c by rw [g1]; exact hc3, show (8 : Int32) = nI 8 from rfl, pk_mul, nI_add, rget_at (by omega) (by decide), Option.bind_some, pk_mul, nI_add, rset_at (by omega) (by decide), Option.bind_some, nI_1]
            · intro j hj2
              show (if j = 11 then _ else s.2 j) = _
              rw [if_neg hj2]
              exact g2 j hj2
            · intro q
              show (if 11 = 11 then upd (s.2 11) (8 * c + i) (s.2 15 (8 * k + i)) else s.2 11) q = _
              rw [if_pos rfl]
              by_cases hq : q = 8 * c + i
              · subst hq
                rw [upd_same, if_pos ⟨by omega, by omega⟩, g2 15 (by decide), show 8 * k + (8 * c + i - 8 * c) = 8 * k + i by omega]
              · rw [upd_other hq, g3 q]
                by_cases hq2 : 8 * c ≤ q ∧ q < 8 * c + i
                · rw [if_pos hq2, if_pos ⟨by omega, by omega⟩]
                · rw [if_neg hq2, if_neg (fun w => hq2 ⟨w.1, by omega⟩)])
        n ss.length (nI 0) s1 (by omega) ⟨0, by omega, by omega, rfl, rfl, fun _ _ => rfl, fun q => by rw [if_neg (fun w => by omega)]⟩
      rw [show nI 0 = (0 : Int32) from rfl] at e2
      have h16 : s2.1 16 = nI c := by rw [f1]; exact hc3
      refine ⟨rput (s2.1, fun q => if q = 10 then upd (s2.2 10) c (nI ss.length) else s2.2 q) 16 (nI (c + 1)), ?_, ⟨c + 1, by omega, rfl, rfl, fun i hi => ?_⟩, fun j hj2 => ?_, fun j h1 h2 => ?_⟩
      · unfold g_nameOf
        rw [e]
        simp only [gbW]
        rw [hc3, if_neg (show ¬ nI c = (100 : Int32) from fun q => h100 ((nI_eq (b := 100) (by omega) (by decide)).mp q)), e2]
        simp only [gbW]
        rw [h16, rset_at (by omega) (by decide), Option.bind_some]
        dsimp only
        rw [h16, nI_1, show (rput (s2.1, fun q => if q = 10 then upd (s2.2 10) c (nI ss.length) else s2.2 q) 16 (nI (c + 1))).1 16 = nI (c + 1) from rfl, show (1099 : Int32) + nI (c + 1) = nI (1100 + c) by rw [show (1099 : Int32) = nI 1099 from rfl, nI_add]; congr 1; omega]
      · show (if 10 = 10 then upd (s2.2 10) c (nI ss.length) else s2.2 10) i = nI ((va_up A.2.1 (100 + c) ss) (100 + i)).length ∧ ((va_up A.2.1 (100 + c) ss) (100 + i)).length ≤ 8 ∧ ∀ (j : Nat) (t : Int32), ((va_up A.2.1 (100 + c) ss) (100 + i))[j]? = some t → (if 11 = 10 then upd (s2.2 10) c (nI ss.length) else s2.2 11) (8 * i + j) = t
        rw [if_pos rfl, if_neg (by decide)]
        by_cases hic : i = c
        · subst hic
          rw [va_up_self, upd_same]
          refine ⟨rfl, hs8, fun j t hjt => ?_⟩
          have hjl := (List.getElem?_eq_some_iff.mp hjt).1
          rw [f3, if_pos ⟨by omega, by omega⟩, show 8 * k + (8 * i + j - 8 * i) = 8 * k + j by omega]
          exact hs j t hjt
        · obtain ⟨r1, r2, r3⟩ := r i (by omega)
          rw [va_up_ne _ _ (by omega), upd_other hic, f2 10 (by decide)]
          refine ⟨r1, r2, fun j t hjt => ?_⟩
          have hjl := (List.getElem?_eq_some_iff.mp hjt).1
          rw [f3, if_neg (fun w => by omega)]
          exact r3 j t hjt
      · show upd s2.1 16 (nI (c + 1)) j = s1.1 j
        rw [upd_other hj2, f1]
      · show (if j = 10 then _ else s2.2 j) = s1.2 j
        rw [if_neg h1]
        exact f2 j h2
/-- a frame less, in the reference -/
theorem RFr.pop {st st' : rS} {A : aS} (B : aS) (h : RFr st A) (h0 : 0 < (A.2.1 8).length) (h8 : B.2.1 8 = aFs A) (hs : ∀ j, 200 ≤ j → j < 250 → B.2.1 j = A.2.1 j) (h28 : st'.1 28 = nI ((A.2.1 8).length - 1)) (hj : ∀ j, 15 ≤ j → j ≤ 18 → st'.2 j = st.2 j) (hV : RV st' (pas (aFs A) ++ B.2.1 0)) : RFr st' B := by
  obtain ⟨q1, q2, q3, q4⟩ := h
  have hlen : (B.2.1 8).length = (A.2.1 8).length - 1 := by
    rw [h8]
    unfold aFs
    rw [List.length_dropLast]
  refine ⟨by rw [hlen]; exact h28, by omega, by rw [h8]; exact hV, fun i t hi => ?_⟩
  have hil := (List.getElem?_eq_some_iff.mp hi).1
  rw [h8] at hi
  unfold aFs at hi
  rw [List.getElem?_dropLast, if_pos (by omega)] at hi
  obtain ⟨w1, w2⟩ := q4 i t hi
  rw [hj 16 (by omega) (by omega), hj 17 (by omega) (by omega), hj 18 (by omega) (by omega), hj 15 (by omega) (by omega), hs (200 + i) (by omega) (by omega), h8]
  unfold aFs
  rw [List.dropLast_eq_take, List.take_take, Nat.min_eq_left (by omega)]
  exact ⟨w1, w2⟩
theorem last_split {fs : List Int32} {t : Int32} (h0 : 0 < fs.length) (ht : fs[fs.length - 1]? = some t) : fs = fs.dropLast ++ [t] := by
  have hne : fs ≠ [] := fun q => by rw [q] at h0; simp at h0
  have := List.dropLast_concat_getLast hne
  rw [List.getLast_eq_getElem hne] at this
  rw [List.getElem?_eq_getElem (by omega)] at ht
  rw [Option.some.inj ht] at this
  exact this.symm
theorem g_goOn_at {n N : Nat} {res : Int32 × aS} {st : rS} {A : aS} (hn : 7000 < n) (hN : N + 2 ≤ n) (hQ : RQ st A) (hi : aInv A) (h4 : A.1 4 = 0) (h0 : 0 < (A.2.1 8).length) (hL : eLoop N (eTurn A) = some res) : ∃ st', g_goOn n st = some ((), st') ∧ gOut N res st' ∧ F19 st st' := by
  obtain ⟨hX, hF, h24, h21⟩ := id hQ
  obtain ⟨hNm, hst, hp, hl, hb, h50, hf, hc⟩ := id hi
  obtain ⟨t0, ht0, htl⟩ := getLast_of h0
  have htop : aTop A = t0 := by
    unfold aTop
    rw [htl]
    rfl
  have hsplit : A.2.1 8 = aFs A ++ [t0] := last_split h0 ht0
  have hF16 : ∀ (i : Nat) (t : Int32), (A.2.1 8)[i]? = some t → st.2 16 i = (if t = -1 then 262 else 261) := fun i t q => (hF.2.2.2 i t q).1
  have hfl : (aFs A).length = (A.2.1 8).length - 1 := by
    unfold aFs
    rw [List.length_dropLast]
  have htk : (A.2.1 8).take ((A.2.1 8).length - 1) = aFs A := by
    unfold aFs
    rw [List.dropLast_eq_take]
  have hPl : (pas (aFs A)).length ≤ 50 := Nat.le_trans (List.length_filter_le _ _) (by omega)
  have hpas : pas (A.2.1 8) = pas (aFs A) ++ (if t0 = -1 then [] else [t0]) := by
    rw [hsplit, pas_snoc]
  have hV := hF.2.2.1
  have hVle := hV.le
  have hsub : nI (A.2.1 8).length - 1 = nI ((A.2.1 8).length - 1) := pk_sub (b := 1) (by omega)
  unfold g_goOn
  dsimp only
  rw [hF.1, hsub, rget_at (by omega) (by decide), Option.bind_some, hF16 _ _ ht0]
  have hinvT : (eTurn A).1 = 0 → aInv (eTurn A).2 := fun q => (eTurn_inv hi h0 q).1
  by_cases hm : t0 = -1
  · rw [if_pos hm, if_neg (by decide)]
    subst hm
    rw [if_pos rfl, List.append_nil] at hpas
    obtain ⟨w1, w2, w3, w4⟩ := (hF.2.2.2 _ _ ht0).2 rfl
    rw [htk] at w1
    rw [hpas] at hV hVle
    rw [rget_at (by omega) (by decide), Option.bind_some, w1, rputZ_at (Or.inl rfl), Option.bind_some]
    have hV7 : RV (rput st 24 0) (pas (aFs A) ++ A.2.1 0) := hV.same ((by simp only [aPi, aPl, aPt, rput, va_up, upd] <;> (repeat rw [if_neg (by omega)]))) ((by simp only [aPi, aPl, aPt, rput, va_up, upd] <;> (repeat rw [if_neg (by omega)]))) rfl
    have hX7 : RX (rput st 24 0) A := hX.k (rK_put st 24 0 (by decide)) ((by simp only [aPi, aPl, aPt, rput, va_up, upd] <;> (repeat rw [if_neg (by omega)]))) ((by simp only [aPi, aPl, aPt, rput, va_up, upd] <;> (repeat rw [if_neg (by omega)]))) ((by simp only [aPi, aPl, aPt, rput, va_up, upd] <;> (repeat rw [if_neg (by omega)]))) rfl
    have h217 : (rput st 24 0).1 21 = 0 := Eq.trans (by simp only [aPi, aPl, aPt, rput, va_up, upd] <;> (repeat rw [if_neg (by omega)])) h21
    rw [hV7.size]
    simp only [List.length_append] at hVle ⊢
    have hturn : eTurn A = if aCan (aPi A 4 0) = true then eFirst (aPi A 4 0) else eGo (aPi A 4 0) := by
      unfold eTurn eTurnB
      rw [htop, decide_eq_true (rfl : (-1 : Int32) = -1), Bool.true_or, Bool.true_and]
      rfl
    generalize hP : (pas (aFs A)).length = P at hVle hPl ⊢
    cases hx : A.2.1 0 with
    | nil =>
      have hcan : aCan (aPi A 4 0) = false := by
        unfold aCan
        rw [show (aPi A 4 0).2.1 0 = [] from hx]
        simp
      have hgo : eGo (aPi A 4 0) = (1, aPi A 4 0) := by
        unfold eGo
        rw [show (aPi A 4 0).2.1 0 = [] from hx]
      rw [hturn, hcan, if_neg (by decide), hgo] at hL
      have hr := eLoop_c hL (by decide)
      subst hr
      rw [if_neg (nI_nlt (by simp) (by omega)), g_mark_at]
      exact ⟨rMarked 1 (rput st 24 0), rfl, Or.inr ⟨rMarked_0 h217, ne_0 (by decide), (hX7.pi 4 0 (by decide)).mark 1⟩, fun _ _ => rfl⟩
    | cons t ts =>
      rw [hx] at hV7 hVle
      simp only [List.length_cons] at hVle ⊢
      rw [if_pos (nI_lt (by omega) (by omega)), h24]
      have hget : (pas (aFs A) ++ t :: ts)[P]? = some t := by
        rw [List.getElem?_append_right (by omega), hP, Nat.sub_self]
        rfl
      have hcan0 : aCan (aPi A 4 0) = (decide (A.1 3 = 0) && aHas A t) := by
        unfold aCan
        rw [show (aPi A 4 0).2.1 0 = t :: ts from hx]
        rfl
      have hg := hV7.get hget
      rw [RQ.can hX7.2.2.2.2.1 hg, Option.bind_some]
      have hjn : ∀ (y : aCan (aPi A 4 0) = false), ∃ st', g_goOn_j105 n (nI ((A.2.1 8).length - 1)) (nI P) (rput st 24 0) = some ((), st') ∧ gOut N res st' ∧ F19 st st' := by
        intro hcan
        rw [hturn, hcan, if_neg (by decide)] at hL hinvT
        obtain ⟨k, hk⟩ : ∃ k, (A.2.1 8).length = k + 1 := ⟨(A.2.1 8).length - 1, by omega⟩
        have hgo : eGo (aPi A 4 0) = eSign (aPi (aPl (aPi A 4 0) 0 ts) 3 0) t (A.2.1 (200 + k)) k := by
          unfold eGo
          rw [show (aPi A 4 0).2.1 0 = t :: ts from hx]
          dsimp only
          rw [show ((aPi A 4 0).2.1 8).length = k + 1 from hk]
          rfl
        rw [hgo] at hL hinvT
        rw [hk, Nat.add_sub_cancel] at w2 w3 w4 ht0 ⊢
        have hXC : RX (rput st 24 0) (aPi (aPl (aPi A 4 0) 0 ts) 3 0) := ((hX7.pi 4 0 (by decide)).pl 0 ts (by omega)).pi 3 0 (by decide)
        have hFC : RFr (rput st 24 0) (aPi A 4 0) := hF.to (aPi A 4 0) rfl (fun _ _ _ => rfl) ((by simp only [aPi, aPl, aPt, rput, va_up, upd] <;> (repeat rw [if_neg (by omega)]))) (fun _ _ _ => rfl) (by rw [hpas, show (aPi A 4 0).2.1 0 = t :: ts from hx]; exact hV7)
        generalize hC : aPi (aPl (aPi A 4 0) 0 ts) 3 0 = C at hL hinvT hXC
        have hC0 : C.2.1 0 = ts := by rw [← hC]; rfl
        have hC8 : C.2.1 8 = A.2.1 8 := by rw [← hC]; rfl
        have hC3 : C.1 3 = 0 := by rw [← hC]; rfl
        have hC4 : C.1 4 = 0 := by rw [← hC]; rfl
        have hC16 : C.1 16 = A.1 16 := by rw [← hC]; rfl
        have hCs : ∀ j, j ≠ 0 → C.2.1 j = A.2.1 j := fun j hj => by rw [← hC]; exact va_up_ne _ _ hj
        have hCfs : aFs C = aFs A := by
          unfold aFs
          rw [hC8]
        unfold eSign at hL hinvT
        unfold g_goOn_j105 g_goOn_j164
        rw [hg, Option.bind_some, rget_at (by omega) (by decide), Option.bind_some, show (rput st 24 0).2 18 k = nI (A.2.1 (200 + k)).length from w2]
        have hbad : g_goOn_j165 n (nI k) (nI P) t (nI (A.2.1 (200 + k)).length) 0 (rput st 24 0) = some ((), rMarked 4 (rput st 24 0)) := by
          unfold g_goOn_j165
          rw [if_pos rfl, g_mark_at]
          rfl
        have hVs : pas (aFs A) ++ t :: ts = pas (aFs A) ++ [t] ++ ts := by simp
        obtain ⟨s2, e2, V2, f2, q2⟩ := RV.take (n := n) (st := rput st 24 0) (as := pas (aFs A)) (bs := [t]) (cs := ts) (by rw [← hVs]; exact hV7) (by omega)
        rw [hP] at e2
        have e2' : g_take n (nI P) 1 (rput st 24 0) = some ((), s2) := e2
        have hK2 : rK (rput st 24 0) s2 := rK_ring f2 q2
        have hX2 : RX s2 C := hXC.k hK2 (f2 23 (by decide) (by decide)) (f2 22 (by decide) (by decide)) (f2 25 (by decide) (by decide)) (q2 14 (by decide))
        have h212 : s2.1 21 = 0 := (f2 21 (by decide) (by decide)).trans h217
        have h282 : s2.1 28 = nI (k + 1) := by
          rw [f2 28 (by decide) (by decide), show (rput st 24 0).1 28 = st.1 28 from rfl, hF.1, hk]
        have h242 : s2.1 24 = 0 := (f2 24 (by decide) (by decide)).trans rfl
        by_cases h263 : t = 263
        · rw [if_pos h263] at hL hinvT ⊢
          by_cases hs0 : (A.2.1 (200 + k)).length = 0
          · rw [if_pos hs0] at hL
            have hr := eLoop_c hL (by decide)
            subst hr
            rw [if_pos (by rw [hs0]; decide), hbad]
            exact ⟨_, rfl, Or.inr ⟨rMarked_0 h217, ne_0 (by decide), hXC.mark 4⟩, fun _ _ => rfl⟩
          · rw [if_neg hs0] at hL hinvT
            rw [if_neg (nI_nle (by omega) (by omega))]
            unfold g_goOn_j165
            rw [if_neg (by decide), e2']
            simp only [gbW]
            rw [if_pos h263]
            have hsign : ∀ (j : Nat) (u : Int32), (A.2.1 (200 + k))[j]? = some u → s2.2 15 (8 * k + j) = u := fun j u hu => by
              rw [q2 15 (by decide)]
              exact w4 j u hu
            have hnm := g_nameOf_at (n := n) (k := k) (ss := A.2.1 (200 + k)) hX2.2.2.2.2.2.1 (by omega) w3 hsign (by omega)
            unfold eEnd at hL hinvT
            -- what comes after the name's number
            have hgood : ∀ (D : aS) (i : Nat) (s3 : rS), i ≤ 100 → rN s3 D → (∀ j, j ≠ 16 → s3.1 j = s2.1 j) → (∀ j, j ≠ 10 → j ≠ 11 → s3.2 j = s2.2 j) → (∀ j, j < 100 ∨ 200 ≤ j → D.2.1 j = C.2.1 j) → D.2.2 = C.2.2 → (∀ j, j ≠ 16 → D.1 j = C.1 j) → aInv (aPl (aPl D 8 (aFs C)) 0 (nI (1100 + i) :: C.2.1 0)) → eLoop N (0, aPl (aPl D 8 (aFs C)) 0 (nI (1100 + i) :: C.2.1 0)) = some res → ∃ st', (gbW (g_spread n (nI P) 1 s3) fun _ h236 => gbW (g_set (nI P) (nI (1100 + i)) h236) fun _ h243 => some ((), rput h243 28 (h243.1 28 - 1))) = some ((), st') ∧ gOut N res st' ∧ F19 st st' := by
              intro D i s3 hi100 hN3 k1 k2 hD hD2 hDi hinvD hLD
              have V3 : RV s3 (pas (aFs A) ++ ts) := V2.same (k1 2 (by decide)) (k1 3 (by decide)) (k2 0 (by decide) (by decide))
              obtain ⟨s4, gap, hgl, e4, V4, f4, q4⟩ := V3.spread (n := n) (many := 1) (by omega) (by omega)
              obtain ⟨g, rfl⟩ : ∃ g, gap = [g] := by
                cases gap with
                | nil => simp at hgl
                | cons g gs =>
                  cases gs with
                  | nil => exact ⟨g, rfl⟩
                  | cons _ _ => simp at hgl
              rw [List.append_assoc] at V4
              obtain ⟨s5, e5, V5, f5, q5⟩ := RV.set (t := nI (1100 + i)) V4
              rw [hP] at e4 e5
              have e4' : g_spread n (nI P) 1 s3 = some ((), s4) := e4
              rw [e4']
              simp only [gbW]
              rw [e5]
              simp only [gbW]
              have h285 : s5.1 28 = nI (k + 1) := by rw [f5, f4 28 (by decide) (by decide), k1 28 (by decide), h282]
              have hK5 : rK s3 (rput s5 28 (s5.1 28 - 1)) := ⟨fun j hj => Eq.trans (by simp only [aPi, aPl, aPt, rput, va_up, upd] <;> (repeat rw [if_neg (by omega)])) (by rw [f5]; exact f4 j (by omega) (by omega)), fun j h1 h2 => (q5 j (by omega)).trans (q4 j (by omega))⟩
              refine ⟨_, rfl, Or.inl ⟨?_, _, N, Nat.le_refl _, ⟨⟨?_, ?_, ?_, ?_, ?_, ?_, ?_, ?_, ?_⟩, ?_, ?_, ?_⟩, hinvD, ?_, hLD⟩, fun j hj => (q5 j (by omega)).trans ((q4 j (by omega)).trans ((k2 j (by omega) (by omega)).trans (q2 j (by omega))))⟩
              · rw [show (rput s5 28 (s5.1 28 - 1)).1 21 = s5.1 21 from rfl, f5, f4 21 (by decide) (by decide), k1 21 (by decide)]
                exact h212
              · rw [hK5.1 0 (by omega), k1 0 (by decide), hX2.1]
                exact (hDi 0 (by decide)).symm
              · rw [show (rput s5 28 (s5.1 28 - 1)).1 23 = s5.1 23 from rfl, f5, f4 23 (by decide) (by decide), k1 23 (by decide), hX2.2.1]
                exact (hDi 1 (by decide)).symm
              · rw [show (rput s5 28 (s5.1 28 - 1)).1 22 = s5.1 22 from rfl, f5, f4 22 (by decide) (by decide), k1 22 (by decide), hX2.2.2.1]
                exact (hDi 2 (by decide)).symm
              · show RT _ D.2.2.2
                rw [hD2]
                refine hX2.2.2.2.1.same ?_ ?_
                · rw [show (rput s5 28 (s5.1 28 - 1)).1 25 = s5.1 25 from rfl, f5, f4 25 (by decide) (by decide), k1 25 (by decide)]
                · rw [show (rput s5 28 (s5.1 28 - 1)).2 14 = s5.2 14 from rfl, q5 14 (by decide), q4 14 (by decide), k2 14 (by decide) (by decide)]
              · have hlist : ∀ j, j ≠ 0 → j ≠ 8 → (j < 100 ∨ 200 ≤ j) → (aPl (aPl D 8 (aFs C)) 0 (nI (1100 + i) :: C.2.1 0)).2.1 j = C.2.1 j := fun j h1 h2 h3 => by
                  show va_up (va_up D.2.1 8 (aFs C)) 0 _ j = _
                  rw [va_up_ne _ _ h1, va_up_ne _ _ h2]
                  exact hD j h3
                exact (hX2.2.2.2.2.1.k ((hK5.1 6 (by omega)).trans (k1 6 (by decide))) ((hK5.1 14 (by omega)).trans (k1 14 (by decide))) (fun j h1 h2 => (hK5.2 j (by omega) (by omega)).trans (k2 j (by omega) (by omega)))).abs (hlist 2 (by decide) (by decide) (by decide)) (hlist 3 (by decide) (by decide) (by decide)) (fun j hj => hlist j (by omega) (by omega) (by omega)) (by show D.2.2.1 = _; rw [hD2]) (hDi 15 (by decide))
              · exact (hN3.k (hK5.1 16 (by omega)) (hK5.2 10 (by omega) (by omega)) (hK5.2 11 (by omega) (by omega))).abs rfl (fun j h1 h2 => by
                  show va_up (va_up D.2.1 8 (aFs C)) 0 _ j = _
                  rw [va_up_ne _ _ (by omega), va_up_ne _ _ (by omega)])
              · show RO _ (va_up (va_up D.2.1 8 (aFs C)) 0 (nI (1100 + i) :: C.2.1 0) 1)
                rw [va_up_ne _ _ (by decide), va_up_ne _ _ (by decide), hD 1 (by decide)]
                exact hX2.2.2.2.2.2.2.1.same ((hK5.1 4 (by omega)).trans (k1 4 (by decide))) ((hK5.2 1 (by omega) (by omega)).trans (k2 1 (by decide) (by decide)))
              · rw [hK5.1 32 (by omega), k1 32 (by decide), hX2.2.2.2.2.2.2.2.1]
                exact (hDi 8 (by decide)).symm
              · rw [hK5.1 33 (by omega), k1 33 (by decide), hX2.2.2.2.2.2.2.2.2]
                exact (hDi 9 (by decide)).symm
              · refine hFC.pop _ (by show 0 < (A.2.1 8).length; omega) ?_ (fun j h1 h2 => ?_) ?_ (fun j h1 h2 => ?_) ?_
                · exact hCfs
                · show va_up (va_up D.2.1 8 (aFs C)) 0 _ j = A.2.1 j
                  rw [va_up_ne _ _ (by omega), va_up_ne _ _ (by omega), hD j (by omega), hCs j (by omega)]
                · show upd s5.1 28 (s5.1 28 - 1) 28 = nI ((A.2.1 8).length - 1)
                  rw [upd_same, h285, nI_pred, hk, Nat.add_sub_cancel]
                · show s5.2 j = (rput st 24 0).2 j
                  rw [q5 j (by omega), q4 j (by omega), k2 j (by omega) (by omega), q2 j (by omega)]
                · show RV _ (pas (aFs A) ++ nI (1100 + i) :: C.2.1 0)
                  rw [hC0]
                  exact V5.same ((by simp only [aPi, aPl, aPt, rput, va_up, upd] <;> (repeat rw [if_neg (by omega)]))) ((by simp only [aPi, aPl, aPt, rput, va_up, upd] <;> (repeat rw [if_neg (by omega)]))) rfl
              · rw [show (rput s5 28 (s5.1 28 - 1)).1 24 = s5.1 24 from rfl, f5, f4 24 (by decide) (by decide), k1 24 (by decide), h242]
                exact ((hDi 3 (by decide)).trans hC3).symm
              · rw [show (rput s5 28 (s5.1 28 - 1)).1 21 = s5.1 21 from rfl, f5, f4 21 (by decide) (by decide), k1 21 (by decide)]
                exact h212
              · exact (hDi 4 (by decide)).trans hC4
            cases hsp : mSpell (fun i => C.2.1 (100 + i)) (A.2.1 (200 + k)) (C.1 16).toNatClampNeg with
            | some i =>
              rw [hsp] at hnm hL hinvT
              obtain ⟨en, hi2⟩ := hnm
              rw [en]
              simp only [gbW]
              rw [if_pos h212]
              exact hgood C i s2 (by omega) hX2.2.2.2.2.2.1 (fun _ _ => rfl) (fun _ _ _ => rfl) (fun _ _ => rfl) rfl (fun _ _ => rfl) (hinvT rfl) hL
            | none =>
              rw [hsp] at hnm hL hinvT
              dsimp only at hnm hL hinvT
              by_cases h100 : (C.1 16).toNatClampNeg = 100
              · rw [if_pos h100] at hnm hL
                have hr := eLoop_c hL (by decide)
                subst hr
                rw [hnm]
                simp only [gbW]
                rw [if_neg (by rw [rMarked_0 h212]; decide)]
                exact ⟨_, rfl, Or.inr ⟨rMarked_0 h212, ne_0 (by decide), hX2.mark 8⟩, fun j hj => q2 j (by omega)⟩
              · rw [if_neg h100] at hnm hL hinvT
                obtain ⟨s3, en, hN3, k1, k2⟩ := hnm
                rw [en]
                simp only [gbW]
                rw [if_pos ((k1 21 (by decide)).trans h212)]
                have hc100 : (C.1 16).toNatClampNeg ≤ 100 := by
                  obtain ⟨c, hc1, hc2⟩ := hc
                  rw [hC16, hc2, nI_clamp (by omega)]
                  exact hc1
                exact hgood (aPi (aPl C (100 + (C.1 16).toNatClampNeg) (A.2.1 (200 + k))) 16 (nI ((C.1 16).toNatClampNeg + 1))) (C.1 16).toNatClampNeg s3 hc100 hN3 k1 k2 (fun j hj => (by simp only [aPi, aPl, aPt, rput, va_up, upd] <;> (repeat rw [if_neg (by omega)]))) rfl (fun j hj => (by simp only [aPi, aPl, aPt, rput, va_up, upd] <;> (repeat rw [if_neg (by omega)]))) (hinvT rfl) hL
        · rw [if_neg h263] at hL hinvT ⊢
          rw [g_in_at, Option.bind_some]
          by_cases hsn : 0 ≤ t ∧ t ≤ 255
          · rw [decide_eq_true hsn, if_neg (by decide)]
            by_cases h8 : (A.2.1 (200 + k)).length < 8
            · rw [if_pos ⟨hsn.1, hsn.2, h8⟩] at hL hinvT
              rw [if_neg (show ¬ (8 : Int32) ≤ _ from nI_ge (b := 8) h8 (by decide))]
              unfold g_goOn_j165
              rw [if_neg (by decide), e2']
              simp only [gbW]
              rw [if_neg h263, show (8 : Int32) = nI 8 from rfl, pk_mul, nI_add, rset_at (by omega) (by decide), Option.bind_some, rget_at (by omega) (by decide), Option.bind_some]
              have w18 : s2.2 18 k = nI (A.2.1 (200 + k)).length := by rw [q2 18 (by decide)]; exact w2
              rw [show ((s2.1, fun q => if q = 15 then upd (s2.2 15) (8 * k + (A.2.1 (200 + k)).length) t else s2.2 q) : rS).2 18 k = nI (A.2.1 (200 + k)).length from w18, nI_1, rset_at (by omega) (by decide), Option.bind_some]
              have hK6 : rK s2 (s2.1, fun q => if q = 18 then upd (if (18 : Nat) = 15 then upd (s2.2 15) (8 * k + (A.2.1 (200 + k)).length) t else s2.2 18) k (nI ((A.2.1 (200 + k)).length + 1)) else if q = 15 then upd (s2.2 15) (8 * k + (A.2.1 (200 + k)).length) t else s2.2 q) := ⟨fun _ _ => rfl, fun j h1 h2 => by show (if j = 18 then _ else if j = 15 then _ else s2.2 j) = s2.2 j; rw [if_neg (by omega), if_neg (by omega)]⟩
              refine ⟨_, rfl, Or.inl ⟨h212, _, N, Nat.le_refl _, ⟨(hX2.pl _ _ (by omega)).k hK6 rfl rfl rfl rfl, ?_, ?_, h212⟩, hinvT rfl, hC4, hL⟩, fun j hj => by
                show (if j = 18 then _ else if j = 15 then _ else s2.2 j) = st.2 j
                rw [if_neg (by omega), if_neg (by omega)]
                exact q2 j (by omega)⟩
              · have hlist : ∀ j, j ≠ 200 + k → (aPl C (200 + k) (A.2.1 (200 + k) ++ [t])).2.1 j = C.2.1 j := fun j h1 => va_up_ne _ _ h1
                refine ⟨?_, ?_, ?_, fun i u hu => ?_⟩
                · rw [hlist 8 (by omega), hC8, hk]
                  exact h282
                · rw [hlist 8 (by omega), hC8]
                  exact h50
                · rw [hlist 8 (by omega), hlist 0 (by omega), hC8, hC0, hpas]
                  exact V2.same rfl rfl rfl
                · rw [hlist 8 (by omega), hC8] at hu ⊢
                  have hul := (List.getElem?_eq_some_iff.mp hu).1
                  obtain ⟨y1, y2⟩ := hF.2.2.2 i u hu
                  refine ⟨?_, fun q => ?_⟩
                  · show s2.2 16 i = _
                    rw [q2 16 (by decide)]
                    exact y1
                  · obtain ⟨y3, y4, y5, y6⟩ := y2 q
                    refine ⟨?_, ?_, ?_, ?_⟩
                    · show s2.2 17 i = _
                      rw [q2 17 (by decide)]
                      exact y3
                    · show upd (s2.2 18) k (nI ((A.2.1 (200 + k)).length + 1)) i = nI ((va_up C.2.1 (200 + k) (A.2.1 (200 + k) ++ [t])) (200 + i)).length
                      by_cases hik : i = k
                      · subst hik
                        rw [upd_same, va_up_self, List.length_append]
                        rfl
                      · rw [upd_other hik, va_up_ne _ _ (by omega), q2 18 (by decide), hCs (200 + i) (by omega)]
                        exact y4
                    · show ((va_up C.2.1 (200 + k) (A.2.1 (200 + k) ++ [t])) (200 + i)).length ≤ 8
                      by_cases hik : i = k
                      · subst hik
                        rw [va_up_self, List.length_append]
                        exact h8
                      · rw [va_up_ne _ _ (by omega), hCs (200 + i) (by omega)]
                        exact y5
                    · intro j v hv
                      have hv' : ((va_up C.2.1 (200 + k) (A.2.1 (200 + k) ++ [t])) (200 + i))[j]? = some v := hv
                      show upd (s2.2 15) (8 * k + (A.2.1 (200 + k)).length) t (8 * i + j) = v
                      by_cases hik : i = k
                      · subst hik
                        rw [va_up_self] at hv'
                        by_cases hjl : j < (A.2.1 (200 + i)).length
                        · rw [List.getElem?_append_left hjl] at hv'
                          rw [upd_other (by omega), q2 15 (by decide)]
                          exact y6 j v hv'
                        · rw [List.getElem?_append_right (by omega)] at hv'
                          have hj0 : j = (A.2.1 (200 + i)).length := by
                            have := (List.getElem?_eq_some_iff.mp hv').1
                            simp at this
                            omega
                          rw [hj0, upd_same]
                          exact (List.mem_singleton.mp (List.mem_of_getElem? hv')).symm
                      · rw [va_up_ne _ _ (by omega), hCs (200 + i) (by omega)] at hv'
                        have hjl := (List.getElem?_eq_some_iff.mp hv').1
                        rw [upd_other (by omega), q2 15 (by decide)]
                        exact y6 j v hv'
              · show s2.1 24 = C.1 3
                rw [h242, hC3]
            · rw [if_neg (fun q => h8 q.2.2)] at hL
              have hr := eLoop_c hL (by decide)
              subst hr
              rw [if_pos (show (8 : Int32) ≤ _ from nI_le (a := 8) (by omega) (by omega)), hbad]
              exact ⟨_, rfl, Or.inr ⟨rMarked_0 h217, ne_0 (by decide), hXC.mark 4⟩, fun _ _ => rfl⟩
          · rw [if_neg (fun q => hsn ⟨q.1, q.2.1⟩)] at hL
            have hr := eLoop_c hL (by decide)
            subst hr
            rw [decide_eq_false hsn, if_pos (by decide), hbad]
            exact ⟨_, rfl, Or.inr ⟨rMarked_0 h217, ne_0 (by decide), hXC.mark 4⟩, fun _ _ => rfl⟩
      by_cases h3 : A.1 3 = 0
      · rw [if_pos h3, b01_if]
        rw [decide_eq_true h3, Bool.true_and] at hcan0
        cases hh : aHas A t with
        | true =>
          rw [hh] at hcan0
          rw [if_pos rfl]
          rw [hturn, hcan0, if_pos rfl] at hL
          have hQB : RQ (rput st 24 0) (aPi A 4 0) := ⟨hX7.pi 4 0 (by decide), hF.to (aPi A 4 0) rfl (fun _ _ _ => rfl) ((by simp only [aPi, aPl, aPt, rput, va_up, upd] <;> (repeat rw [if_neg (by omega)]))) (fun _ _ _ => rfl) (by rw [hpas, show (aPi A 4 0).2.1 0 = t :: ts from hx]; exact hV7), by
              show upd st.1 24 0 24 = A.1 3
              rw [upd_same, h3], h217⟩
          obtain ⟨st', e', ho, hfr⟩ := g_start_at (n := n) hn hN hQB hi hcan0 rfl hL
          rw [show (pas ((aPi A 4 0).2.1 8)).length = P from by show (pas (A.2.1 8)).length = P; rw [hpas, hP]] at e'
          rw [e']
          exact ⟨st', rfl, ho, fun j hj => hfr j hj⟩
        | false =>
          rw [hh] at hcan0
          rw [if_neg (by decide)]
          exact hjn hcan0
      · rw [if_neg h3]
        rw [decide_eq_false h3, Bool.false_and] at hcan0
        exact hjn hcan0
  · rw [if_neg hm, if_pos rfl, rputZ_at (Or.inl rfl), Option.bind_some]
    rw [if_neg hm] at hpas
    have hturn : eTurn A = eBack (aPi A 4 0) := by
      unfold eTurn eTurnB
      rw [htop, decide_eq_false hm, h4]
      rfl
    rw [hturn] at hL hinvT
    have h28 : (rput (rput st 28 (nI ((A.2.1 8).length - 1))) 24 0).1 28 = nI ((A.2.1 8).length - 1) := rfl
    generalize hs3 : rput (rput st 28 (nI ((A.2.1 8).length - 1))) 24 0 = s3 at h28 ⊢
    have k1 : ∀ j, j ≠ 28 → j ≠ 24 → s3.1 j = st.1 j := fun j h1 h2 => by
      rw [← hs3]
      exact (by simp only [aPi, aPl, aPt, rput, va_up, upd] <;> (repeat rw [if_neg (by omega)]))
    have k2 : s3.2 = st.2 := by rw [← hs3]; rfl
    have h243 : s3.1 24 = 0 := by rw [← hs3]; rfl
    have hra := rAf_pas hF16 ((A.2.1 8).length - 1) (by omega)
    rw [htk] at hra
    have hV3 : RV s3 (pas (aFs A) ++ (t0 :: A.2.1 0)) := by
      rw [hpas, List.append_assoc] at hV
      exact hV.same (k1 2 (by decide) (by decide)) (k1 3 (by decide) (by decide)) (by rw [k2])
    have hVle3 := hV3.le
    simp only [List.length_append, List.length_cons] at hVle3
    rw [hV3.size, g_passed_at (n := n) h28 (by omega) (by omega), Option.bind_some, k2, hra]
    simp only [List.length_append, List.length_cons]
    rw [pk_sub (by omega), show (pas (aFs A)).length + ((A.2.1 0).length + 1) - (pas (aFs A)).length = (A.2.1 0).length + 1 by omega]
    have hK3 : rK st s3 := ⟨fun j hj => k1 j (by omega) (by omega), fun j _ _ => by rw [k2]⟩
    have hX3 : RX s3 (aPi A 4 0) := (hX.pi 4 0 (by decide)).k hK3 (k1 23 (by decide) (by decide)) (k1 22 (by decide) (by decide)) (k1 25 (by decide) (by decide)) (by rw [k2])
    have h213 : s3.1 21 = 0 := (k1 21 (by decide) (by decide)).trans h21
    unfold eBack at hL hinvT
    by_cases hfull : 3000 ≤ (A.2.1 0).length
    · rw [if_pos (show 3000 ≤ ((aPi A 4 0).2.1 0).length from hfull)] at hL
      have hr := eLoop_c hL (by decide)
      subst hr
      rw [if_neg (show ¬ nI ((A.2.1 0).length + 1) ≤ (3000 : Int32) from nI_ge (b := (A.2.1 0).length + 1) (a := 3000) (by omega) (by omega)), g_mark_at]
      exact ⟨rMarked 8 s3, rfl, Or.inr ⟨rMarked_0 h213, ne_0 (by decide), hX3.mark 8⟩, fun j _ => by show s3.2 j = st.2 j; rw [k2]⟩
    · rw [if_neg (show ¬ 3000 ≤ ((aPi A 4 0).2.1 0).length from hfull)] at hL hinvT
      rw [if_pos (show _ ≤ (3000 : Int32) from nI_le (b := 3000) (by omega) (by decide))]
      refine ⟨s3, rfl, Or.inl ⟨h213, _, N, Nat.le_refl _, ⟨((hX3.pl 8 _ (by omega)).pl 0 _ (by omega)).pi 3 0 (by decide), ?_, ?_, h213⟩, hinvT rfl, rfl, hL⟩, fun j _ => by rw [k2]⟩
      · refine hF.pop _ h0 ?_ (fun j h1 h2 => ?_) h28 (fun j _ _ => by rw [k2]) ?_
        · rfl
        · show va_up (va_up A.2.1 8 (aFs (aPi A 4 0))) 0 _ j = A.2.1 j
          rw [va_up_ne _ _ (by omega), va_up_ne _ _ (by omega)]
        · show RV s3 (pas (aFs A) ++ (aTop (aPi A 4 0) :: A.2.1 0))
          rw [show aTop (aPi A 4 0) = t0 from htop]
          exact hV3
      · show s3.1 24 = upd (upd A.1 4 0) 3 0 3
        rw [h243, upd_same]
theorem g_turns {n : Nat} {res : Int32 × aS} (hn : 7000 < n) : ∀ (N n' : Nat) (st : rS), N + 2 ≤ n' → n' ≤ n → gOut N res st → ∃ st', gloopW (g_expandAt_b10 n) n' () st = some ((), st') ∧ ((res.1 = 0 ∧ RQ st' res.2 ∧ aInv res.2 ∧ res.2.1 4 = 0 ∧ res.2.2.1 8 = []) ∨ (st'.1 21 = res.1 ∧ res.1 ≠ 0 ∧ RX st' res.2)) ∧ F19 st st' := by
  intro N
  induction N using Nat.strongRecOn with
  | ind N ih =>
  intro n' st hN hnn hout
  obtain ⟨m, rfl⟩ : ∃ m, n' = m + 1 := ⟨n' - 1, by omega⟩
  rcases hout with ⟨h21, A, N', hN', hQ, hi, h4, hL⟩ | ⟨h21, hne, hX⟩
  · obtain ⟨N1, rfl⟩ : ∃ N1, N' = N1 + 1 := by
      cases N' with
      | zero => simp [eLoop] at hL
      | succ N1 => exact ⟨N1, rfl⟩
    simp only [eLoop] at hL
    rw [if_pos trivial] at hL
    have h50 := hQ.2.1.2.1
    by_cases h8 : (A.2.1 8).length = 0
    · rw [if_pos h8] at hL
      cases hL
      refine ⟨st, ?_, Or.inl ⟨rfl, hQ, hi, h4, List.length_eq_zero_iff.mp h8⟩, F19.rf st⟩
      have : g_expandAt_b10 n () st = some (.inr (), st) := by
        unfold g_expandAt_b10
        dsimp only
        rw [hQ.2.1.1, h8, if_pos (by decide)]
      simp [gloopW, gbW, this]
    · rw [if_neg h8] at hL
      obtain ⟨s1, e1, ho1, fr1⟩ := g_goOn_at (n := n) (N := N1) hn (by omega) hQ hi h4 (by omega) hL
      obtain ⟨s2, e2, ho2, fr2⟩ := ih N1 (by omega) m s1 (by omega) (by omega) ho1
      refine ⟨s2, ?_, ho2, fr1.tr fr2⟩
      have : g_expandAt_b10 n () st = some (.inl (), s1) := by
        unfold g_expandAt_b10
        dsimp only
        rw [hQ.2.1.1, if_neg (nI_nle (by omega) (by omega)), if_pos h21, e1]
        rfl
      simp [gloopW, gbW, this, e2]
  · refine ⟨st, ?_, Or.inr ⟨h21, hne, hX⟩, F19.rf st⟩
    have : g_expandAt_b10 n () st = some (.inr (), st) := by
      unfold g_expandAt_b10
      dsimp only
      split
      · rfl
      · rw [if_neg (by rw [h21]; exact hne)]
    simp [gloopW, gbW, this]
/-- one whole expansion of the first token: the reference ends as the machine does -/
theorem g_expandAt_at {n N : Nat} {res : Int32 × aS} {st : rS} {A : aS} (hn : 7000 < n) (hN : N + 2 ≤ n) (hX : RX st A) (hV : RV st (A.2.1 0)) (h24 : st.1 24 = A.1 3) (h21 : st.1 21 = 0) (hi : aInv A) (hcan : aCan A = true) (h4 : A.1 4 = 0) (h8 : A.2.1 8 = []) (hL : eOnce N A = some res) : ∃ st', g_expandAt n 0 st = some ((), st') ∧ ((res.1 = 0 ∧ RQ st' res.2 ∧ aInv res.2 ∧ res.2.1 4 = 0 ∧ res.2.2.1 8 = []) ∨ (st'.1 21 = res.1 ∧ res.1 ≠ 0 ∧ RX st' res.2)) ∧ F19 st st' := by
  have hQ : RQ (rput st 28 0) A := ⟨hX.k (rK_put st 28 0 (by decide)) ((by simp only [aPi, aPl, aPt, rput, va_up, upd] <;> (repeat rw [if_neg (by omega)]))) ((by simp only [aPi, aPl, aPt, rput, va_up, upd] <;> (repeat rw [if_neg (by omega)]))) ((by simp only [aPi, aPl, aPt, rput, va_up, upd] <;> (repeat rw [if_neg (by omega)]))) rfl, ⟨by rw [h8]; rfl, by rw [h8]; decide, by rw [h8]; exact hV.same ((by simp only [aPi, aPl, aPt, rput, va_up, upd] <;> (repeat rw [if_neg (by omega)]))) ((by simp only [aPi, aPl, aPt, rput, va_up, upd] <;> (repeat rw [if_neg (by omega)]))) rfl, fun i t hi => by rw [h8] at hi; simp at hi⟩, Eq.trans (by simp only [aPi, aPl, aPt, rput, va_up, upd] <;> (repeat rw [if_neg (by omega)])) h24, Eq.trans (by simp only [aPi, aPl, aPt, rput, va_up, upd] <;> (repeat rw [if_neg (by omega)])) h21⟩
  obtain ⟨s1, e1, ho1, fr1⟩ := g_start_at (n := n) hn hN hQ hi hcan h4 hL
  rw [h8] at e1
  obtain ⟨s2, e2, ho2, fr2⟩ := g_turns hn N n s1 hN (Nat.le_refl _) ho1
  refine ⟨s2, ?_, ho2, fun j hj => (fr2 j hj).trans (fr1 j hj)⟩
  unfold g_expandAt
  dsimp only
  rw [show g_start n 0 (rput st 28 0) = some ((), s1) from e1]
  simp only [gbW]
  rw [e2]
