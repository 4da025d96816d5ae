/-! THE REFERENCE'S INPUT AND ARGUMENTS AS LISTS -/
def RV (st : rS) (xs : List Int32) : Prop := ∃ hd : Nat, hd < 4096 ∧ st.1 2 = nI hd ∧ st.1 3 = nI xs.length ∧ xs.length ≤ 3100 ∧ ∀ (k : Nat) (t : Int32), xs[k]? = some t → st.2 0 ((hd + k) % 4096) = t
theorem RV.get {st : rS} {xs : List Int32} {k : Nat} {t : Int32} (h : RV st xs) (hk : xs[k]? = some t) : g_get (nI k) st = some t := by
  obtain ⟨hd, h1, h2, h3, h4, h5⟩ := h
  have hlt : k < xs.length := (List.getElem?_eq_some_iff.mp hk).1
  rw [g_get_at h2 (by omega), h5 k t hk]
theorem RV.size {st : rS} {xs : List Int32} (h : RV st xs) : st.1 3 = nI xs.length := h.choose_spec.2.2.1
theorem RV.le {st : rS} {xs : List Int32} (h : RV st xs) : xs.length ≤ 3100 := h.choose_spec.2.2.2.1
theorem RV.same {st st' : rS} {xs : List Int32} (h : RV st xs) (h2 : st'.1 2 = st.1 2) (h3 : st'.1 3 = st.1 3) (h0 : st'.2 0 = st.2 0) : RV st' xs := by
  obtain ⟨hd, q1, q2, q3, q4, q5⟩ := h
  exact ⟨hd, q1, h2.trans q2, h3.trans q3, q4, fun k t hk => by rw [h0]; exact q5 k t hk⟩
theorem RV.take {n : Nat} {st : rS} {as bs cs : List Int32} (h : RV st (as ++ bs ++ cs)) (hn : 3200 < n) : ∃ st' : rS, g_take n (nI as.length) (nI bs.length) st = some ((), st') ∧ RV st' (as ++ cs) ∧ (∀ k, k ≠ 2 → k ≠ 3 → st'.1 k = st.1 k) ∧ ∀ j, j ≠ 0 → st'.2 j = st.2 j := by
  obtain ⟨hd, q1, q2, q3, q4, q5⟩ := h
  simp only [List.length_append] at q3 q4
  obtain ⟨st', e1, e2, e3, e4, e5, e6, e7⟩ := g_take_at (n := n) (at_ := as.length) (many := bs.length) q2 q1 (by omega) (by omega)
  refine ⟨st', e1, ⟨(hd + bs.length) % 4096, by omega, e2, ?_, by simp; omega, fun k t hk => ?_⟩, e4, e5⟩
  · rw [e3, q3, pk_sub (by omega), List.length_append]
    exact congrArg nI (by omega)
  · by_cases hka : k < as.length
    · rw [List.getElem?_append_left hka] at hk
      have := q5 k t (by rw [List.append_assoc, List.getElem?_append_left hka]; exact hk)
      rw [show ((hd + bs.length) % 4096 + k) % 4096 = (hd + bs.length + k) % 4096 by omega, e6 k hka]
      exact this
    · rw [List.getElem?_append_right (by omega)] at hk
      have hkc : k - as.length < cs.length := (List.getElem?_eq_some_iff.mp hk).1
      have := q5 (k + bs.length) t (by rw [List.getElem?_append_right (by simp; omega)]; simp only [List.length_append]; rw [show k + bs.length - (as.length + bs.length) = k - as.length by omega]; exact hk)
      rw [show ((hd + bs.length) % 4096 + k) % 4096 = (hd + (k + bs.length)) % 4096 by omega, e7 (k + bs.length) (by omega) (by omega)]
      exact this
theorem RV.set {st : rS} {as cs : List Int32} {t0 t : Int32} (h : RV st (as ++ t0 :: cs)) : ∃ st' : rS, g_set (nI as.length) t st = some ((), st') ∧ RV st' (as ++ t :: cs) ∧ st'.1 = st.1 ∧ ∀ j, j ≠ 0 → st'.2 j = st.2 j := by
  obtain ⟨hd, q1, q2, q3, q4, q5⟩ := h
  simp only [List.length_append, List.length_cons] at q3 q4
  refine ⟨_, g_set_at q2 (by omega), ⟨hd, q1, q2, ?_, by simp; omega, fun k x hk => ?_⟩, rfl, fun j hj => ?_⟩
  · simp only [List.length_append, List.length_cons]
    exact q3
  · show (if (0 : Nat) = 0 then upd (st.2 0) _ _ else st.2 0) _ = _
    rw [if_pos rfl]
    by_cases hka : k = as.length
    · subst hka
      rw [upd_same]
      simp at hk
      exact hk
    · have hk2 : (as ++ t0 :: cs)[k]? = some x := by
        by_cases hl : k < as.length
        · rw [List.getElem?_append_left hl] at hk ⊢
          exact hk
        · rw [List.getElem?_append_right (by omega)] at hk ⊢
          rw [show k - as.length = (k - as.length - 1) + 1 by omega, List.getElem?_cons_succ] at hk ⊢
          exact hk
      have hlt : k < (as ++ t0 :: cs).length := (List.getElem?_eq_some_iff.mp hk2).1
      simp only [List.length_append, List.length_cons] at hlt
      rw [upd_other (by omega)]
      exact q5 k x hk2
  · show (if j = 0 then _ else st.2 j) = _
    rw [if_neg hj]
/-- argument a of the reference -/
def RA (st : rS) (a : Nat) (as : List Int32) : Prop := st.2 12 a = nI as.length ∧ as.length ≤ 400 ∧ ∀ (i : Nat) (t : Int32), as[i]? = some t → st.2 13 (400 * a + i) = t
theorem g_give_full {st : rS} {a : Nat} {as : List Int32} {t : Int32} (h : RA st a as) (ha : a < 10) (hl : as.length = 400) : g_give (nI a) t st = some ((), rMarked 8 st) := by
  unfold g_give
  rw [rget_at ha (by decide), h.1, hl]
  rw [Option.bind_some, if_pos (show nI 400 = 400 by decide), g_mark_at]
  rfl
theorem g_give_at {st : rS} {a : Nat} {as : List Int32} {t : Int32} (h : RA st a as) (ha : a < 10) (hl : as.length < 400) : ∃ st' : rS, g_give (nI a) t st = some ((), st') ∧ RA st' a (as ++ [t]) ∧ st'.1 = st.1 ∧ (∀ j, j ≠ 12 → j ≠ 13 → st'.2 j = st.2 j) ∧ ∀ (b : Nat) (bs : List Int32), b ≠ a → RA st b bs → RA st' b bs := by
  obtain ⟨q1, q2, q3⟩ := h
  refine ⟨(st.1, fun q => if q = 12 then upd (st.2 12) a (nI (as.length + 1)) else if q = 13 then upd (st.2 13) (400 * a + as.length) t else st.2 q), ?_, ⟨?_, by simp; omega, fun i x hi => ?_⟩, rfl, fun j h1 h2 => ?_, fun b bs hb hB => ?_⟩
  · unfold g_give
    rw [rget_at ha (by decide), q1]
    show (if nI as.length = 400 then _ else _) = _
    rw [if_neg (fun q => by have := (nI_eq (b := 400) (by omega) (by decide)).mp q; omega)]
    show Option.bind (rset st 13 4000 ((400 : Int32) * nI a + nI as.length) t) _ = _
    rw [show (400 : Int32) = nI 400 from rfl, pk_mul, nI_add, rset_at (by omega) (by decide)]
    show Option.bind (rget _ 12 10 (nI a)) _ = _
    rw [rget_at ha (by decide)]
    show Option.bind (rset _ 12 10 (nI a) (st.2 12 a + 1)) _ = _
    rw [rset_at ha (by decide), q1, nI_1]
    show some ((), _) = _
    congr 2
  · show upd (st.2 12) a (nI (as.length + 1)) a = _
    rw [upd_same]
    simp
  · show upd (st.2 13) (400 * a + as.length) t (400 * a + i) = _
    by_cases hia : i < as.length
    · rw [List.getElem?_append_left hia] at hi
      rw [upd_other (by omega)]
      exact q3 i x hi
    · rw [List.getElem?_append_right (by omega)] at hi
      have : i - as.length < 1 := (List.getElem?_eq_some_iff.mp hi).1
      have e : i = as.length := by omega
      subst e
      simp at hi
      rw [upd_same]
      exact hi
  · show (if j = 12 then _ else if j = 13 then _ else st.2 j) = _
    rw [if_neg h1, if_neg h2]
  · refine ⟨?_, hB.2.1, fun i x hi => ?_⟩
    · show upd (st.2 12) a (nI (as.length + 1)) b = _
      rw [upd_other hb]
      exact hB.1
    · show upd (st.2 13) (400 * a + as.length) t (400 * b + i) = _
      have hlt : i < bs.length := (List.getElem?_eq_some_iff.mp hi).1
      have := hB.2.1
      rw [upd_other (by omega)]
      exact hB.2.2 i x hi
theorem RA.same {st st' : rS} {a : Nat} {as : List Int32} (h : RA st a as) (h1 : st'.2 12 = st.2 12) (h2 : st'.2 13 = st.2 13) : RA st' a as := ⟨by rw [h1]; exact h.1, h.2.1, fun i t hi => by rw [h2]; exact h.2.2 i t hi⟩
/-- delimiter row r of the reference -/
def RR (st : rS) (r : Nat) (ds : List Int32) : Prop := st.2 6 r = nI ds.length ∧ ds.length ≤ 200 ∧ ∀ (i : Nat) (t : Int32), ds[i]? = some t → st.2 7 (200 * r + i) = t
theorem g_rowComes_loop {n : Nat} {st : rS} {xs ds : List Int32} {r p : Nat} (hV : RV st xs) (hR : RR st r ds) (hr : r < 1000) (hp : p + ds.length ≤ xs.length) (hn : 300 < n) : gloopR (g_rowComes_b24 n (nI r) (nI p) st) n (1, 0) = some (b01 (decide (ds.isPrefixOf (xs.drop p)))) := by
  obtain ⟨b, e1, e2⟩ := gloopR_rule (body := g_rowComes_b24 n (nI r) (nI p) st) (fun k x => ∃ i, k = ds.length + 1 - i ∧ i ≤ ds.length ∧ ((x = (1, nI i) ∧ (ds.take i).isPrefixOf (xs.drop p) = true) ∨ (x = (0, nI i) ∧ ds.isPrefixOf (xs.drop p) = false)))
    (fun b => b = b01 (decide (ds.isPrefixOf (xs.drop p)))) (by
      have hV2 := hV.le
      rintro k x ⟨i, rfl, hi, ⟨rfl, hpre⟩ | ⟨rfl, hpre⟩⟩
      · by_cases hil : i = ds.length
        · refine Or.inr ⟨1, ?_, ?_⟩
          · unfold g_rowComes_b24
            dsimp only
            rw [rget_at hr (by decide), hR.1]
            show (if nI ds.length ≤ nI i then _ else _) = _
            rw [if_pos (nI_le (by omega) (by have := hR.2.1; omega))]
          · rw [hil, List.take_length] at hpre
            simp [hpre, b01]
        · have hx : ∃ t, xs[p + i]? = some t := ⟨xs[p + i]'(by omega), List.getElem?_eq_getElem (by omega)⟩
          have hd : ∃ t, ds[i]? = some t := ⟨ds[i]'(by omega), List.getElem?_eq_getElem (by omega)⟩
          obtain ⟨t, ht⟩ := hx
          obtain ⟨u, hu⟩ := hd
          have hb : g_rowComes_b24 n (nI r) (nI p) st (1, nI i) = some (.inl (if t = u then 1 else 0, nI (i + 1))) := by
            have := hR.2.1
            unfold g_rowComes_b24 g_rowComes_j68
            dsimp only
            rw [rget_at hr (by decide), hR.1]
            show (if nI ds.length ≤ nI i then _ else _) = _
            rw [if_neg (nI_ge (by omega) (by omega)), if_neg (by decide), nI_add, hV.get ht]
            show Option.bind (rget st 7 200000 ((200 : Int32) * nI r + nI i)) _ = _
            rw [show (200 : Int32) = nI 200 from rfl, pk_mul, nI_add, rget_at (by omega) (by decide), hR.2.2 i u hu]
            show (if t = u then _ else _) = _
            by_cases htu : t = u
            · rw [if_pos htu, if_pos htu, nI_1]
            · rw [if_neg htu, if_neg htu, nI_1]
          have htk : ds.take (i + 1) = ds.take i ++ [u] := by
            rw [List.take_succ, hu]
            rfl
          refine Or.inl ⟨_, ds.length + 1 - (i + 1), hb, by omega, i + 1, rfl, by omega, ?_⟩
          obtain ⟨w, hw⟩ := List.isPrefixOf_iff_prefix.mp hpre
          have hxi : (xs.drop p)[i]? = some t := by rw [List.getElem?_drop]; exact ht
          have hw0 : w[0]? = some t := by
            rw [← hw, List.getElem?_append_right (by rw [List.length_take]; omega)] at hxi
            simpa [List.length_take, Nat.min_eq_left (Nat.le_of_lt (show i < ds.length by omega))] using hxi
          obtain ⟨w', rfl⟩ : ∃ w', w = t :: w' := by
            cases w with
            | nil => simp at hw0
            | cons a w' => simp at hw0; exact ⟨w', by rw [hw0]⟩
          by_cases htu : t = u
          · left
            rw [if_pos htu]
            refine ⟨rfl, List.isPrefixOf_iff_prefix.mpr ⟨w', ?_⟩⟩
            rw [htk, ← htu, List.append_assoc]
            exact hw
          · right
            rw [if_neg htu]
            refine ⟨rfl, ?_⟩
            cases hq : ds.isPrefixOf (xs.drop p) with
            | false => rfl
            | true =>
              exfalso
              obtain ⟨v, hv⟩ := List.isPrefixOf_iff_prefix.mp hq
              have h9 : (xs.drop p)[i]? = some u := by rw [← hv, List.getElem?_append_left (by omega)]; exact hu
              exact htu (Option.some.inj (hxi.symm.trans h9))
      · refine Or.inr ⟨0, ?_, by simp [hpre, b01]⟩
        unfold g_rowComes_b24
        dsimp only
        rw [rget_at hr (by decide)]
        show (if st.2 6 r ≤ nI i then _ else _) = _
        split
        · rfl
        · rfl) n (ds.length + 1) (1, 0) (by have := hR.2.1; omega) ⟨0, by omega, by omega, Or.inl ⟨rfl, by simp⟩⟩
  rw [e1, e2]
theorem g_rowComes_at {n : Nat} {st : rS} {xs ds : List Int32} {r p : Nat} (hV : RV st xs) (hR : RR st r ds) (hr : r < 1000) (hp : p ≤ xs.length) (hn : 300 < n) : g_rowComes n (nI r) (nI p) st = some (b01 (decide (ds.isPrefixOf (xs.drop p)))) := by
  have hV2 := hV.le
  have hR2 := hR.2.1
  unfold g_rowComes
  rw [rget_at hr (by decide), hR.1, hV.size]
  show (if nI xs.length < nI p + nI ds.length then _ else _) = _
  rw [nI_add]
  by_cases h : xs.length < p + ds.length
  · rw [if_pos (nI_lt h (by omega))]
    have hf : ds.isPrefixOf (xs.drop p) = false := by
      cases hq : ds.isPrefixOf (xs.drop p) with
      | false => rfl
      | true =>
        exfalso
        have := (List.isPrefixOf_iff_prefix.mp hq).length_le
        rw [List.length_drop] at this
        omega
    have e0 : gloopR (g_rowComes_b24 n (nI r) (nI p) st) n (0, 0) = some 0 := by
      obtain ⟨m, rfl⟩ : ∃ m, n = m + 1 := ⟨n - 1, by omega⟩
      unfold gloopR g_rowComes_b24
      dsimp only
      rw [rget_at hr (by decide)]
      show Option.bind (if st.2 6 r ≤ 0 then _ else _) _ = _
      split
      · rfl
      · rfl
    unfold g_rowComes_j20
    rw [e0]
    simp [hf, b01]
  · rw [if_neg (nI_nlt (by omega) (by omega))]
    unfold g_rowComes_j20
    rw [g_rowComes_loop hV hR hr (by omega) hn]
    show (if b01 _ = 0 ∨ b01 _ = 1 then _ else _) = _
    rw [if_pos b01_or]
