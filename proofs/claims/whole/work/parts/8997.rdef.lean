/-! A DEFINITION IS READ: the reference -/
def RDf (st : rS) (C : aS) : Prop := ∀ r, r < 10 → st.2 20 r = nI (C.2.1 (400 + r)).length ∧ (C.2.1 (400 + r)).length ≤ 200 ∧ ∀ (i : Nat) (t : Int32), (C.2.1 (400 + r))[i]? = some t → st.2 19 (200 * r + i) = t
def RDt (st : rS) (C : aS) : Prop := (C.2.1 410).length ≤ 200 ∧ ∀ (i : Nat) (t : Int32), (C.2.1 410)[i]? = some t → st.2 21 i = t
/-- at the head of a turn of the whole expansion -/
def RW (st : rS) (A : aS) : Prop := RX st A ∧ RV st (A.2.1 0) ∧ st.1 24 = A.1 3 ∧ st.1 21 = 0
def dOut (K : Nat) (res : Int32 × aS) (st' : rS) : Prop := (st'.1 21 = 0 ∧ ∃ B K', K' ≤ K ∧ RW st' B ∧ wInv B ∧ B.1 10 = 0 ∧ wLoop 230000 K' (0, B) = some res) ∨ (st'.1 21 = res.1 ∧ res.1 ≠ 0 ∧ RX st' res.2)
/-- the body and the rows come to the new macro's place -/
theorem g_copyBody {n m : Nat} {x3 : Int32} {st : rS} {bs : List Int32} (hm : m < 100) (hb : bs.length ≤ 200) (hd : ∀ (i : Nat) (t : Int32), bs[i]? = some t → st.2 21 i = t) (hn : 300 < n) : ∃ st' : rS, gloopW (g_defines_b520 n x3 (nI bs.length) (nI m)) n 0 st = some ((), st') ∧ st'.1 = st.1 ∧ (∀ j, j ≠ 5 → st'.2 j = st.2 j) ∧ (∀ (i : Nat) (t : Int32), bs[i]? = some t → st'.2 5 (200 * m + i) = t) ∧ ∀ q, q < 200 * m ∨ 200 * m + 200 ≤ q → st'.2 5 q = st.2 5 q := by
  obtain ⟨b, s, e, g1, g2, g3, g4⟩ := gloopW_rule (body := g_defines_b520 n x3 (nI bs.length) (nI m)) (fun e x s => ∃ i, e = bs.length - i ∧ i ≤ bs.length ∧ x = nI i ∧ s.1 = st.1 ∧ (∀ j, j ≠ 5 → s.2 j = st.2 j) ∧ (∀ (j : Nat) (t : Int32), j < i → bs[j]? = some t → s.2 5 (200 * m + j) = t) ∧ ∀ q, q < 200 * m ∨ 200 * m + 200 ≤ q → s.2 5 q = st.2 5 q) (fun _ s => s.1 = st.1 ∧ (∀ j, j ≠ 5 → s.2 j = st.2 j) ∧ (∀ (j : Nat) (t : Int32), bs[j]? = some t → s.2 5 (200 * m + j) = t) ∧ ∀ q, q < 200 * m ∨ 200 * m + 200 ≤ q → s.2 5 q = st.2 5 q)
    (by
      rintro e x s ⟨i, rfl, hi, rfl, g1, g2, g3, g4⟩
      by_cases he : i = bs.length
      · refine Or.inr ⟨(), s, ?_, g1, g2, fun j t hj => g3 j t ?_ hj, g4⟩
        · unfold g_defines_b520
          dsimp only
          rw [if_pos (nI_le (by omega) (by omega))]
        · have := (List.getElem?_eq_some_iff.mp hj).1
          omega
      · have hgi : bs[i]? = some (bs[i]'(by omega)) := List.getElem?_eq_getElem (by omega)
        refine Or.inl ⟨nI (i + 1), bs.length - (i + 1), (s.1, fun q => if q = 5 then upd (s.2 5) (200 * m + i) (s.2 21 i) else s.2 q), ?_, by omega, i + 1, rfl, by omega, rfl, g1, fun j hj => ?_, fun j t hj hjt => ?_, fun q hq => ?_⟩
        · unfold g_defines_b520
          dsimp only
          rw [if_neg (nI_ge (by omega) (by omega)), rget_at (by omega) (by decide), Option.bind_some, show (200 : Int32) = nI 200 from rfl, pk_mul, nI_add, rset_at (by omega) (by decide), Option.bind_some, nI_1]
        · show (if j = 5 then _ else s.2 j) = _
          rw [if_neg hj]
          exact g2 j hj
        · show upd (s.2 5) (200 * m + i) (s.2 21 i) (200 * m + j) = t
          by_cases hji : j = i
          · subst hji
            rw [upd_same, g2 21 (by decide)]
            exact hd j t hjt
          · rw [upd_other (by omega)]
            exact g3 j t (by omega) hjt
        · show upd (s.2 5) (200 * m + i) (s.2 21 i) q = _
          rw [upd_other (by omega)]
          exact g4 q hq)
    n bs.length (nI 0) st (by omega) ⟨0, by omega, by omega, rfl, rfl, fun _ _ => rfl, fun j t hj => by omega, fun _ _ => rfl⟩
  exact ⟨s, e, g1, g2, g3, g4⟩
theorem g_copyRow {n m r : Nat} {x3 : Int32} {st : rS} {ds : List Int32} (hm : m < 100) (hr : r < 10) (h20 : st.2 20 r = nI ds.length) (hl : ds.length ≤ 200) (hd : ∀ (i : Nat) (t : Int32), ds[i]? = some t → st.2 19 (200 * r + i) = t) (hn : 300 < n) : ∃ st' : rS, gloopW (g_defines_b586 n x3 (nI m) (nI r)) n 0 st = some ((), st') ∧ st'.1 = st.1 ∧ (∀ j, j ≠ 7 → st'.2 j = st.2 j) ∧ (∀ (i : Nat) (t : Int32), ds[i]? = some t → st'.2 7 (200 * (10 * m + r) + i) = t) ∧ ∀ q, q < 200 * (10 * m + r) ∨ 200 * (10 * m + r) + 200 ≤ q → st'.2 7 q = st.2 7 q := by
  obtain ⟨b, s, e, g1, g2, g3, g4⟩ := gloopW_rule (body := g_defines_b586 n x3 (nI m) (nI r)) (fun e x s => ∃ i, e = ds.length - i ∧ i ≤ ds.length ∧ x = nI i ∧ s.1 = st.1 ∧ (∀ j, j ≠ 7 → s.2 j = st.2 j) ∧ (∀ (j : Nat) (t : Int32), j < i → ds[j]? = some t → s.2 7 (200 * (10 * m + r) + j) = t) ∧ ∀ q, q < 200 * (10 * m + r) ∨ 200 * (10 * m + r) + 200 ≤ q → s.2 7 q = st.2 7 q) (fun _ s => s.1 = st.1 ∧ (∀ j, j ≠ 7 → s.2 j = st.2 j) ∧ (∀ (j : Nat) (t : Int32), ds[j]? = some t → s.2 7 (200 * (10 * m + r) + j) = t) ∧ ∀ q, q < 200 * (10 * m + r) ∨ 200 * (10 * m + r) + 200 ≤ q → s.2 7 q = st.2 7 q)
    (by
      rintro e x s ⟨i, rfl, hi, rfl, g1, g2, g3, g4⟩
      have h20' : rget s 20 10 (nI r) = some (nI ds.length) := by rw [rget_at hr (by decide), g2 20 (by decide), h20]
      by_cases he : i = ds.length
      · refine Or.inr ⟨(), s, ?_, g1, g2, fun j t hj => g3 j t ?_ hj, g4⟩
        · unfold g_defines_b586
          dsimp only
          rw [h20', Option.bind_some, if_pos (nI_le (by omega) (by omega))]
        · have := (List.getElem?_eq_some_iff.mp hj).1
          omega
      · refine Or.inl ⟨nI (i + 1), ds.length - (i + 1), (s.1, fun q => if q = 7 then upd (s.2 7) (200 * (10 * m + r) + i) (s.2 19 (200 * r + i)) else s.2 q), ?_, by omega, i + 1, rfl, by omega, rfl, g1, fun j hj => ?_, fun j t hj hjt => ?_, fun q hq => ?_⟩
        · unfold g_defines_b586
          dsimp only
          rw [h20', Option.bind_some, if_neg (nI_ge (by omega) (by omega)), show (200 : Int32) = nI 200 from rfl, show (10 : Int32) = nI 10 from rfl, pk_mul, nI_add, rget_at (by omega) (by decide), Option.bind_some, pk_mul, nI_add, pk_mul, nI_add, rset_at (by omega) (by decide), Option.bind_some, nI_1]
        · show (if j = 7 then _ else s.2 j) = _
          rw [if_neg hj]
          exact g2 j hj
        · show upd (s.2 7) (200 * (10 * m + r) + i) (s.2 19 (200 * r + i)) (200 * (10 * m + r) + j) = t
          by_cases hji : j = i
          · subst hji
            rw [upd_same, g2 19 (by decide)]
            exact hd j t hjt
          · rw [upd_other (by omega)]
            exact g3 j t (by omega) hjt
        · show upd (s.2 7) (200 * (10 * m + r) + i) (s.2 19 (200 * r + i)) q = _
          rw [upd_other (by omega)]
          exact g4 q hq)
    n ds.length (nI 0) st (by omega) ⟨0, by omega, by omega, rfl, rfl, fun _ _ => rfl, fun j t hj => by omega, fun _ _ => rfl⟩
  exact ⟨s, e, g1, g2, g3, g4⟩
