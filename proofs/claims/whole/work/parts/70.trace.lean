/-! THE REFERENCE'S TRACE -/
def RT (st : rS) (ts : List (Int32 × Int32 × Int32)) : Prop := st.1 25 = nI ts.length ∧ ts.length ≤ 100 ∧ ∀ (i : Nat) (q : Int32 × Int32 × Int32), ts[i]? = some q → st.2 14 (3 * i) = q.1 ∧ st.2 14 (3 * i + 1) = q.2.1 ∧ st.2 14 (3 * i + 2) = q.2.2
theorem g_trace_add {n : Nat} {st : rS} {ts : List (Int32 × Int32 × Int32)} {v x2 x6 x7 : Int32} (hT : RT st ts) :
    ∃ st' : rS, (if (100 : Int32) ≤ st.1 25 then g_expandName_j501 n x2 st else (rset st 14 300 ((3 : Int32) * st.1 25) v).bind fun h460 => (rset h460 14 300 (((3 : Int32) * h460.1 25) + (1 : Int32)) x6).bind fun h475 => (rset h475 14 300 (((3 : Int32) * h475.1 25) + (2 : Int32)) x7).bind fun h490 => g_expandName_j501 n x2 (rput h490 25 (h490.1 25 + (1 : Int32)))) = some ((), st') ∧ RT st' (if ts.length < 100 then ts ++ [(v, x6, x7)] else ts) ∧ st'.1 22 = x2 ∧ (∀ k, k ≠ 22 → k ≠ 25 → st'.1 k = st.1 k) ∧ ∀ j, j ≠ 14 → st'.2 j = st.2 j := by
  obtain ⟨h1, h2, h3⟩ := hT
  by_cases hl : ts.length < 100
  · rw [if_pos hl, if_neg (by rw [h1, show (100 : Int32) = nI 100 from rfl]; exact nI_ge hl (by decide)), h1, show (3 : Int32) = nI 3 from rfl, pk_mul, rset_at (by omega) (by decide), Option.bind_some]
    dsimp only
    rw [h1, pk_mul, nI_1, rset_at (by omega) (by decide), Option.bind_some]
    dsimp only
    rw [h1, pk_mul, show (2 : Int32) = nI 2 from rfl, nI_add, rset_at (by omega) (by decide), Option.bind_some]
    dsimp only
    rw [h1, nI_1]
    refine ⟨_, rfl, ⟨?_, by simp; omega, fun i q hi => ?_⟩, ?_, fun k k1 k2 => ?_, fun j hj => ?_⟩
    · show upd (upd st.1 25 (nI (ts.length + 1))) 22 x2 25 = _
      rw [upd_other (by decide), upd_same]
      simp
    · show (if (14 : Nat) = 14 then upd (if (14 : Nat) = 14 then upd (if (14 : Nat) = 14 then upd (st.2 14) (3 * ts.length) v else st.2 14) (3 * ts.length + 1) x6 else st.2 14) (3 * ts.length + 2) x7 else st.2 14) (3 * i) = _ ∧ (if (14 : Nat) = 14 then upd (if (14 : Nat) = 14 then upd (if (14 : Nat) = 14 then upd (st.2 14) (3 * ts.length) v else st.2 14) (3 * ts.length + 1) x6 else st.2 14) (3 * ts.length + 2) x7 else st.2 14) (3 * i + 1) = _ ∧ (if (14 : Nat) = 14 then upd (if (14 : Nat) = 14 then upd (if (14 : Nat) = 14 then upd (st.2 14) (3 * ts.length) v else st.2 14) (3 * ts.length + 1) x6 else st.2 14) (3 * ts.length + 2) x7 else st.2 14) (3 * i + 2) = _
      simp only [if_true]
      by_cases hit : i < ts.length
      · rw [List.getElem?_append_left hit] at hi
        rw [upd_other (by omega), upd_other (by omega), upd_other (by omega), upd_other (by omega), upd_other (by omega), upd_other (by omega), upd_other (by omega), upd_other (by omega), upd_other (by omega)]
        exact h3 i q hi
      · rw [List.getElem?_append_right (by omega)] at hi
        have : i - ts.length < 1 := (List.getElem?_eq_some_iff.mp hi).1
        have e : i = ts.length := by omega
        subst e
        simp at hi
        subst hi
        refine ⟨?_, ?_, upd_same⟩
        · rw [upd_other (by omega), upd_other (by omega), upd_same]
        · rw [upd_other (by omega), upd_same]
    · show upd (upd st.1 25 (nI (ts.length + 1))) 22 x2 22 = x2
      rw [upd_same]
    · show upd (upd st.1 25 (nI (ts.length + 1))) 22 x2 k = _
      rw [upd_other k1, upd_other k2]
    · simp [rput, hj]
  · rw [if_neg hl, if_pos (by rw [h1, show (100 : Int32) = nI 100 from rfl]; exact nI_le (by omega) (by omega))]
    refine ⟨_, rfl, ⟨?_, h2, h3⟩, ?_, fun k k1 k2 => ?_, fun j hj => rfl⟩
    · show upd st.1 22 x2 25 = _
      rw [upd_other (by decide)]
      exact h1
    · show upd st.1 22 x2 22 = x2
      rw [upd_same]
    · show upd st.1 22 x2 k = _
      rw [upd_other k1]
