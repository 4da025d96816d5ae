/-! A MACRO COMES INTO THE BOOK: the class -/
theorem aNew_2 {A : aS} {nm k : Nat} {mk : Int32} {rows : Nat → List Int32} : (aNew A nm k mk rows).2.1 2 = A.2.1 2 ++ [nI k] := rfl
theorem aNew_3 {A : aS} {nm k : Nat} {mk : Int32} {rows : Nat → List Int32} : (aNew A nm k mk rows).2.1 3 = A.2.1 3 ++ [mk] := rfl
theorem aNew_l {A : aS} {nm k : Nat} {mk : Int32} {rows : Nat → List Int32} {j : Nat} (h2 : j ≠ 2) (h3 : j ≠ 3) (hj : j < 1000 + 20 * (A.2.1 2).length) : (aNew A nm k mk rows).2.1 j = A.2.1 j := by
  show (if j = 2 then _ else if j = 3 then _ else if _ then _ else _) = _
  rw [if_neg h2, if_neg h3, if_neg (by omega)]
theorem aNew_row {A : aS} {nm k : Nat} {mk : Int32} {rows : Nat → List Int32} {r : Nat} (hr : r < 20) : aRow (aNew A nm k mk rows) (A.2.1 2).length r = rows r := by
  unfold aRow
  show (if 1000 + 20 * (A.2.1 2).length + r = 2 then _ else if 1000 + 20 * (A.2.1 2).length + r = 3 then _ else if _ then _ else _) = _
  rw [if_neg (by omega), if_neg (by omega), if_pos (by omega), show 1000 + 20 * (A.2.1 2).length + r - (1000 + 20 * (A.2.1 2).length) = r by omega]
theorem aNew_old {A : aS} {nm k : Nat} {mk : Int32} {rows : Nat → List Int32} {m : Nat} (hm : m < (A.2.1 2).length) (h3 : (A.2.1 3).length = (A.2.1 2).length) : aNum (aNew A nm k mk rows) m = aNum A m ∧ aMk (aNew A nm k mk rows) m = aMk A m ∧ ∀ r, r ≤ 10 → aRow (aNew A nm k mk rows) m r = aRow A m r := by
  refine ⟨?_, ?_, fun r hr => aNew_l (by omega) (by omega) (by omega)⟩
  · unfold aNum
    rw [aNew_2, List.getElem?_append_left hm]
  · unfold aMk
    rw [aNew_3, List.getElem?_append_left (by omega)]
theorem aNew_new {A : aS} {nm k : Nat} {mk : Int32} {rows : Nat → List Int32} (hk : k ≤ 9) (h3 : (A.2.1 3).length = (A.2.1 2).length) : aNum (aNew A nm k mk rows) (A.2.1 2).length = k ∧ aMk (aNew A nm k mk rows) (A.2.1 2).length = mk := by
  refine ⟨?_, ?_⟩
  · unfold aNum
    rw [aNew_2, List.getElem?_append_right (Nat.le_refl _), Nat.sub_self]
    exact nI_clamp (by omega)
  · unfold aMk
    rw [aNew_3, ← h3, List.getElem?_append_right (Nat.le_refl _), Nat.sub_self]
    rfl
theorem c_enter {n x k nm ma : Nat} {t mk : Int32} {o : oT} {h : hH} {A : aS} {rows : Nat → List Int32} (hB : cB x o h A) (hN : aNm A) (h3 : (A.2.1 3).length = (A.2.1 2).length) (hm : (A.2.1 2).length < 100) (ht : t - 1000 = nI nm) (hnm : nm < 200) (hM : cMac o h (aNew A nm k mk rows) (A.2.1 2).length ma) (hn : 30 < n) : ∃ h', f_Book_enter n (x + 1) t ma mk h = some (nI (A.2.1 2).length, h') ∧ Fr (fun b => b = 1) o o h h' ∧ cB x o h' (aNew A nm k mk rows) := by
  have hfull := hB.isFull hN
  obtain ⟨f0, f1, g, e1, e2, e3, e4, e5, hnn, hg, hg2, t1, t2, t3, t4, hmac⟩ := hB
  have hM7 : ∃ fs, hObj h ma 7 = some fs := by
    obtain ⟨ra, ta, f, q1, -⟩ := hM
    exact ⟨_, k7_o q1⟩
  obtain ⟨fs7, ho7⟩ := hM7
  have hgc : (A.1 15).toNatClampNeg = g := by rw [hg, nI_clamp (by omega)]
  generalize hm0 : (A.2.1 2).length = m at hm e1 hM hmac
  -- the macro's place, the name's number
  have F1 : Fr (fun b => b = 1) o o h (va_up h (x + 2) (kR 1 100 (va_up f0 m (some ma)))) := Fr.u1 t2
  have F2 : Fr (fun b => b = 1) o o h (va_up (va_up h (x + 2) (kR 1 100 (va_up f0 m (some ma)))) (x + 3) (kA 200 (upd f1 nm (nI m)))) := F1.tr (Fr.u1 t3)
  have a1 : (va_up h (x + 2) (kR 1 100 (va_up f0 m (some ma)))) (x + 1) = k3 (x + 2) (x + 3) (x + 4) (nI m) (nI g) := by
    rw [va_up_ne _ _ (by omega)]
    exact e1
  have a3 : (va_up h (x + 2) (kR 1 100 (va_up f0 m (some ma)))) (x + 3) = kA 200 f1 := by
    rw [va_up_ne _ _ (by omega)]
    exact e3
  generalize hh2 : va_up (va_up h (x + 2) (kR 1 100 (va_up f0 m (some ma)))) (x + 3) (kA 200 (upd f1 nm (nI m))) = h2 at F2
  have b1 : h2 (x + 1) = k3 (x + 2) (x + 3) (x + 4) (nI m) (nI g) := by
    rw [← hh2, va_up_ne _ _ (by omega)]
    exact a1
  have b2 : h2 (x + 2) = kR 1 100 (va_up f0 m (some ma)) := by rw [← hh2, va_up_ne _ _ (by omega), va_up_self]
  have b3 : h2 (x + 3) = kA 200 (upd f1 nm (nI m)) := by rw [← hh2, va_up_self]
  have b4 : h2 (x + 4) = kR 2 20 (fun j => if j < 20 then some (x + 4 + 1 + j) else none) := by
    rw [← hh2, va_up_ne _ _ (by omega), va_up_ne _ _ (by omega)]
    exact e4
  have b5 : ∀ j, j < 20 → h2 (x + 4 + 1 + j) = h (x + 4 + 1 + j) := fun j hj => by
    rw [← hh2, va_up_ne _ _ (by omega), va_up_ne _ _ (by omega)]
  -- the end: one macro more
  have hend : ∀ (h3' : hH) (lp : Bool), Fr (fun b => b = 1) o o h h3' → h3' (x + 1) = k3 (x + 2) (x + 3) (x + 4) (nI m) (nI g) → h3' (x + 2) = kR 1 100 (va_up f0 m (some ma)) → h3' (x + 3) = kA 200 (upd f1 nm (nI m)) → h3' (x + 4) = kR 2 20 (fun j => if j < 20 then some (x + 4 + 1 + j) else none) → (∀ j, j < 20 → ∃ f, h3' (x + 4 + 1 + j) = kA 200 f ∧ (j < g → ∀ i, i < 200 → f i = if lp = true then upd (A.2.2.1 (1 + j)) nm (nI m) i else A.2.2.1 (1 + j) i)) → (lp = true ↔ mk &&& 4 ≠ 0) → ∃ h', f_Book_enter_j88 n (x + 1) h3' = some (nI m, h') ∧ Fr (fun b => b = 1) o o h h' ∧ cB x o h' (aNew A nm k mk rows) := by
    intro h3' lp F3 d1 d2 d3 d4 d5 hlp
    have F4 : Fr (fun b => b = 1) o o h (va_up h3' (x + 1) (k3 (x + 2) (x + 3) (x + 4) (nI (m + 1)) (nI g))) := F3.tr (Fr.u1 t1)
    refine ⟨va_up h3' (x + 1) (k3 (x + 2) (x + 3) (x + 4) (nI (m + 1)) (nI g)), ?_, F4, va_up f0 m (some ma), upd f1 nm (nI m), g, ?_, ?_, ?_, ?_, fun j hj => ?_, fun i hi => ?_, hg, hg2, t1, t2, t3, t4, fun m' hm' => ?_⟩
    · unfold f_Book_enter_j88
      rw [k3_g3 d1, Option.bind_some, nI_1, k3_p3 d1, Option.bind_some, k3_g3 (va_up_self _ _ _), Option.bind_some, nI_pred]
    · rw [va_up_self, aNew_2, List.length_append, hm0]
      rfl
    · rw [va_up_ne _ _ (by omega)]
      exact d2
    · rw [va_up_ne _ _ (by omega)]
      exact d3
    · rw [va_up_ne _ _ (by omega)]
      exact d4
    · obtain ⟨f, q1, q2⟩ := d5 j hj
      obtain ⟨f', q3, q4, q5⟩ := e5 j hj
      refine ⟨f, by rw [va_up_ne _ _ (by omega)]; exact q1, q4, fun hjg i hi => ?_⟩
      rw [q2 hjg i hi]
      show _ = (if 1 + j = 0 ∨ (mk &&& 4 ≠ 0 ∧ 1 ≤ 1 + j ∧ 1 + j ≤ (A.1 15).toNatClampNeg) then upd (A.2.2.1 (1 + j)) nm (nI (A.2.1 2).length) else A.2.2.1 (1 + j)) i
      rw [hgc, hm0]
      by_cases h4 : mk &&& 4 ≠ 0
      · rw [if_pos (hlp.mpr h4), if_pos (Or.inr ⟨h4, by omega, by omega⟩)]
      · rw [if_neg (fun q => h4 (hlp.mp q)), if_neg (fun q => q.elim (by omega) (fun q => h4 q.1))]
    · show upd f1 nm (nI m) i = (if 0 = 0 ∨ (mk &&& 4 ≠ 0 ∧ 1 ≤ 0 ∧ 0 ≤ (A.1 15).toNatClampNeg) then upd (A.2.2.1 0) nm (nI (A.2.1 2).length) else A.2.2.1 0) i
      rw [if_pos (Or.inl rfl), hm0]
      by_cases hin : i = nm
      · rw [hin, upd_same, upd_same]
      · rw [upd_other hin, upd_other hin]
        exact hnn i hi
    · rw [aNew_2, List.length_append, hm0, List.length_singleton] at hm'
      by_cases hmm : m' = m
      · subst hmm
        exact ⟨ma, va_up_self _ _ _, hM.fr F4 (fun l _ _ => by show ¬ l = 1; omega)⟩
      · obtain ⟨a, q1, q2⟩ := hmac m' (by omega)
        obtain ⟨r1, r2, r3⟩ := aNew_old (nm := nm) (k := k) (mk := mk) (rows := rows) (show m' < (A.2.1 2).length by omega) h3
        exact ⟨a, by rw [va_up_ne _ _ hmm]; exact q1, (q2.fr F4 (fun l _ _ => by show ¬ l = 1; omega)).abs r1 r2 r3⟩
  have hpre : f_Book_enter n (x + 1) t ma mk h = if mk &&& 4 = 0 then f_Book_enter_j88 n (x + 1) h2 else hbW (hloopW (f_Book_enter_b59 n (x + 1) (nI nm)) n (0 : Int32) h2) fun _ h59l => f_Book_enter_j88 n (x + 1) h59l := by
    unfold f_Book_enter
    rw [k3_o e1, Option.bind_some, hfull, Option.bind_some, hm0, if_neg (show ¬ m = 100 by omega), if_pos rfl, ht, if_neg (nI_pos (by omega)), if_pos (show _ < (200 : Int32) from nI_lt (b := 200) hnm (by decide)), k3_g0 e1, Option.bind_some, k3_g3 e1, Option.bind_some, Option.bind_some, ho7, Option.bind_some, kR_set e2 hm (by decide), Option.bind_some, k3_g1 a1, Option.bind_some, k3_g3 a1, Option.bind_some, Option.bind_some, kA_set a3 hnm (by decide), Option.bind_some, hh2]
  rw [hpre]
  by_cases h4 : mk &&& 4 = 0
  · rw [if_pos h4]
    exact hend h2 false F2 b1 b2 b3 b4 (fun j hj => by
      obtain ⟨f, q1, q2, q3⟩ := e5 j hj
      exact ⟨f, by rw [b5 j hj]; exact q1, fun hjg i hi => by rw [if_neg (by decide)]; exact q3 hjg i hi⟩) ⟨fun q => (by cases q), fun q => absurd h4 q⟩
  · rw [if_neg h4]
    obtain ⟨b, h3', el, F3, d1, d2, d3, d4, d5⟩ := hloopW_rule (body := f_Book_enter_b59 n (x + 1) (nI nm)) (fun q v hh => ∃ i, q = g - i ∧ i ≤ g ∧ v = nI i ∧ Fr (fun b => b = 1) o o h hh ∧ hh (x + 1) = k3 (x + 2) (x + 3) (x + 4) (nI m) (nI g) ∧ hh (x + 2) = kR 1 100 (va_up f0 m (some ma)) ∧ hh (x + 3) = kA 200 (upd f1 nm (nI m)) ∧ hh (x + 4) = kR 2 20 (fun j => if j < 20 then some (x + 4 + 1 + j) else none) ∧ ∀ j, j < 20 → ∃ f, hh (x + 4 + 1 + j) = kA 200 f ∧ (j < g → ∀ i', i' < 200 → f i' = if j < i then upd (A.2.2.1 (1 + j)) nm (nI m) i' else A.2.2.1 (1 + j) i')) (fun _ hh => Fr (fun b => b = 1) o o h hh ∧ hh (x + 1) = k3 (x + 2) (x + 3) (x + 4) (nI m) (nI g) ∧ hh (x + 2) = kR 1 100 (va_up f0 m (some ma)) ∧ hh (x + 3) = kA 200 (upd f1 nm (nI m)) ∧ hh (x + 4) = kR 2 20 (fun j => if j < 20 then some (x + 4 + 1 + j) else none) ∧ ∀ j, j < 20 → ∃ f, hh (x + 4 + 1 + j) = kA 200 f ∧ (j < g → ∀ i', i' < 200 → f i' = upd (A.2.2.1 (1 + j)) nm (nI m) i'))
      (by
        rintro q v hh ⟨i, rfl, hi, rfl, F3, d1, d2, d3, d4, d5⟩
        by_cases hie : i = g
        · refine Or.inr ⟨(), hh, ?_, F3, d1, d2, d3, d4, fun j hj => ?_⟩
          · unfold f_Book_enter_b59
            dsimp only
            rw [k3_g4 d1, Option.bind_some, if_pos (nI_le (by omega) (by omega))]
          · obtain ⟨f, q1, q2⟩ := d5 j hj
            exact ⟨f, q1, fun hjg i' hi' => by rw [q2 hjg i' hi', if_pos (by omega)]⟩
        · obtain ⟨f, q1, q2⟩ := d5 i (by omega)
          obtain ⟨f', q3, q4, q5⟩ := e5 i (by omega)
          refine Or.inl ⟨nI (i + 1), g - (i + 1), va_up hh (x + 4 + 1 + i) (kA 200 (upd f nm (nI m))), ?_, by omega, i + 1, rfl, by omega, rfl, F3.tr (Fr.u1 q4), ?_, ?_, ?_, ?_, fun j hj => ?_⟩
          · unfold f_Book_enter_b59
            dsimp only
            rw [k3_g4 d1, Option.bind_some, if_neg (nI_ge (by omega) (by omega)), k3_g2 d1, Option.bind_some, Option.bind_some, kR_get d4 (by omega) (by decide), Option.bind_some, k3_g3 d1, Option.bind_some, if_pos (show i < 20 by omega), Option.bind_some, kA_set q1 hnm (by decide), Option.bind_some, nI_1]
          · rw [va_up_ne _ _ (by omega)]
            exact d1
          · rw [va_up_ne _ _ (by omega)]
            exact d2
          · rw [va_up_ne _ _ (by omega)]
            exact d3
          · rw [va_up_ne _ _ (by omega)]
            exact d4
          · by_cases hji : j = i
            · subst hji
              refine ⟨upd f nm (nI m), va_up_self _ _ _, fun hjg i' hi' => ?_⟩
              rw [if_pos (by omega)]
              by_cases hin : i' = nm
              · rw [hin, upd_same, upd_same]
              · rw [upd_other hin, upd_other hin, q2 hjg i' hi', if_neg (by omega)]
            · obtain ⟨f2, w1, w2⟩ := d5 j hj
              refine ⟨f2, by rw [va_up_ne _ _ (by omega)]; exact w1, fun hjg i' hi' => ?_⟩
              rw [w2 hjg i' hi']
              by_cases hjl : j < i
              · rw [if_pos hjl, if_pos (by omega)]
              · rw [if_neg hjl, if_neg (by omega)])
      n g (nI 0) h2 (by omega) ⟨0, by omega, by omega, rfl, F2, b1, b2, b3, b4, fun j hj => by
        obtain ⟨f, q1, q2, q3⟩ := e5 j hj
        exact ⟨f, by rw [b5 j hj]; exact q1, fun hjg i hi => by rw [if_neg (by omega)]; exact q3 hjg i hi⟩⟩
    rw [show (0 : Int32) = nI 0 from rfl, el]
    simp only [hbW]
    exact hend h3' true F3 d1 d2 d3 d4 (fun j hj => by
      obtain ⟨f, q1, q2⟩ := d5 j hj
      exact ⟨f, q1, fun hjg i hi => by rw [if_pos rfl]; exact q2 hjg i hi⟩) ⟨fun _ => h4, fun _ => rfl⟩
