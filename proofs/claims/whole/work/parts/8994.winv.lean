/-! WHAT THE WHOLE EXPANSION KEEPS, AND WHY IT STOPS -/
def e4 (A : aS) : Prop := A.1 4 = 0 ∨ 0 < (A.2.1 8).length
theorem eFirst_4 {A : aS} (h : A.1 4 = 0) : e4 (eFirst A).2 := by
  unfold eFirst
  split
  · exact Or.inl h
  · unfold eTok
    split
    · exact Or.inl h
    · unfold eTokB
      split
      · exact Or.inl h
      · split
        · unfold eAft
          split
          · split
            · refine Or.inr ?_
              show 0 < (_ ++ [_]).length
              rw [List.length_append]
              simp
            · exact Or.inl h
          · exact Or.inl h
        · split
          · unfold eNam
            split
            · exact Or.inl h
            · exact Or.inl h
          · split
            · exact Or.inl h
            · unfold eName
              split
              · exact Or.inl h
              · exact Or.inl h
theorem eTurn_4 {A : aS} : e4 (eTurn A).2 := by
  have h : (aPi A 4 0).1 4 = 0 := rfl
  unfold eTurn eTurnB
  split
  · exact eFirst_4 h
  · split
    · unfold eGo
      split
      · exact Or.inl h
      · unfold eSign
        split
        · split
          · exact Or.inl h
          · unfold eEnd
            split
            · exact Or.inl h
            · split
              · exact Or.inl h
              · exact Or.inl h
        · split
          · exact Or.inl h
          · exact Or.inl h
    · unfold eBack
      split
      · exact Or.inl h
      · exact Or.inl h
theorem eFirst_2 {A : aS} : (eFirst A).1 = 0 → (eFirst A).2.1 2 = A.1 2 := by
  unfold eFirst
  split
  · exact fun h => absurd (ne_c h) (by decide)
  · unfold eTok
    split
    · exact fun _ => rfl
    · unfold eTokB
      split
      · exact fun _ => rfl
      · split
        · unfold eAft
          split
          · split
            · exact fun _ => rfl
            · exact fun _ => rfl
          · exact fun _ => rfl
        · split
          · unfold eNam
            split
            · exact fun _ => rfl
            · exact fun _ => rfl
          · split
            · exact fun _ => rfl
            · unfold eName
              split
              · rename_i c hc
                exact fun h => absurd h (mName_ne hc)
              · exact fun _ => rfl
theorem eTurn_2 {A : aS} : (eTurn A).1 = 0 → (eTurn A).2.1 2 = A.1 2 := by
  unfold eTurn eTurnB
  split
  · exact fun h => (eFirst_2 h).trans rfl
  · split
    · unfold eGo
      split
      · exact fun _ => rfl
      · unfold eSign
        split
        · split
          · exact fun _ => rfl
          · unfold eEnd
            split
            · exact fun _ => rfl
            · split
              · exact fun _ => rfl
              · exact fun _ => rfl
        · split
          · exact fun _ => rfl
          · exact fun _ => rfl
    · unfold eBack
      split
      · exact fun _ => rfl
      · exact fun _ => rfl
/-- how the turns end -/
theorem eLoop_inv : ∀ (N : Nat) (r res : Int32 × aS), (r.1 = 0 → aInv r.2 ∧ e4 r.2) → eLoop N r = some res → eKeep r.2 res.2 ∧ (res.1 = 0 → r.1 = 0 ∧ aInv res.2 ∧ res.2.2.1 8 = [] ∧ res.2.1 4 = 0 ∧ res.2.1 2 = r.2.1 2 ∧ ∀ s : Nat, s ≤ 20000 → r.2.1 1 = nI s → ∃ s' : Nat, s ≤ s' ∧ s' ≤ 20000 ∧ res.2.1 1 = nI s')
  | 0, _, _, _, h => by simp [eLoop] at h
  | N + 1, r, res, hr, h => by
    simp only [eLoop] at h
    by_cases h1 : r.1 = 0
    · rw [if_pos h1] at h
      obtain ⟨hi, h4⟩ := hr h1
      by_cases h8 : (r.2.2.1 8).length = 0
      · rw [if_pos h8] at h
        cases h
        refine ⟨eKeep.rf _, fun _ => ⟨h1, hi, List.length_eq_zero_iff.mp h8, ?_, rfl, fun s hb hs => ⟨s, Nat.le_refl _, hb, hs⟩⟩⟩
        rcases h4 with q | q
        · exact q
        · omega
      · rw [if_neg h8] at h
        obtain ⟨g1, g2⟩ := eLoop_inv N (eTurn r.2) res (fun hz => ⟨(eTurn_inv hi (by omega) hz).1, eTurn_4⟩) h
        refine ⟨(eTurn_keep r.2 hi.2.2.2.2.2.1 hi.2.2.2.2.2.2.2).tr g1, fun hz => ?_⟩
        obtain ⟨q1, q2, q3, q4, q6, q5⟩ := g2 hz
        refine ⟨h1, q2, q3, q4, q6.trans (eTurn_2 q1), fun s hs1 hs => ?_⟩
        obtain ⟨tI, -, tw⟩ := eTurn_inv hi (by omega) q1
        rcases tw with w | w
        · obtain ⟨s', p1, p2, p3⟩ := q5 s hs1 (w.trans hs)
          exact ⟨s', p1, by omega, p3⟩
        · obtain ⟨G, s0, hG, hs0, hsG, hG2⟩ := tI.2.1
          have hs1' : s + 1 = s0 := (nI_eq (by omega) (by omega)).mp (by rw [← hs0, w, hs, nI_1])
          obtain ⟨s', p1, p2, p3⟩ := q5 (s + 1) (by omega) (by rw [w, hs, nI_1])
          exact ⟨s', by omega, by omega, p3⟩
    · rw [if_neg h1] at h
      cases h
      exact ⟨eKeep.rf _, fun hz => absurd hz h1⟩
theorem eOnce_inv {N : Nat} {A : aS} {res : Int32 × aS} (hi : aInv A) (h4 : A.1 4 = 0) (h : eOnce N A = some res) : eKeep A res.2 ∧ (res.1 = 0 → aInv res.2 ∧ res.2.2.1 8 = [] ∧ res.2.1 4 = 0 ∧ res.2.1 2 = A.1 2 ∧ ∀ s : Nat, s ≤ 20000 → A.1 1 = nI s → ∃ s' : Nat, s < s' ∧ s' ≤ 20000 ∧ res.2.1 1 = nI s') := by
  unfold eOnce at h
  obtain ⟨g1, g2⟩ := eLoop_inv N (eFirst A) res (fun hz => ⟨(eFirst_inv hi hz).1, eFirst_4 h4⟩) h
  refine ⟨(eFirst_keep A hi.2.2.2.2.2.1).tr g1, fun hz => ?_⟩
  obtain ⟨q1, q2, q3, q4, q6, q5⟩ := g2 hz
  refine ⟨q2, q3, q4, q6.trans (eFirst_2 q1), fun s hs1 hs => ?_⟩
  obtain ⟨fI, -, fs⟩ := eFirst_inv hi q1
  obtain ⟨G, s0, hG, hs0, hsG, hG2⟩ := fI.2.1
  have hs1' : s + 1 = s0 := (nI_eq (by omega) (by omega)).mp (by rw [← hs0, fs, hs, nI_1])
  obtain ⟨s', p1, p2, p3⟩ := q5 (s + 1) (by omega) (by rw [fs, hs, nI_1])
  exact ⟨s', by omega, p2, p3⟩
theorem eOnce_ends {A : aS} (hi : aInv A) (h8 : A.2.1 8 = []) : ∃ res, eOnce 230000 A = some res := by
  have hp : fPot A ≤ 220000 := by
    obtain ⟨G, s, hG, hs, hsG, hG2⟩ := hi.2.1
    unfold fPot
    rw [hG, hs, nI_clamp (by omega), nI_clamp (by omega), h8]
    show 11 * (G - s) + 0 ≤ 220000
    omega
  obtain ⟨N, q, hN, hq⟩ := eLoop_ends 220000 (eFirst A) (fun hz => by
    obtain ⟨g1, g2, -⟩ := eFirst_inv hi hz
    exact ⟨g1, by omega⟩)
  exact ⟨q, eLoop_more N 230000 _ q (by omega) hq⟩
/-- what stands between two turns of the whole expansion -/
def wInv (A : aS) : Prop := aInv A ∧ (A.2.1 3).length = (A.2.1 2).length ∧ A.2.1 8 = [] ∧ A.1 4 = 0 ∧ dOk A ∧ (A.1 9 = -1 ∨ 0 ≤ A.1 9) ∧ aPos (A.2.1 410) ∧ (∀ g i, g < (A.1 15).toNatClampNeg → i < 200 → A.2.2.1 (1 + g) i = -1 ∨ ∃ m : Nat, m < (A.2.1 2).length ∧ A.2.2.1 (1 + g) i = nI m) ∧ (A.1 10 = 0 → A.1 2 = 0) ∧ (A.1 10 = 1 → A.1 2 = 0 ∧ A.1 12 = 0) ∧ (A.1 10 = 2 ∨ A.1 10 = 3 → A.1 2 = A.1 12) ∧ (A.1 11 = 0 ∨ A.1 11 = 1)
def wPot (A : aS) : Nat := 3001 * ((A.1 0).toNatClampNeg - (A.1 1).toNatClampNeg) + (A.2.1 0).length + (if A.1 9 = -1 then 0 else 1)
theorem aInv.to {A B : aS} (h : aInv A) (h2 : B.2.1 2 = A.2.1 2) (hF : B.2.2.1 = A.2.2.1) (hr : ∀ j, 1000 ≤ j → B.2.1 j = A.2.1 j) (h0 : B.1 0 = A.1 0) (h1 : B.1 1 = A.1 1) (hp : aPos (B.2.1 0)) (hl : (B.2.1 0).length ≤ 3000) (h8 : B.2.1 8 = A.2.1 8) (hs : ∀ j, 200 ≤ j → j < 250 → B.2.1 j = A.2.1 j) (h16 : B.1 16 = A.1 16) : aInv B := by
  obtain ⟨q1, ⟨G, s, hG, hs2, hsG, hG2⟩, q3, q4, q5, q6, q7, c, hc, hc2⟩ := h
  refine ⟨⟨by rw [h2]; exact q1.1, by rw [h2, hF]; exact q1.2⟩, ⟨G, s, h0.trans hG, h1.trans hs2, hsG, hG2⟩, hp, hl, fun m hm => ?_, by rw [h8]; exact q6, fun i t hi => ?_, c, hc, h16.trans hc2⟩
  · rw [h2] at hm
    rw [show aRow B m 10 = aRow A m 10 from hr _ (by omega)]
    exact q5 m hm
  · rw [h8] at hi
    have hil := (List.getElem?_eq_some_iff.mp hi).1
    rw [hs (200 + i) (by omega) (by omega)]
    exact q7 i t hi
/-- a token is taken -/
theorem wInv.take {A : aS} {t : Int32} {ts : List Int32} (h : wInv A) (hx : A.2.1 0 = t :: ts) : wInv (aPi (aPl A 0 ts) 3 0) ∧ 0 ≤ t ∧ wPot (aPi (aPl A 0 ts) 3 0) + 1 = wPot A ∧ ts.length < 3000 := by
  obtain ⟨hi, h3, h8, h4, hd, h9, ht, hg, n0, n1, n2, h11⟩ := h
  have hp := hi.2.2.1
  have hl := hi.2.2.2.1
  rw [hx] at hp hl
  rw [List.length_cons] at hl
  have hlist : ∀ j, j ≠ 0 → (aPi (aPl A 0 ts) 3 0).2.1 j = A.2.1 j := fun j hj => va_up_ne _ _ hj
  refine ⟨⟨hi.to rfl rfl (fun j hj => hlist j (by omega)) rfl rfl (fun u hu => hp u (List.mem_cons_of_mem _ hu)) (by show ts.length ≤ 3000; omega) rfl (fun j h1 h2 => hlist j (by omega)) rfl, h3, h8, h4, hd, h9, ht, hg, n0, n1, n2, h11⟩, hp t (by simp), ?_, by omega⟩
  unfold wPot
  show 3001 * ((A.1 0).toNatClampNeg - (A.1 1).toNatClampNeg) + ts.length + (if A.1 9 = -1 then 0 else 1) + 1 = _
  rw [hx, List.length_cons]
  omega
/-- without faults the whole expansion's turns keep what stands -/
theorem wOnce_inv {N : Nat} {A : aS} {r : Int32 × aS} (hw : wInv A) (h : eOnce N A = some r) (hz : r.1 = 0) : wInv r.2 ∧ wPot r.2 < wPot A ∧ r.2.2.1 2 = A.2.1 2 := by
  obtain ⟨hi, h3, h8, h4, hd, h9, ht, hg, n0, n1, n2, h11⟩ := hw
  obtain ⟨hk, hg2⟩ := eOnce_inv hi h4 h
  obtain ⟨q1, q2, q3, q4, q5⟩ := hg2 hz
  have k : ∀ j, 5 ≤ j → j ≤ 15 → r.2.1 j = A.1 j := fun j h1 h2 => hk.1 j (by omega)
  have e2 : r.2.2.1 2 = A.2.1 2 := hk.2.1 2 (by omega)
  refine ⟨⟨q1, by rw [e2, hk.2.1 3 (by omega)]; exact h3, q2, q3, ?_, by rw [k 9 (by omega) (by omega)]; exact h9, by rw [hk.2.1 410 (by omega)]; exact ht, ?_, ?_, ?_, ?_, by rw [k 11 (by omega) (by omega)]; exact h11⟩, ?_, e2⟩
  · unfold dOk
    rw [k 13 (by omega) (by omega), k 10 (by omega) (by omega), k 12 (by omega) (by omega)]
    exact hd
  · rw [k 15 (by omega) (by omega), hk.2.2, e2]
    exact hg
  · rw [k 10 (by omega) (by omega), q4]
    exact n0
  · rw [k 10 (by omega) (by omega), q4, k 12 (by omega) (by omega)]
    exact n1
  · rw [k 10 (by omega) (by omega), q4, k 12 (by omega) (by omega)]
    exact n2
  · obtain ⟨G, s, hG, hs, hsG, hG2⟩ := hi.2.1
    obtain ⟨s', p1, pb, p2⟩ := q5 s (by omega) hs
    obtain ⟨G', s2, hG', hs2, hsG', hG2'⟩ := q1.2.1
    have e0 : r.2.1 0 = A.1 0 := hk.1 0 (by omega)
    have hl := q1.2.2.2.1
    have hGG : G' = G := (nI_eq (by omega) (by omega)).mp (by rw [← hG', e0, hG])
    have hss : s2 < 2 ^ 31 := by omega
    unfold wPot
    rw [e0, k 9 (by omega) (by omega), hG, hs, hs2, nI_clamp (n := G) (by omega), nI_clamp (n := s) (by omega), nI_clamp (n := s2) hss]
    have hle : s < s2 := by
      have : s' = s2 := (nI_eq (by omega) hss).mp (p2.symm.trans hs2)
      omega
    omega
theorem wCarry_inv {A : aS} {t : Int32} (hw : wInv A) (h0 : A.1 10 = 0) (hz : (wCarry A t).1 = 0) : wInv (wCarry A t).2 ∧ wPot (wCarry A t).2 ≤ wPot A ∧ (wCarry A t).2.2.1 2 = A.2.1 2 := by
  have hw0 := hw
  obtain ⟨hi, h3, h8, h4, hd, h9, ht, hg, n0, n1, n2, h11⟩ := hw
  unfold wCarry at hz ⊢
  by_cases hm : mMark t = 0
  · rw [if_pos hm] at hz ⊢
    have hbeg : ∀ e : Int32, (e = 0 ∨ e = 1) → wInv (dBegin A e) ∧ wPot (dBegin A e) ≤ wPot A ∧ (dBegin A e).2.1 2 = A.2.1 2 := by
      intro e he
      have hl : ∀ j, j < 400 ∨ 410 < j → (dBegin A e).2.1 j = A.2.1 j := fun j hj => by
        show (if 400 ≤ j ∧ j ≤ 410 then [] else A.2.1 j) = A.2.1 j
        rw [if_neg (by omega)]
      refine ⟨⟨hi.to rfl rfl (fun j hj => hl j (by omega)) rfl rfl hi.2.2.1 hi.2.2.2.1 rfl (fun j h1 h2 => hl j (by omega)) rfl, h3, h8, h4, ⟨⟨0, by omega, rfl⟩, Or.inr (Or.inl rfl)⟩, h9, ?_, hg, fun q => absurd (show (1 : Int32) = 0 from q) (by decide), fun _ => ⟨n0 h0, rfl⟩, fun q => (q.elim (fun q => absurd (show (1 : Int32) = 2 from q) (by decide)) (fun q => absurd (show (1 : Int32) = 3 from q) (by decide))), he⟩, Nat.le_refl _, rfl⟩
      show aPos (if 400 ≤ 410 ∧ 410 ≤ 410 then [] else A.2.1 410)
      rw [if_pos (by omega)]
      exact fun u hu => by simp at hu
    by_cases h264 : t = 264
    · rw [if_pos h264] at hz ⊢
      exact hbeg 0 (Or.inl rfl)
    · rw [if_neg h264] at hz ⊢
      by_cases h265 : t = 265
      · rw [if_pos h265] at hz ⊢
        exact hbeg 1 (Or.inr rfl)
      · rw [if_neg h265] at hz ⊢
        by_cases hm8 : A.1 8 = 0
        · rw [if_pos hm8] at hz ⊢
          by_cases h269 : t = 269
          · rw [if_pos h269] at hz ⊢
            unfold wLate at hz ⊢
            cases hx : A.2.1 0 with
            | nil =>
              rw [hx] at hz
              exact absurd (ne_c hz) (by decide)
            | cons u us =>
              dsimp only
              have hp := hi.2.2.1
              have hl := hi.2.2.2.1
              rw [hx] at hp hl
              rw [List.length_cons] at hl
              have hlist : ∀ j, j ≠ 0 → (aPi (aPl A 0 us) 9 u).2.1 j = A.2.1 j := fun j hj => va_up_ne _ _ hj
              refine ⟨⟨hi.to rfl rfl (fun j hj => hlist j (by omega)) rfl rfl (fun v hv => hp v (List.mem_cons_of_mem _ hv)) (by show us.length ≤ 3000; omega) rfl (fun j h1 h2 => hlist j (by omega)) rfl, h3, h8, h4, hd, Or.inr (hp u (by simp)), ht, hg, n0, n1, n2, h11⟩, ?_, rfl⟩
              unfold wPot
              show 3001 * ((A.1 0).toNatClampNeg - (A.1 1).toNatClampNeg) + us.length + (if u = -1 then 0 else 1) ≤ _
              rw [hx, List.length_cons]
              split <;> split <;> omega
          · rw [if_neg h269] at hz ⊢
            by_cases hl : (A.2.1 1).length < 3000
            · rw [if_pos hl] at hz ⊢
              have hlist : ∀ j, j ≠ 1 → (aPl A 1 (A.2.1 1 ++ [t])).2.1 j = A.2.1 j := fun j hj => va_up_ne _ _ hj
              exact ⟨⟨hi.to rfl rfl (fun j hj => hlist j (by omega)) rfl rfl hi.2.2.1 hi.2.2.2.1 rfl (fun j h1 h2 => hlist j (by omega)) rfl, h3, h8, h4, hd, h9, ht, hg, n0, n1, n2, h11⟩, Nat.le_refl _, rfl⟩
            · rw [if_neg hl] at hz
              exact absurd (ne_c hz) (by decide)
        · rw [if_neg hm8] at hz
          exact absurd (ne_c hz) (by decide)
  · rw [if_neg hm]
    exact ⟨⟨hi.to rfl rfl (fun _ _ => rfl) rfl rfl hi.2.2.1 hi.2.2.2.1 rfl (fun _ _ _ => rfl) rfl, h3, h8, h4, hd, h9, ht, hg, n0, n1, n2, h11⟩, Nat.le_refl _, rfl⟩
theorem aNew_inv {A : aS} {nm k : Nat} {mk : Int32} {rows : Nat → List Int32} (hw : aInv A) (h3 : (A.2.1 3).length = (A.2.1 2).length) (hm : (A.2.1 2).length < 100) (hb : aPos (rows 10)) (hg : ∀ g i, g < (A.1 15).toNatClampNeg → i < 200 → A.2.2.1 (1 + g) i = -1 ∨ ∃ m : Nat, m < (A.2.1 2).length ∧ A.2.2.1 (1 + g) i = nI m) : aInv (aNew A nm k mk rows) ∧ ((aNew A nm k mk rows).2.1 3).length = ((aNew A nm k mk rows).2.1 2).length ∧ ∀ g i, g < (A.1 15).toNatClampNeg → i < 200 → (aNew A nm k mk rows).2.2.1 (1 + g) i = -1 ∨ ∃ m : Nat, m < ((aNew A nm k mk rows).2.1 2).length ∧ (aNew A nm k mk rows).2.2.1 (1 + g) i = nI m := by
  obtain ⟨q1, q2, q3, q4, q5, q6, q7, q8⟩ := hw
  have hl2 : ((aNew A nm k mk rows).2.1 2).length = (A.2.1 2).length + 1 := by
    rw [aNew_2, List.length_append]
    rfl
  have hl : ∀ j, j ≠ 2 → j ≠ 3 → j < 1000 → (aNew A nm k mk rows).2.1 j = A.2.1 j := fun j h2 h3 hj => aNew_l h2 h3 (by omega)
  have hF : ∀ (j i : Nat), (A.2.2.1 j i = -1 ∨ ∃ m : Nat, m < (A.2.1 2).length ∧ A.2.2.1 j i = nI m) → (aNew A nm k mk rows).2.2.1 j i = -1 ∨ ∃ m : Nat, m < ((aNew A nm k mk rows).2.1 2).length ∧ (aNew A nm k mk rows).2.2.1 j i = nI m := by
    intro j i h
    show (if j = 0 ∨ (mk &&& 4 ≠ 0 ∧ 1 ≤ j ∧ j ≤ (A.1 15).toNatClampNeg) then upd (A.2.2.1 j) nm (nI (A.2.1 2).length) else A.2.2.1 j) i = -1 ∨ ∃ m : Nat, m < ((aNew A nm k mk rows).2.1 2).length ∧ (if j = 0 ∨ (mk &&& 4 ≠ 0 ∧ 1 ≤ j ∧ j ≤ (A.1 15).toNatClampNeg) then upd (A.2.2.1 j) nm (nI (A.2.1 2).length) else A.2.2.1 j) i = nI m
    rw [hl2]
    have hold : A.2.2.1 j i = -1 ∨ ∃ m : Nat, m < (A.2.1 2).length + 1 ∧ A.2.2.1 j i = nI m := by
      rcases h with h | ⟨m, hm, h⟩
      · exact Or.inl h
      · exact Or.inr ⟨m, by omega, h⟩
    split
    · by_cases hin : i = nm
      · rw [hin, upd_same]
        exact Or.inr ⟨(A.2.1 2).length, by omega, rfl⟩
      · rw [upd_other hin]
        exact hold
    · exact hold
  refine ⟨⟨⟨by omega, fun i hi => hF 0 i (q1.2 i hi)⟩, q2, by rw [hl 0 (by decide) (by decide) (by decide)]; exact q3, by rw [hl 0 (by decide) (by decide) (by decide)]; exact q4, fun m hmm => ?_, by rw [hl 8 (by decide) (by decide) (by decide)]; exact q6, fun i t hi => ?_, q8⟩, ?_, fun g i h1 h2 => hF (1 + g) i (hg g i h1 h2)⟩
  · rw [hl2] at hmm
    by_cases hme : m = (A.2.1 2).length
    · subst hme
      rw [aNew_row (by omega)]
      exact hb
    · rw [(aNew_old (show m < (A.2.1 2).length by omega) h3).2.2 10 (by omega)]
      exact q5 m (by omega)
  · rw [hl 8 (by decide) (by decide) (by decide)] at hi
    have hil := (List.getElem?_eq_some_iff.mp hi).1
    rw [hl (200 + i) (by omega) (by omega) (by omega)]
    exact q7 i t hi
  · rw [aNew_3, aNew_2, List.length_append, List.length_append, h3]
    rfl
theorem dAcc_11 (A : aS) (t : Int32) : (dAcc A t).2.1 11 = A.1 11 := by
  unfold dAcc
  split
  · unfold dName
    split <;> rfl
  · split
    · unfold dRows
      split
      · rfl
      · split
        · rfl
        · split
          · split <;> rfl
          · rw [(dAdd_keep A _ t).1]
    · unfold dText
      split
      · rfl
      · split
        · rw [(dAdd_keep _ _ t).1]
          rfl
        · rfl
theorem dAcc_text {A : aS} {t : Int32} (hk : ∃ k, k ≤ 9 ∧ A.1 13 = nI k) (h : aPos (A.2.1 410)) (ht : 0 ≤ t) : aPos ((dAcc A t).2.2.1 410) := by
  obtain ⟨k, hk9, h13⟩ := hk
  unfold dAcc
  split
  · unfold dName
    split
    · exact h
    · exact h
  · split
    · unfold dRows
      split
      · exact h
      · split
        · exact h
        · split
          · split
            · exact h
            · exact h
          · rw [h13, nI_clamp (by omega), (dAdd_keep A (400 + k) t).2.1 410 (by omega)]
            exact h
    · unfold dText
      split
      · exact h
      · split
        · unfold dAdd
          split
          · show aPos (va_up A.2.1 410 (A.2.1 410 ++ [t]) 410)
            rw [va_up_self]
            exact all_snoc (P := fun u => 0 ≤ u) h ht
          · exact h
        · exact h
theorem dGo_inv {A : aS} {t : Int32} (hw : wInv A) (h0 : A.1 10 ≠ 0) (htp : 0 ≤ t) (hroom : (A.2.1 0).length < 3000) (hz : (dGo A t).1 = 0) : wInv (dGo A t).2 ∧ wPot (dGo A t).2 ≤ wPot A ∧ (A.2.1 2).length ≤ ((dGo A t).2.2.1 2).length := by
  obtain ⟨hi, h3, h8, h4, hd, h9, ht, hg, n0, n1, n2, h11⟩ := hw
  obtain ⟨kk1, kk2, kk3⟩ := dAcc_keep A t hd.1
  unfold dGo dGoB at hz ⊢
  by_cases hc : (dAcc A t).1 = 0
  · rw [if_pos hc] at hz ⊢
    obtain ⟨⟨k, hk, h13⟩, hst, hnm⟩ := dAcc_ok hd h0 hc
    have h11' : (dAcc A t).2.1 11 = A.1 11 := dAcc_11 A t
    have htxt : aPos ((dAcc A t).2.2.1 410) := dAcc_text hd.1 ht htp
    generalize hC : aPi (dAcc A t).2 2 ((dAcc A t).2.1 12) = C at hz ⊢
    have c1 : ∀ j, j ≠ 2 → (j < 10 ∨ 14 < j) → C.1 j = A.1 j := fun j h1 h2 => by
      rw [← hC]
      exact Eq.trans (by simp only [aPi, aPl, aPt, rput, va_up, upd] <;> (repeat rw [if_neg (by omega)])) (kk1 j h2)
    have c2 : ∀ j, j < 400 ∨ 410 < j → C.2.1 j = A.2.1 j := fun j hj => by rw [← hC]; exact kk2 j hj
    have c3 : C.2.2 = A.2.2 := by rw [← hC]; exact kk3
    have c13 : C.1 13 = nI k := by rw [← hC]; exact h13
    have c12 : tName (C.1 12) = true := by rw [← hC]; exact hnm
    have c22 : C.1 2 = C.1 12 := by rw [← hC]; rfl
    have c11 : C.1 11 = A.1 11 := by rw [← hC]; exact h11'
    have c10 : C.1 10 = 2 ∨ C.1 10 = 3 ∨ C.1 10 = 4 := by rw [← hC]; exact hst
    have ctx : aPos (C.2.1 410) := by rw [← hC]; exact htxt
    have hiC : aInv C := hi.to (c2 2 (by omega)) (by rw [c3]) (fun j hj => c2 j (by omega)) (c1 0 (by omega) (by omega)) (c1 1 (by omega) (by omega)) (by rw [c2 0 (by omega)]; exact hi.2.2.1) (by rw [c2 0 (by omega)]; exact hi.2.2.2.1) (c2 8 (by omega)) (fun j h1 h2 => c2 j (by omega)) (c1 16 (by omega) (by omega))
    have hpotC : wPot C = wPot A := by
      unfold wPot
      rw [c1 0 (by omega) (by omega), c1 1 (by omega) (by omega), c1 9 (by omega) (by omega), c2 0 (by omega)]
    by_cases hr : C.1 10 = 4
    · rw [if_pos hr] at hz ⊢
      by_cases hfull : (C.2.1 2).length = 100
      · rw [if_pos hfull] at hz
        exact absurd (ne_c hz) (by decide)
      · rw [if_neg hfull]
        dsimp only
        have h100 := hiC.1.1
        have hl2 : (C.2.1 2).length = (A.2.1 2).length := by rw [c2 2 (by omega)]
        have hl3 : (C.2.1 3).length = (C.2.1 2).length := by rw [c2 2 (by omega), c2 3 (by omega)]; exact h3
        obtain ⟨g1, g2, g3⟩ := aNew_inv (nm := (C.1 12 - 1000).toNatClampNeg) (k := (C.1 13).toNatClampNeg) (mk := C.1 8) (rows := dRow C) hiC hl3 (by omega) (by
            unfold dRow
            rw [if_pos (Or.inr rfl)]
            exact ctx) (by
            rw [c1 15 (by omega) (by omega), c3, c2 2 (by omega)]
            exact hg)
        have hnl : ∀ j, j ≠ 2 → j ≠ 3 → j < 1000 → (aNew C (C.1 12 - 1000).toNatClampNeg (C.1 13).toNatClampNeg (C.1 8) (dRow C)).2.1 j = C.2.1 j := fun j h2 h3 hj => aNew_l h2 h3 (by omega)
        generalize hE : aNew C (C.1 12 - 1000).toNatClampNeg (C.1 13).toNatClampNeg (C.1 8) (dRow C) = E at g1 g2 g3 hnl
        have hEi : E.1 = C.1 := by rw [← hE]; rfl
        have hE2 : (E.2.1 2).length = (A.2.1 2).length + 1 := by
          rw [← hE, aNew_2, List.length_append, hl2]
          rfl
        have hD : dEnter C = dLater (aPi (aPi (aPi E 10 0) 2 0) 8 0) := by
          unfold dEnter
          rw [hE]
        rw [hD]
        have hE0 : E.2.1 0 = A.2.1 0 := by rw [hnl 0 (by decide) (by decide) (by decide), c2 0 (by omega)]
        have hE9 : E.1 9 = A.1 9 := by rw [hEi, c1 9 (by omega) (by omega)]
        have hbase : ∀ (B : aS), B.2.1 2 = E.2.1 2 → B.2.1 3 = E.2.1 3 → B.2.2.1 = E.2.2.1 → (∀ j, j ≠ 0 → B.2.1 j = E.2.1 j) → (∀ j, j ≠ 10 → j ≠ 2 → j ≠ 8 → j ≠ 9 → B.1 j = E.1 j) → B.1 10 = 0 → B.1 2 = 0 → (B.1 9 = -1 ∨ 0 ≤ B.1 9) → aPos (B.2.1 0) → (B.2.1 0).length ≤ 3000 → wInv B := by
          intro B b2 b3 bF bl bi b10 b22 b9 bp bln
          refine ⟨g1.to b2 bF (fun j hj => bl j (by omega)) (bi 0 (by decide) (by decide) (by decide) (by decide)) (bi 1 (by decide) (by decide) (by decide) (by decide)) bp bln (bl 8 (by decide)) (fun j h1 h2 => bl j (by omega)) (bi 16 (by decide) (by decide) (by decide) (by decide)), by rw [b2, b3]; exact g2, ?_, ?_, ⟨⟨k, hk, ?_⟩, Or.inl b10⟩, b9, ?_, ?_, fun _ => b22, fun q => ?_, fun q => ?_, ?_⟩
          · rw [bl 8 (by decide), hnl 8 (by decide) (by decide) (by decide), c2 8 (by omega)]
            exact h8
          · rw [bi 4 (by decide) (by decide) (by decide) (by decide), hEi, c1 4 (by omega) (by omega)]
            exact h4
          · rw [bi 13 (by decide) (by decide) (by decide) (by decide), hEi]
            exact c13
          · rw [bl 410 (by decide), hnl 410 (by decide) (by decide) (by decide)]
            exact ctx
          · rw [bi 15 (by decide) (by decide) (by decide) (by decide), hEi, bF, b2]
            exact g3
          · rw [b10] at q
            exact absurd q (by decide)
          · rw [b10] at q
            rcases q with q | q <;> exact absurd q (by decide)
          · rw [bi 11 (by decide) (by decide) (by decide) (by decide), hEi, c11]
            exact h11
        unfold dLater
        have h9' : (aPi (aPi (aPi E 10 0) 2 0) 8 0).1 9 = A.1 9 := hE9
        rw [h9']
        by_cases hlat : A.1 9 = -1
        · rw [if_pos hlat]
          refine ⟨hbase _ rfl rfl rfl (fun _ _ => rfl) (fun j h1 h2 h3 _ => (by simp only [aPi, aPl, aPt, rput, va_up, upd] <;> (repeat rw [if_neg (by omega)]))) rfl rfl (Or.inl (hE9.trans hlat)) (by show aPos (E.2.1 0); rw [hE0]; exact hi.2.2.1) (by show (E.2.1 0).length ≤ 3000; rw [hE0]; omega), ?_, ?_⟩
          · rw [← hpotC]
            unfold wPot
            show 3001 * ((E.1 0).toNatClampNeg - (E.1 1).toNatClampNeg) + (E.2.1 0).length + (if E.1 9 = -1 then 0 else 1) ≤ _
            rw [hEi, hE0, c2 0 (by omega)]
            omega
          · show (A.2.1 2).length ≤ (E.2.1 2).length
            omega
        · rw [if_neg hlat]
          have hlp : 0 ≤ A.1 9 := h9.resolve_left hlat
          refine ⟨hbase _ rfl rfl rfl (fun j hj => va_up_ne _ _ hj) (fun j h1 h2 h3 h4 => (by simp only [aPi, aPl, aPt, rput, va_up, upd] <;> (repeat rw [if_neg (by omega)]))) rfl rfl (Or.inl rfl) ?_ ?_, ?_, ?_⟩
          · intro u hu
            have hu' : u ∈ A.1 9 :: E.2.1 0 := hu
            rcases List.mem_cons.mp hu' with q | q
            · rw [q]
              exact hlp
            · rw [hE0] at q
              exact hi.2.2.1 u q
          · show (A.1 9 :: E.2.1 0).length ≤ 3000
            rw [hE0, List.length_cons]
            omega
          · unfold wPot
            show 3001 * ((E.1 0).toNatClampNeg - (E.1 1).toNatClampNeg) + (A.1 9 :: E.2.1 0).length + 0 ≤ _
            rw [hEi, c1 0 (by omega) (by omega), c1 1 (by omega) (by omega), hE0, List.length_cons, if_neg hlat]
            omega
          · show (A.2.1 2).length ≤ (E.2.1 2).length
            omega
    · rw [if_neg hr]
      have c10' : C.1 10 = 2 ∨ C.1 10 = 3 := by
        rcases c10 with q | q | q
        · exact Or.inl q
        · exact Or.inr q
        · exact absurd q hr
      refine ⟨⟨hiC, by rw [c2 2 (by omega), c2 3 (by omega)]; exact h3, by rw [c2 8 (by omega)]; exact h8, by rw [c1 4 (by omega) (by omega)]; exact h4, ⟨⟨k, hk, c13⟩, Or.inr (Or.inr ⟨c10', c12⟩)⟩, by rw [c1 9 (by omega) (by omega)]; exact h9, ctx, by rw [c1 15 (by omega) (by omega), c3, c2 2 (by omega)]; exact hg, fun q => ?_, fun q => ?_, fun _ => c22, by rw [c11]; exact h11⟩, by rw [hpotC]; exact Nat.le_refl _, by rw [c2 2 (by omega)]; exact Nat.le_refl _⟩
      · rw [q] at c10'
        rcases c10' with w | w <;> exact absurd w (by decide)
      · rw [q] at c10'
        rcases c10' with w | w <;> exact absurd w (by decide)
  · rw [if_neg hc] at hz
    exact absurd hz hc
theorem wTurn_inv {N : Nat} {A : aS} {r : Int32 × aS} (hw : wInv A) (hne : (A.2.1 0).length ≠ 0) (h : wTurn N A = some r) (hz : r.1 = 0) : wInv r.2 ∧ wPot r.2 < wPot A ∧ (A.2.1 2).length ≤ (r.2.2.1 2).length := by
  unfold wTurn at h
  by_cases hc : (!(wTakes A) && aCan A) = true
  · rw [if_pos hc] at h
    obtain ⟨g1, g2, g3⟩ := wOnce_inv hw h hz
    exact ⟨g1, g2, by rw [g3]; exact Nat.le_refl _⟩
  · rw [if_neg hc] at h
    have hr := (Option.some.inj h).symm
    subst hr
    unfold wTake at hz ⊢
    cases hx : A.2.1 0 with
    | nil =>
      rw [hx] at hne
      exact absurd rfl hne
    | cons t ts =>
      rw [hx] at hz
      dsimp only at hz ⊢
      obtain ⟨w1, w2, w3, w4⟩ := hw.take hx
      have h10 : (aPi (aPl A 0 ts) 3 0).1 10 = A.1 10 := rfl
      by_cases h0 : A.1 10 = 0
      · rw [if_pos h0] at hz ⊢
        obtain ⟨g1, g2, g3⟩ := wCarry_inv w1 (h10.trans h0) hz
        exact ⟨g1, by omega, by rw [g3]; exact Nat.le_refl _⟩
      · rw [if_neg h0] at hz ⊢
        obtain ⟨g1, g2, g3⟩ := dGo_inv w1 (fun q => h0 (h10.symm.trans q)) w2 w4 hz
        exact ⟨g1, by omega, g3⟩
theorem wTurn_ends {A : aS} (hw : wInv A) : ∃ r, wTurn 230000 A = some r := by
  unfold wTurn
  split
  · exact eOnce_ends hw.1 hw.2.2.1
  · exact ⟨_, rfl⟩
theorem wLoop_ends (p : Nat) : ∀ (r : Int32 × aS), (r.1 = 0 → wInv r.2 ∧ wPot r.2 ≤ p) → ∃ K q, K ≤ p + 2 ∧ wLoop 230000 K r = some q := by
  induction p with
  | zero =>
    intro r h
    by_cases h1 : r.1 = 0
    · obtain ⟨hi, hp⟩ := h h1
      by_cases h8 : (r.2.2.1 0).length = 0
      · exact ⟨1, wEnd r.2, by omega, by simp [wLoop, h1, h8]⟩
      · unfold wPot at hp
        omega
    · exact ⟨1, r, by omega, by simp [wLoop, h1]⟩
  | succ p ih =>
    intro r h
    by_cases h1 : r.1 = 0
    · obtain ⟨hi, hp⟩ := h h1
      by_cases h8 : (r.2.2.1 0).length = 0
      · exact ⟨1, wEnd r.2, by omega, by simp [wLoop, h1, h8]⟩
      · obtain ⟨r1, hr1⟩ := wTurn_ends hi
        obtain ⟨K, q, hK, hq⟩ := ih r1 (fun hz => by
          obtain ⟨g1, g2, -⟩ := wTurn_inv hi h8 hr1 hz
          exact ⟨g1, by omega⟩)
        exact ⟨K + 1, q, by omega, by simp [wLoop, h1, h8, hr1, hq]⟩
    · exact ⟨1, r, by omega, by simp [wLoop, h1]⟩
