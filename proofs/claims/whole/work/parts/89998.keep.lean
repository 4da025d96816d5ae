/-! WHAT STANDS BETWEEN THE CALLS, faults or not -/
def fInv (A : aS) : Prop := aNm A ∧ (A.2.1 3).length = (A.2.1 2).length ∧ (∃ G, G ≤ 20000 ∧ A.1 0 = nI G) ∧ (∀ m, m < (A.2.1 2).length → aPos (aRow A m 10)) ∧ (∃ k, k ≤ 9 ∧ A.1 13 = nI k) ∧ (A.1 11 = 0 ∨ A.1 11 = 1) ∧ aPos (A.2.1 410) ∧ ∀ g i, g < (A.1 15).toNatClampNeg → i < 200 → A.2.2.1 (1 + g) i = -1 ∨ ∃ m : Nat, m < (A.2.1 2).length ∧ A.2.2.1 (1 + g) i = nI m
def pInv (A : aS) : Prop := fInv A ∧ aPos (A.2.1 0) ∧ (A.2.1 0).length ≤ 3000
theorem fInv.to {A B : aS} (h : fInv A) (h0 : B.1 0 = A.1 0) (h13 : ∃ k, k ≤ 9 ∧ B.1 13 = nI k) (h11 : B.1 11 = A.1 11) (h15 : B.1 15 = A.1 15) (h2 : B.2.1 2 = A.2.1 2) (h3 : B.2.1 3 = A.2.1 3) (ht : aPos (B.2.1 410)) (hr : ∀ j, 1000 ≤ j → B.2.1 j = A.2.1 j) (hF : B.2.2.1 = A.2.2.1) : fInv B := by
  obtain ⟨q1, q2, q3, q4, q5, q6, q7, q8⟩ := h
  refine ⟨?_, by rw [h2, h3]; exact q2, by rw [h0]; exact q3, fun m hm => ?_, h13, by rw [h11]; exact q6, ht, by rw [h15, hF, h2]; exact q8⟩
  · unfold aNm
    rw [h2, hF]
    exact q1
  · rw [h2] at hm
    rw [show aRow B m 10 = aRow A m 10 from hr _ (by omega)]
    exact q4 m hm
theorem wInv.f {A : aS} (h : wInv A) : fInv A := by
  obtain ⟨⟨q1, ⟨G, s, hG, hs, hsG, hG2⟩, -, -, q4, -⟩, q2, -, -, q5, -, q7, q8, -, -, -, q6⟩ := h
  exact ⟨q1, q2, ⟨G, hG2, hG⟩, q4, q5.1, q6, q7, q8⟩
theorem fInv.keep {A B : aS} (h : fInv A) (k : eKeep A B) : fInv B := by
  obtain ⟨k1, k2, k3⟩ := k
  exact h.to (k1 0 (by omega)) (by rw [k1 13 (by omega)]; exact h.2.2.2.2.1) (k1 11 (by omega)) (k1 15 (by omega)) (k2 2 (by omega)) (k2 3 (by omega)) (by rw [k2 410 (by omega)]; exact h.2.2.2.2.2.2.1) (fun j hj => k2 j (by omega)) k3
theorem wCarry_bad {A : aS} {t : Int32} (h : (wCarry A t).1 ≠ 0) : (wCarry A t).2 = A := by
  revert h
  unfold wCarry
  split
  · split
    · exact fun h => absurd rfl h
    · split
      · exact fun h => absurd rfl h
      · split
        · split
          · unfold wLate
            split
            · exact fun _ => rfl
            · exact fun h => absurd rfl h
          · split
            · exact fun h => absurd rfl h
            · exact fun _ => rfl
        · exact fun _ => rfl
  · exact fun h => absurd rfl h
theorem dGoB_state {r : Int32 × aS} (h : (dGoB r).1 ≠ 0) : (dGoB r).2 = r.2 := by
  revert h
  unfold dGoB
  split
  · split
    · split
      · exact fun _ => rfl
      · exact fun h => absurd rfl h
    · exact fun _ => rfl
  · exact fun _ => rfl
theorem dAcc_13 {A : aS} {t : Int32} (hk : ∃ k, k ≤ 9 ∧ A.1 13 = nI k) : ∃ k, k ≤ 9 ∧ (dAcc A t).2.1 13 = nI k := by
  unfold dAcc
  split
  · unfold dName
    split
    · exact hk
    · exact hk
  · split
    · unfold dRows
      split
      · exact hk
      · split
        · exact hk
        · split
          · split
            · rename_i hq
              have h9 : tArg t ≤ 9 := by
                by_cases h : 311 ≤ t ∧ t ≤ 319
                · obtain ⟨a, h1, h2, h3, -⟩ := tArg_of h
                  omega
                · unfold tArg
                  rw [if_neg h]
                  omega
              exact ⟨tArg t, h9, hq.symm⟩
            · exact hk
          · rw [(dAdd_keep A _ t).1]
            exact hk
    · unfold dText
      split
      · exact hk
      · split
        · rw [(dAdd_keep _ _ t).1]
          exact hk
        · exact hk
theorem dGo_bad {A : aS} {t : Int32} (h : fInv A) (ht : 0 ≤ t) (hz : (dGo A t).1 ≠ 0) : fInv (dGo A t).2 := by
  unfold dGo at hz ⊢
  rw [dGoB_state hz]
  have hk := h.2.2.2.2.1
  obtain ⟨g1, g2, g3⟩ := dAcc_keep A t hk
  exact h.to (g1 0 (by omega)) (dAcc_13 hk) (dAcc_11 A t) (g1 15 (by omega)) (g2 2 (by omega)) (g2 3 (by omega)) (dAcc_text hk h.2.2.2.2.2.2.1 ht) (fun j hj => g2 j (by omega)) (by show (dAcc A t).2.2.2.1 = A.2.2.1; rw [g3])
theorem wTurn_f {N : Nat} {A : aS} {r : Int32 × aS} (hw : wInv A) (hne : (A.2.1 0).length ≠ 0) (h : wTurn N A = some r) : fInv r.2 := by
  by_cases hz : r.1 = 0
  · exact (wTurn_inv hw hne h hz).1.f
  · unfold wTurn at h
    by_cases hc : (!(wTakes A) && aCan A) = true
    · rw [if_pos hc] at h
      exact hw.f.keep (eOnce_inv hw.1 hw.2.2.2.1 h).1
    · rw [if_neg hc] at h
      have hr := (Option.some.inj h).symm
      subst hr
      unfold wTake at hz ⊢
      cases hx : A.2.1 0 with
      | nil =>
        rw [hx] at hne
        exact absurd rfl hne
      | cons t ts =>
        rw [hx] at hz
        dsimp only at hz ⊢
        obtain ⟨w1, w2, w3, w4⟩ := hw.take hx
        by_cases h0 : A.1 10 = 0
        · rw [if_pos h0] at hz ⊢
          rw [wCarry_bad hz]
          exact w1.f
        · rw [if_neg h0] at hz ⊢
          exact dGo_bad w1.f w2 hz
theorem wLoop_f {N : Nat} : ∀ (K : Nat) (r res : Int32 × aS), (r.1 = 0 → wInv r.2) → fInv r.2 → wLoop N K r = some res → fInv res.2 ∧ (res.1 = 0 → res.2.2.1 0 = [])
  | 0, _, _, _, _, h => by cases h
  | K + 1, r, res, hw, hf, h => by
    unfold wLoop at h
    by_cases h1 : r.1 = 0
    · rw [if_pos h1] at h
      by_cases h8 : (r.2.2.1 0).length = 0
      · rw [if_pos h8] at h
        have hr := (Option.some.inj h).symm
        subst hr
        exact ⟨hf, fun _ => List.eq_nil_of_length_eq_zero h8⟩
      · rw [if_neg h8] at h
        cases hT : wTurn N r.2 with
        | none =>
          rw [hT] at h
          cases h
        | some q =>
          rw [hT, Option.bind_some] at h
          exact wLoop_f K q res (fun hz => (wTurn_inv (hw h1) h8 hT hz).1) (wTurn_f (hw h1) h8 hT) h
    · rw [if_neg h1] at h
      have hr := (Option.some.inj h).symm
      subst hr
      exact ⟨hf, fun q => absurd q h1⟩
/-- what a call of expand comes to -/
def aMl (A : aS) (p q : Int32) : aS := aPi (aPi A 8 p) 9 q
theorem aMl_i {A : aS} {p q : Int32} {j : Nat} (h8 : j ≠ 8) (h9 : j ≠ 9) : (aMl A p q).1 j = A.1 j := by
  show upd (upd A.1 8 p) 9 q j = A.1 j
  rw [upd_other h9, upd_other h8]
theorem aMl_same (A : aS) : aMl A (A.1 8) (A.1 9) = A := by
  show (upd (upd A.1 8 (A.1 8)) 9 (A.1 9), A.2) = A
  have : upd (upd A.1 8 (A.1 8)) 9 (A.1 9) = A.1 := by
    funext j
    by_cases h9 : j = 9
    · rw [h9, upd_same]
    · rw [upd_other h9]
      by_cases h8 : j = 8
      · rw [h8, upd_same]
      · rw [upd_other h8]
  rw [this]
theorem aMl_aMl (A : aS) (p q r s : Int32) : aMl (aMl A p q) r s = aMl A r s := by
  show (upd (upd (upd (upd A.1 8 p) 9 q) 8 r) 9 s, A.2) = (upd (upd A.1 8 r) 9 s, A.2)
  have : upd (upd (upd (upd A.1 8 p) 9 q) 8 r) 9 s = upd (upd A.1 8 r) 9 s := by
    funext j
    by_cases h9 : j = 9
    · rw [h9, upd_same, upd_same]
    · rw [upd_other h9, upd_other h9]
      by_cases h8 : j = 8
      · rw [h8, upd_same, upd_same]
      · rw [upd_other h8, upd_other h8, upd_other h9, upd_other h8]
  rw [this]
def eBeg1 (A : aS) : aS := aMl (eBegin A) 0 (-1)
def pRun (b : Int32) (A : aS) (res : Int32 × aS) : Prop := if b = 0 then (if aCan (eBeg1 A) = true then eOnce 230000 (eBeg1 A) = some res else res = (0, eBeg1 A)) else ∃ K, K ≤ 70000000 ∧ wLoop 230000 K (0, wBegin (eBegin A)) = some res
theorem pInv.a {A : aS} (h : pInv A) (hc : ∃ c, c ≤ 100 ∧ A.1 16 = nI c) : aInv (eBegin A) ∧ fInv (eBegin A) := by
  obtain ⟨hf, hp, hl⟩ := h
  have hf2 : fInv (eBegin A) := hf.to rfl hf.2.2.2.2.1 rfl rfl rfl rfl hf.2.2.2.2.2.2.1 (fun j hj => (by
    show va_up A.2.1 8 [] j = A.2.1 j
    rw [va_up_ne _ _ (by omega)])) rfl
  obtain ⟨G, hG, hG0⟩ := hf.2.2.1
  refine ⟨⟨hf2.1, ⟨G, 0, hG0, rfl, by omega, hG⟩, hp, hl, hf2.2.2.2.1, by show (0 : Nat) ≤ 50; omega, fun i t hi => ?_, hc⟩, hf2⟩
  rw [show (eBegin A).2.1 8 = [] from rfl] at hi
  simp at hi
theorem pInv.a1 {A : aS} (h : pInv A) (hc : ∃ c, c ≤ 100 ∧ A.1 16 = nI c) : aInv (eBeg1 A) ∧ fInv (eBeg1 A) := by
  obtain ⟨ha, hf⟩ := h.a hc
  exact ⟨ha.to rfl rfl (fun _ _ => rfl) rfl rfl ha.2.2.1 ha.2.2.2.1 rfl (fun _ _ _ => rfl) rfl, hf.to rfl hf.2.2.2.2.1 rfl rfl rfl rfl hf.2.2.2.2.2.2.1 (fun _ _ => rfl) rfl⟩
theorem pInv.w {A : aS} (h : pInv A) (hc : ∃ c, c ≤ 100 ∧ A.1 16 = nI c) : wInv (wBegin (eBegin A)) := by
  obtain ⟨ha, hf⟩ := h.a hc
  have hl : ∀ j, j ≠ 1 → (wBegin (eBegin A)).2.1 j = (eBegin A).2.1 j := fun j hj => va_up_ne _ _ hj
  refine ⟨ha.to (hl 2 (by decide)) rfl (fun j hj => hl j (by omega)) rfl rfl ha.2.2.1 ha.2.2.2.1 rfl (fun j h1 h2 => hl j (by omega)) rfl, hf.2.1, rfl, rfl, ⟨hf.2.2.2.2.1, Or.inl rfl⟩, Or.inl rfl, hf.2.2.2.2.2.2.1, hf.2.2.2.2.2.2.2, fun _ => rfl, fun q => ?_, fun q => ?_, hf.2.2.2.2.2.1⟩
  · exact absurd (show (0 : Int32) = 1 from q) (by decide)
  · exact absurd (show (0 : Int32) = 2 ∨ (0 : Int32) = 3 from q) (by decide)
theorem pRun_ends (b : Int32) {A : aS} (h : pInv A) (hc : ∃ c, c ≤ 100 ∧ A.1 16 = nI c) : ∃ res, pRun b A res ∧ fInv res.2 ∧ (res.1 = 0 → aPos (res.2.2.1 0) ∧ (res.2.2.1 0).length ≤ 3000) := by
  obtain ⟨ha, hf⟩ := h.a1 hc
  unfold pRun
  by_cases hb : b = 0
  · simp only [if_pos hb]
    by_cases hcan : aCan (eBeg1 A) = true
    · simp only [if_pos hcan]
      obtain ⟨res, hr⟩ := eOnce_ends ha rfl
      obtain ⟨k1, k2⟩ := eOnce_inv ha rfl hr
      exact ⟨res, hr, hf.keep k1, fun hz => ⟨(k2 hz).1.2.2.1, (k2 hz).1.2.2.2.1⟩⟩
    · simp only [if_neg hcan]
      exact ⟨_, rfl, hf, fun _ => ⟨h.2.1, h.2.2⟩⟩
  · simp only [if_neg hb]
    have hw := h.w hc
    have hp : wPot (wBegin (eBegin A)) ≤ 69999000 := by
      obtain ⟨G, hG, hG0⟩ := h.1.2.2.1
      have hl := h.2.2
      show 3001 * ((A.1 0).toNatClampNeg - (0 : Int32).toNatClampNeg) + (A.2.1 0).length + (if (-1 : Int32) = -1 then 0 else 1) ≤ 69999000
      rw [hG0, nI_clamp (by omega), if_pos rfl]
      omega
    obtain ⟨K, res, hK, hL⟩ := wLoop_ends 69999000 (0, wBegin (eBegin A)) (fun _ => ⟨hw, hp⟩)
    obtain ⟨g1, g2⟩ := wLoop_f K _ res (fun _ => hw) hw.f hL
    exact ⟨res, ⟨K, by omega, hL⟩, g1, fun hz => by
      rw [g2 hz]
      exact ⟨fun t ht => by simp at ht, by simp⟩⟩
