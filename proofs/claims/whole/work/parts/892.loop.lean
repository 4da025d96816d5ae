theorem eBack_inv {A : aS} (hA : aInv A) (h0 : 0 < (A.2.1 8).length) (hm : aTop A ≠ -1) (hz : (eBack A).1 = 0) : aInv (eBack A).2 ∧ fPot (eBack A).2 < fPot A ∧ (eBack A).2.1 1 = A.1 1 := by
  have hA0 := hA
  obtain ⟨hN, hst, hp, hl, hb, h50, hf, hc⟩ := hA
  have hkeep := eBack_keep A
  obtain ⟨t, ht, htl⟩ := getLast_of h0
  have htop : aTop A = t := by
    unfold aTop
    rw [htl]
    rfl
  rw [htop] at hm
  have htp : 0 ≤ t := by
    rcases hf _ _ ht with ⟨q, -⟩ | q
    · exact absurd q hm
    · exact q
  unfold eBack at hz hkeep ⊢
  by_cases hfull : 3000 ≤ (A.2.1 0).length
  · rw [if_pos hfull] at hz
    exact absurd (ne_c hz) (by decide)
  · rw [if_neg hfull] at hz hkeep ⊢
    dsimp only at hkeep ⊢
    have hl8 : ∀ j, j ≠ 0 → j ≠ 8 → (aPi (aPl (aPl A 8 (aFs A)) 0 (aTop A :: A.2.1 0)) 3 0).2.1 j = A.2.1 j := fun j h1 h2 => by
      show va_up (va_up A.2.1 8 (aFs A)) 0 _ j = _
      rw [va_up_ne _ _ h1, va_up_ne _ _ h2]
    have h8 : (aPi (aPl (aPl A 8 (aFs A)) 0 (aTop A :: A.2.1 0)) 3 0).2.1 8 = aFs A := by
      rfl
    have hlen : (aFs A).length = (A.2.1 8).length - 1 := by
      unfold aFs
      rw [List.length_dropLast]
    have hpop := fPot_pop (B := aPi (aPl (aPl A 8 (aFs A)) 0 (aTop A :: A.2.1 0)) 3 0) h0 h8 (fun j h1 _ => hl8 j (by omega) (by omega))
    have hw : fW A ((A.2.1 8).length - 1) = 10 := by
      unfold fW
      rw [ht, if_neg (fun q => hm (Option.some.inj q))]
    refine ⟨hA0.of hkeep hst ?_ ?_ ?_ (fun i u hi => ?_) hc, ?_, rfl⟩
    · intro u hu
      have hu' : u ∈ aTop A :: A.2.1 0 := hu
      rcases List.mem_cons.mp hu' with q | q
      · rw [q, htop]
        exact htp
      · exact hp u q
    · show (aTop A :: A.2.1 0).length ≤ 3000
      rw [List.length_cons]
      omega
    · rw [h8]
      omega
    · rw [h8] at hi
      have hil := (List.getElem?_eq_some_iff.mp hi).1
      rw [hl8 (200 + i) (by omega) (by omega)]
      unfold aFs at hi
      rw [List.getElem?_dropLast, if_pos (by omega)] at hi
      exact hf i u hi
    · unfold fPot
      show 11 * ((A.1 0).toNatClampNeg - (A.1 1).toNatClampNeg) + _ < _
      omega
theorem eEnd_inv {A : aS} {ss : List Int32} (hA : aInv A) (h0 : 0 < (A.2.1 8).length) (hroom : (A.2.1 0).length < 3000) (hss : (A.2.1 8)[(A.2.1 8).length - 1]? = some (-1)) (hz : (eEnd A ss (A.1 16).toNatClampNeg).1 = 0) : aInv (eEnd A ss (A.1 16).toNatClampNeg).2 ∧ fPot (eEnd A ss (A.1 16).toNatClampNeg).2 < fPot A ∧ (eEnd A ss (A.1 16).toNatClampNeg).2.1 1 = A.1 1 := by
  have hA0 := hA
  obtain ⟨hN, hst, hp, hl, hb, h50, hf, c, hc, hc2⟩ := hA
  have hcc : (A.1 16).toNatClampNeg = c := by rw [hc2, nI_clamp (by omega)]
  rw [hcc] at hz ⊢
  have hkeep := eEnd_keep A ss c hc
  have hlen : (aFs A).length = (A.2.1 8).length - 1 := by
    unfold aFs
    rw [List.length_dropLast]
  have hw : 2 ≤ fW A ((A.2.1 8).length - 1) := by
    unfold fW
    rw [if_pos hss]
    rcases hf _ _ hss with ⟨-, q⟩ | q
    · omega
    · exact absurd q (by decide)
  have hmain : ∀ (C : aS) (i : Nat), i ≤ 100 → (∀ j, (j < 100 ∨ 200 ≤ j) → C.2.1 j = A.2.1 j) → (∀ j, j ≠ 16 → C.1 j = A.1 j) → (∃ d, d ≤ 100 ∧ C.1 16 = nI d) → eKeep A (aPl (aPl C 8 (aFs A)) 0 (nI (1100 + i) :: A.2.1 0)) → aInv (aPl (aPl C 8 (aFs A)) 0 (nI (1100 + i) :: A.2.1 0)) ∧ fPot (aPl (aPl C 8 (aFs A)) 0 (nI (1100 + i) :: A.2.1 0)) < fPot A ∧ (aPl (aPl C 8 (aFs A)) 0 (nI (1100 + i) :: A.2.1 0)).1 1 = A.1 1 := by
    intro C i hi hCl hCi hC16 hk
    have hl8 : ∀ j, j ≠ 0 → j ≠ 8 → (j < 100 ∨ 200 ≤ j) → (aPl (aPl C 8 (aFs A)) 0 (nI (1100 + i) :: A.2.1 0)).2.1 j = A.2.1 j := fun j h1 h2 h3 => by
      show va_up (va_up C.2.1 8 (aFs A)) 0 _ j = _
      rw [va_up_ne _ _ h1, va_up_ne _ _ h2]
      exact hCl j h3
    have h8 : (aPl (aPl C 8 (aFs A)) 0 (nI (1100 + i) :: A.2.1 0)).2.1 8 = aFs A := by
      rfl
    have hpop := fPot_pop (B := aPl (aPl C 8 (aFs A)) 0 (nI (1100 + i) :: A.2.1 0)) h0 h8 (fun j h1 _ => hl8 j (by omega) (by omega) (by omega))
    obtain ⟨G, s, q1, q2, q3, q4⟩ := hst
    refine ⟨hA0.of hk ⟨G, s, (hCi 0 (by decide)).trans q1, (hCi 1 (by decide)).trans q2, q3, q4⟩ ?_ ?_ ?_ (fun j u hj => ?_) hC16, ?_, hCi 1 (by decide)⟩
    · intro u hu
      have hu' : u ∈ nI (1100 + i) :: A.2.1 0 := hu
      rcases List.mem_cons.mp hu' with q | q
      · rw [q]
        exact nI_pos' (by omega)
      · exact hp u q
    · show (nI (1100 + i) :: A.2.1 0).length ≤ 3000
      rw [List.length_cons]
      omega
    · rw [h8]
      omega
    · rw [h8] at hj
      have hil := (List.getElem?_eq_some_iff.mp hj).1
      rw [hl8 (200 + j) (by omega) (by omega) (by omega)]
      unfold aFs at hj
      rw [List.getElem?_dropLast, if_pos (by omega)] at hj
      exact hf j u hj
    · unfold fPot
      show 11 * ((C.1 0).toNatClampNeg - (C.1 1).toNatClampNeg) + _ < _
      rw [hCi 0 (by decide), hCi 1 (by decide)]
      omega
  unfold eEnd at hz hkeep ⊢
  cases hsp : mSpell (fun i => A.2.1 (100 + i)) ss c with
  | some i =>
    rw [hsp] at hz hkeep
    have hi : i < c := by
      unfold mSpell at hsp
      rw [List.find?_range_eq_some] at hsp
      exact List.mem_range.mp hsp.2.1
    exact hmain A i (by omega) (fun _ _ => rfl) (fun _ _ => rfl) ⟨c, hc, hc2⟩ hkeep
  | none =>
    rw [hsp] at hz hkeep
    dsimp only at hz hkeep ⊢
    by_cases h100 : c = 100
    · rw [if_pos h100] at hz
      exact absurd (ne_c hz) (by decide)
    · rw [if_neg h100] at hz hkeep ⊢
      exact hmain (aPi (aPl A (100 + c) ss) 16 (nI (c + 1))) c hc (fun j hj => (by simp only [aPi, aPl, aPt, rput, va_up, upd] <;> (repeat rw [if_neg (by omega)]))) (fun j hj => (by simp only [aPi, aPl, aPt, rput, va_up, upd] <;> (repeat rw [if_neg (by omega)]))) ⟨c + 1, by omega, rfl⟩ hkeep
theorem eGo_inv {A : aS} (hA : aInv A) (h0 : 0 < (A.2.1 8).length) (hm : aTop A = -1) (hz : (eGo A).1 = 0) : aInv (eGo A).2 ∧ fPot (eGo A).2 < fPot A ∧ (eGo A).2.1 1 = A.1 1 := by
  have hA0 := hA
  obtain ⟨hN, hst, hp, hl, hb, h50, hf, hc⟩ := hA
  have hkeep := eGo_keep A h50 hc
  obtain ⟨t0, ht0, htl⟩ := getLast_of h0
  have htop : t0 = -1 := by
    rw [← hm]
    unfold aTop
    rw [htl]
    rfl
  rw [htop] at ht0
  unfold eGo at hz hkeep ⊢
  cases hx : A.2.1 0 with
  | nil =>
    rw [hx] at hz
    exact absurd (ne_c hz) (by decide)
  | cons t ts =>
    rw [hx] at hz hkeep
    dsimp only at hz hkeep ⊢
    have hpt : aPos ts := fun u hu => hp u (by rw [hx]; exact List.mem_cons_of_mem _ hu)
    have hlt2 : ts.length < 3000 := by
      rw [hx, List.length_cons] at hl
      omega
    have hsg : ∀ j, j ≠ 0 → (aPi (aPl A 0 ts) 3 0).2.1 j = A.2.1 j := fun j hj => va_up_ne _ _ hj
    have hB : aInv (aPi (aPl A 0 ts) 3 0) := hA0.of ((eKeep.l A 0 ts (by omega)).tr (eKeep.i _ 3 0 (by omega))) hst hpt (by show ts.length ≤ 3000; omega) h50 (fun i u hi => by rw [hsg (200 + i) (by omega)]; exact hf i u hi) hc
    have hpotB : fPot (aPi (aPl A 0 ts) 3 0) = fPot A := by
      unfold fPot
      rw [fPot_same (A := A) (B := aPi (aPl A 0 ts) 3 0) rfl (fun j h1 _ => hsg j (by omega))]
      rfl
    unfold eSign at hz hkeep ⊢
    by_cases h263 : t = 263
    · rw [if_pos h263] at hz hkeep ⊢
      by_cases hs0 : (A.2.1 (200 + ((A.2.1 8).length - 1))).length = 0
      · rw [if_pos hs0] at hz
        exact absurd (ne_c hz) (by decide)
      · rw [if_neg hs0] at hz hkeep ⊢
        have := eEnd_inv (A := aPi (aPl A 0 ts) 3 0) hB h0 hlt2 ht0 hz
        rw [hpotB] at this
        exact this
    · rw [if_neg h263] at hz hkeep ⊢
      by_cases hsn : 0 ≤ t ∧ t ≤ 255 ∧ (A.2.1 (200 + ((A.2.1 8).length - 1))).length < 8
      · rw [if_pos hsn] at hz hkeep ⊢
        obtain ⟨fr, hfr⟩ : ∃ fr, (A.2.1 8).length = fr + 1 := ⟨(A.2.1 8).length - 1, by omega⟩
        rw [hfr, Nat.add_sub_cancel] at hsn ht0 hkeep ⊢
        have h8 : (aPl (aPi (aPl A 0 ts) 3 0) (200 + fr) (A.2.1 (200 + fr) ++ [t])).2.1 8 = A.2.1 8 := by
          show va_up (va_up A.2.1 0 ts) (200 + fr) _ 8 = _
          rw [va_up_ne _ _ (by omega), va_up_ne _ _ (by omega)]
        have hs2 : ∀ j, j ≠ 0 → j ≠ 200 + fr → (aPl (aPi (aPl A 0 ts) 3 0) (200 + fr) (A.2.1 (200 + fr) ++ [t])).2.1 j = A.2.1 j := fun j h1 h2 => by
          show va_up (va_up A.2.1 0 ts) (200 + fr) _ j = _
          rw [va_up_ne _ _ h2, va_up_ne _ _ h1]
        have hs3 : (aPl (aPi (aPl A 0 ts) 3 0) (200 + fr) (A.2.1 (200 + fr) ++ [t])).2.1 (200 + fr) = A.2.1 (200 + fr) ++ [t] := va_up_self _ _ _
        have hl0 : (aPl (aPi (aPl A 0 ts) 3 0) (200 + fr) (A.2.1 (200 + fr) ++ [t])).2.1 0 = ts := by
          show va_up (va_up A.2.1 0 ts) (200 + fr) _ 0 = _
          rw [va_up_ne _ _ (by omega), va_up_self]
        refine ⟨hA0.of hkeep hst (by rw [hl0]; exact hpt) (by rw [hl0]; omega) (by rw [h8]; exact h50) (fun i u hi => ?_) hc, ?_, rfl⟩
        · rw [h8] at hi
          by_cases hif : i = fr
          · subst hif
            rw [hs3]
            rw [ht0] at hi
            cases hi
            refine Or.inl ⟨rfl, ?_⟩
            rw [List.length_append]
            exact hsn.2.2
          · rw [hs2 (200 + i) (by omega) (by omega)]
            exact hf i u hi
        · unfold fPot
          show 11 * ((A.1 0).toNatClampNeg - (A.1 1).toNatClampNeg) + _ < _
          rw [h8, hfr]
          simp only [sumF]
          rw [sumF_congr (k := fW A) fr (fun i hi => by
            unfold fW
            rw [h8, hs2 (200 + i) (by omega) (by omega)])]
          have e1 : fW A fr = 10 - (A.2.1 (200 + fr)).length := by
            unfold fW
            rw [if_pos ht0]
          have e2 : fW (aPl (aPi (aPl A 0 ts) 3 0) (200 + fr) (A.2.1 (200 + fr) ++ [t])) fr = 10 - ((A.2.1 (200 + fr)).length + 1) := by
            unfold fW
            rw [h8, if_pos ht0, hs3, List.length_append]
            rfl
          rw [e1, e2]
          omega
      · rw [if_neg hsn] at hz
        exact absurd (ne_c hz) (by decide)
theorem eTurn_inv {A : aS} (hA : aInv A) (h0 : 0 < (A.2.1 8).length) (hz : (eTurn A).1 = 0) : aInv (eTurn A).2 ∧ fPot (eTurn A).2 < fPot A ∧ ((eTurn A).2.1 1 = A.1 1 ∨ (eTurn A).2.1 1 = A.1 1 + 1) := by
  have hB : aInv (aPi A 4 0) := hA
  have hpotB : fPot (aPi A 4 0) = fPot A := rfl
  unfold eTurn eTurnB at hz ⊢
  by_cases hc : ((decide (aTop A = -1) || !(decide (A.1 4 = 0))) && aCan (aPi A 4 0)) = true
  · rw [if_pos hc] at hz ⊢
    obtain ⟨h1, h2, h3⟩ := eFirst_inv hB hz
    exact ⟨h1, by rw [← hpotB]; exact h2, Or.inr h3⟩
  · rw [if_neg hc] at hz ⊢
    by_cases hm : aTop A = -1
    · rw [if_pos (decide_eq_true hm)] at hz ⊢
      obtain ⟨h1, h2, h3⟩ := eGo_inv hB h0 hm hz
      exact ⟨h1, by rw [← hpotB]; exact h2, Or.inl h3⟩
    · rw [if_neg (fun q => hm (of_decide_eq_true q))] at hz ⊢
      obtain ⟨h1, h2, h3⟩ := eBack_inv hB h0 hm hz
      exact ⟨h1, by rw [← hpotB]; exact h2, Or.inl h3⟩
/-- the turns end -/
theorem eLoop_ends (p : Nat) : ∀ (r : Int32 × aS), (r.1 = 0 → aInv r.2 ∧ fPot r.2 ≤ p) → ∃ N q, N ≤ p + 2 ∧ eLoop N r = some q := by
  induction p with
  | zero =>
    intro r h
    by_cases h1 : r.1 = 0
    · obtain ⟨hi, hp⟩ := h h1
      by_cases h8 : (r.2.2.1 8).length = 0
      · exact ⟨1, r, by omega, by simp [eLoop, h1, h8]⟩
      · by_cases hz : (eTurn r.2).1 = 0
        · have := (eTurn_inv hi (by omega) hz).2.1
          omega
        · exact ⟨2, eTurn r.2, by omega, by simp [eLoop, h1, h8, hz]⟩
    · exact ⟨1, r, by omega, by simp [eLoop, h1]⟩
  | succ p ih =>
    intro r h
    by_cases h1 : r.1 = 0
    · obtain ⟨hi, hp⟩ := h h1
      by_cases h8 : (r.2.2.1 8).length = 0
      · exact ⟨1, r, by omega, by simp [eLoop, h1, h8]⟩
      · obtain ⟨N, q, hN, hq⟩ := ih (eTurn r.2) (fun hz => by
          obtain ⟨g1, g2, -⟩ := eTurn_inv hi (by omega) hz
          exact ⟨g1, by omega⟩)
        exact ⟨N + 1, q, by omega, by simp [eLoop, h1, h8, hq]⟩
    · exact ⟨1, r, by omega, by simp [eLoop, h1]⟩
theorem eLoop_more : ∀ (N M : Nat) (r q : Int32 × aS), N ≤ M → eLoop N r = some q → eLoop M r = some q
  | 0, _, _, _, _, h => by simp [eLoop] at h
  | N + 1, M, r, q, hM, h => by
    obtain ⟨M', rfl⟩ : ∃ M', M = M' + 1 := ⟨M - 1, by omega⟩
    simp only [eLoop] at h ⊢
    split
    · rename_i h1
      rw [if_pos h1] at h
      split
      · rename_i h2
        rw [if_pos h2] at h
        exact h
      · rename_i h2
        rw [if_neg h2] at h
        exact eLoop_more N M' _ q (by omega) h
    · rename_i h1
      rw [if_neg h1] at h
      exact h
