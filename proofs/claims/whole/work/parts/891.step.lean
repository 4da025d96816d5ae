/-! EACH TURN KEEPS IT, AND THE NUMBER OF TURNS IS BOUNDED -/
def eKeep (A B : aS) : Prop := (∀ j, j = 0 ∨ (5 ≤ j ∧ j ≤ 15) → B.1 j = A.1 j) ∧ (∀ j, (1 ≤ j ∧ j ≤ 7) ∨ 400 ≤ j → B.2.1 j = A.2.1 j) ∧ B.2.2.1 = A.2.2.1
theorem eKeep.rf (A : aS) : eKeep A A := ⟨fun _ _ => rfl, fun _ _ => rfl, rfl⟩
theorem eKeep.tr {A B C : aS} (h : eKeep A B) (g : eKeep B C) : eKeep A C := ⟨fun j hj => (g.1 j hj).trans (h.1 j hj), fun j hj => (g.2.1 j hj).trans (h.2.1 j hj), g.2.2.trans h.2.2⟩
theorem eKeep.i (A : aS) (k : Nat) (v : Int32) (hk : (1 ≤ k ∧ k ≤ 4) ∨ k = 16) : eKeep A (aPi A k v) := ⟨fun j hj => (by simp only [aPi, aPl, aPt, rput, va_up, upd] <;> (repeat rw [if_neg (by omega)])), fun _ _ => rfl, rfl⟩
theorem eKeep.l (A : aS) (k : Nat) (v : List Int32) (hk : k = 0 ∨ (8 ≤ k ∧ k < 400)) : eKeep A (aPl A k v) := ⟨fun _ _ => rfl, fun j hj => (by simp only [aPi, aPl, aPt, rput, va_up, upd] <;> (repeat rw [if_neg (by omega)])), rfl⟩
theorem eKeep.t (A : aS) (v : List (Int32 × Int32 × Int32)) : eKeep A (aPt A v) := ⟨fun _ _ => rfl, fun _ _ => rfl, rfl⟩
theorem eName_keep (A : aS) (t : Int32) (m : Nat) : eKeep A (eName A t m).2 := by
  unfold eName
  split
  · exact eKeep.i A 2 t (by omega)
  · exact (eKeep.l A 0 _ (by omega)).tr (eKeep.t _ _)
theorem eAft_keep (A : aS) : eKeep A (eAft A).2 := by
  unfold eAft
  split
  · split
    · exact ((eKeep.l A 0 _ (by omega)).tr (eKeep.l _ 8 _ (by omega))).tr (eKeep.i _ 4 _ (by omega))
    · exact eKeep.rf A
  · exact eKeep.rf A
theorem eNam_keep (A : aS) (h : (A.2.1 8).length ≤ 50) : eKeep A (eNam A).2 := by
  unfold eNam
  split
  · exact (eKeep.l A _ _ (by omega)).tr (eKeep.l _ 8 _ (by omega))
  · exact eKeep.rf A
theorem eTokB_keep (A : aS) (t : Int32) (h : (A.2.1 8).length ≤ 50) : eKeep A (eTokB A t).2 := by
  unfold eTokB
  split
  · exact eKeep.i A 3 1 (by omega)
  · split
    · exact eAft_keep A
    · split
      · exact eNam_keep A h
      · split
        · exact eKeep.rf A
        · exact eName_keep A t _
theorem eTok_keep (A : aS) (h : (A.2.1 8).length ≤ 50) : eKeep A (eTok A).2 := by
  unfold eTok
  split
  · exact eKeep.rf A
  · exact (eKeep.l A 0 _ (by omega)).tr (eTokB_keep _ _ h)
theorem eFirst_keep (A : aS) (h : (A.2.1 8).length ≤ 50) : eKeep A (eFirst A).2 := by
  unfold eFirst
  split
  · exact eKeep.rf A
  · exact (eKeep.i A 1 _ (by omega)).tr (eTok_keep _ h)
theorem eBack_keep (A : aS) : eKeep A (eBack A).2 := by
  unfold eBack
  split
  · exact eKeep.rf A
  · exact ((eKeep.l A 8 _ (by omega)).tr (eKeep.l _ 0 _ (by omega))).tr (eKeep.i _ 3 _ (by omega))
theorem eEnd_keep (A : aS) (ss : List Int32) (c : Nat) (hc : c ≤ 100) : eKeep A (eEnd A ss c).2 := by
  unfold eEnd
  split
  · exact (eKeep.l A 8 _ (by omega)).tr (eKeep.l _ 0 _ (by omega))
  · split
    · exact eKeep.rf A
    · exact (((eKeep.l A _ _ (by omega)).tr (eKeep.i _ 16 _ (by omega))).tr (eKeep.l _ 8 _ (by omega))).tr (eKeep.l _ 0 _ (by omega))
theorem eSign_keep (A : aS) (t : Int32) (ss : List Int32) (f : Nat) (hf : f ≤ 50) (hc : ∃ c, c ≤ 100 ∧ A.1 16 = nI c) : eKeep A (eSign A t ss f).2 := by
  obtain ⟨c, hc1, hc2⟩ := hc
  unfold eSign
  split
  · split
    · exact eKeep.rf A
    · rw [hc2, nI_clamp (by omega)]
      exact eEnd_keep A ss c hc1
  · split
    · exact eKeep.l A _ _ (by omega)
    · exact eKeep.rf A
theorem eGo_keep (A : aS) (h : (A.2.1 8).length ≤ 50) (hc : ∃ c, c ≤ 100 ∧ A.1 16 = nI c) : eKeep A (eGo A).2 := by
  unfold eGo
  split
  · exact eKeep.rf A
  · exact ((eKeep.l A 0 _ (by omega)).tr (eKeep.i _ 3 _ (by omega))).tr (eSign_keep _ _ _ _ (by omega) hc)
theorem eTurn_keep (A : aS) (h : (A.2.1 8).length ≤ 50) (hc : ∃ c, c ≤ 100 ∧ A.1 16 = nI c) : eKeep A (eTurn A).2 := by
  unfold eTurn eTurnB
  split
  · exact (eKeep.i A 4 0 (by omega)).tr (eFirst_keep _ h)
  · split
    · exact (eKeep.i A 4 0 (by omega)).tr (eGo_keep _ h hc)
    · exact (eKeep.i A 4 0 (by omega)).tr (eBack_keep _)
/-- the invariant for a state that differs where tokens are expanded -/
theorem aInv.of {A B : aS} (h : aInv A) (hk : eKeep A B) (hst : aSt B) (hp : aPos (B.2.1 0)) (hl : (B.2.1 0).length ≤ 3000) (h50 : (B.2.1 8).length ≤ 50) (hf : ∀ (i : Nat) (t : Int32), (B.2.1 8)[i]? = some t → (t = -1 ∧ (B.2.1 (200 + i)).length ≤ 8) ∨ 0 ≤ t) (hc : ∃ c, c ≤ 100 ∧ B.1 16 = nI c) : aInv B := by
  obtain ⟨h1, -, -, -, h5, -⟩ := h
  have e2 : B.2.1 2 = A.2.1 2 := hk.2.1 2 (by omega)
  refine ⟨⟨by rw [e2]; exact h1.1, by rw [e2, hk.2.2]; exact h1.2⟩, hst, hp, hl, fun m hm => ?_, h50, hf, hc⟩
  rw [e2] at hm
  have : aRow B m 10 = aRow A m 10 := hk.2.1 _ (by omega)
  rw [this]
  exact h5 m hm
theorem fPot_push {A B : aS} {a : Int32} (h8 : B.2.1 8 = A.2.1 8 ++ [a]) (hs : ∀ j, 200 ≤ j → j < 200 + (A.2.1 8).length → B.2.1 j = A.2.1 j) : sumF (fW B) (B.2.1 8).length ≤ sumF (fW A) (A.2.1 8).length + 10 := by
  rw [show (B.2.1 8).length = (A.2.1 8).length + 1 by rw [h8, List.length_append]; rfl]
  simp only [sumF]
  rw [sumF_congr (k := fW A) _ (fun i hi => ?_)]
  · have : fW B (A.2.1 8).length ≤ 10 := by
      unfold fW
      split <;> omega
    omega
  · unfold fW
    rw [h8, List.getElem?_append_left hi, hs (200 + i) (by omega) (by omega)]
theorem fPot_pop {A B : aS} (h0 : 0 < (A.2.1 8).length) (h8 : B.2.1 8 = aFs A) (hs : ∀ j, 200 ≤ j → j < 200 + (A.2.1 8).length → B.2.1 j = A.2.1 j) : sumF (fW B) (B.2.1 8).length + fW A ((A.2.1 8).length - 1) = sumF (fW A) (A.2.1 8).length := by
  obtain ⟨n, hn⟩ : ∃ n, (A.2.1 8).length = n + 1 := ⟨(A.2.1 8).length - 1, by omega⟩
  have hl : (B.2.1 8).length = n := by
    rw [h8]
    unfold aFs
    rw [List.length_dropLast, hn]
    rfl
  rw [hl, hn, Nat.add_sub_cancel]
  simp only [sumF]
  rw [sumF_congr (k := fW A) _ (fun i hi => ?_)]
  unfold fW
  rw [h8, hs (200 + i) (by omega) (by omega)]
  unfold aFs
  rw [List.getElem?_dropLast, if_pos (show i < (A.2.1 8).length - 1 by omega)]
theorem fPot_same {A B : aS} (h8 : B.2.1 8 = A.2.1 8) (hs : ∀ j, 200 ≤ j → j < 200 + (A.2.1 8).length → B.2.1 j = A.2.1 j) : sumF (fW B) (B.2.1 8).length = sumF (fW A) (A.2.1 8).length := by
  rw [h8]
  refine sumF_congr _ (fun i hi => ?_)
  unfold fW
  rw [h8, hs (200 + i) (by omega) (by omega)]
theorem fPot_le {A B : aS} (h8 : B.2.1 8 = A.2.1 8) (hs : ∀ j, 200 ≤ j → j < 200 + (A.2.1 8).length → B.2.1 j = A.2.1 j) : sumF (fW B) (B.2.1 8).length ≤ sumF (fW A) (A.2.1 8).length + 10 := by
  rw [fPot_same h8 hs]
  omega
theorem aRow_0 {A : aS} {xs : List Int32} {m r : Nat} : aRow (aPl A 0 xs) m r = aRow A m r := va_up_ne A.2.1 xs (show 1000 + 20 * m + r ≠ 0 by omega)
theorem ne_c {c : Int32} {A : aS} (h : (c, A).1 = 0) : c = 0 := h
theorem aMac_pos {A : aS} (hN : aNm A) {t : Int32} (h : ¬ aMac A t < 0) : ∃ m, m < (A.2.1 2).length ∧ aMac A t = nI m := by
  cases ht : tName t with
  | false =>
    have : aMac A t = -1 := by simp [aMac, ht]
    rw [this] at h
    exact absurd (by decide) h
  | true =>
    obtain ⟨j, hj, ej, ej2⟩ := tName_nI ht
    have hmac : aMac A t = A.2.2.1 0 j := by simp [aMac, ht, ej2]
    rcases hN.2 j hj with hq | ⟨m, hmm, hq⟩
    · rw [hmac, hq] at h
      exact absurd (by decide) h
    · exact ⟨m, hmm, by rw [hmac, hq]⟩
/-- the first token is expanded without a fault: a step more, at most a frame more -/
theorem eFirst_inv {A : aS} (hA : aInv A) (h0 : (eFirst A).1 = 0) : aInv (eFirst A).2 ∧ fPot (eFirst A).2 < fPot A ∧ (eFirst A).2.1 1 = A.1 1 + 1 := by
  have hA0 := hA
  obtain ⟨hN, ⟨G, s, hG, hs, hsG, hG2⟩, hp, hl, hb, h50, hf, hc⟩ := hA
  have h100 := hN.1
  have hkeep := eFirst_keep A h50
  unfold eFirst at h0 hkeep ⊢
  by_cases heq : A.1 1 = A.1 0
  · rw [if_pos heq] at h0
    exact absurd (ne_c h0) (by decide)
  · rw [if_neg heq] at h0 hkeep ⊢
    have hlt : s < G := by
      rcases Nat.lt_or_ge s G with q | q
      · exact q
      · exact absurd (by rw [hs, hG, show s = G by omega]) heq
    have hst1 : ∀ B : aS, B.1 0 = A.1 0 → B.1 1 = A.1 1 + 1 → aSt B := fun B q1 q2 => ⟨G, s + 1, q1.trans hG, by rw [q2, hs, nI_1], by omega, hG2⟩
    have hpot : ∀ B : aS, B.1 0 = A.1 0 → B.1 1 = A.1 1 + 1 → sumF (fW B) (B.2.1 8).length ≤ sumF (fW A) (A.2.1 8).length + 10 → fPot B < fPot A := by
      intro B q1 q2 q3
      unfold fPot
      rw [q1, q2, hG, hs, nI_1, nI_clamp (show G < 2 ^ 31 by omega), nI_clamp (show s < 2 ^ 31 by omega), nI_clamp (show s + 1 < 2 ^ 31 by omega)]
      omega
    unfold eTok at h0 hkeep ⊢
    cases hx : A.2.1 0 with
    | nil =>
      have hx1 : (aPi A 1 (A.1 1 + 1)).2.1 0 = [] := hx
      rw [hx1] at h0 hkeep ⊢
      dsimp only at h0 hkeep ⊢
      exact ⟨hA0.of hkeep (hst1 _ rfl rfl) hp hl h50 hf hc, hpot _ rfl rfl (fPot_le (A := A) rfl (fun _ _ _ => rfl)), rfl⟩
    | cons t ts =>
      have hx1 : (aPi A 1 (A.1 1 + 1)).2.1 0 = t :: ts := hx
      rw [hx1] at h0 hkeep ⊢
      dsimp only at h0 hkeep ⊢
      have hpt : aPos ts := fun u hu => hp u (by rw [hx]; exact List.mem_cons_of_mem _ hu)
      have hlt2 : ts.length < 3000 := by
        rw [hx, List.length_cons] at hl
        omega
      have hsg : ∀ (k : Nat) (v : List Int32), k = 0 → ∀ j, 200 ≤ j → va_up A.2.1 k v j = A.2.1 j := fun k v hk j hj => (by simp only [aPi, aPl, aPt, rput, va_up, upd] <;> (repeat rw [if_neg (by omega)]))
      unfold eTokB at h0 hkeep ⊢
      by_cases h260 : t = 260
      · rw [if_pos h260] at h0 hkeep ⊢
        dsimp only at hkeep ⊢
        refine ⟨hA0.of hkeep (hst1 _ rfl rfl) hpt (by show ts.length ≤ 3000; omega) h50 (fun i u hi => ?_) hc, hpot _ rfl rfl (fPot_le (A := A) rfl (fun j h1 _ => hsg 0 ts rfl j h1)), rfl⟩
        have := hf i u hi
        rw [show (aPi (aPl (aPi A 1 (A.1 1 + 1)) 0 ts) 3 1).2.1 (200 + i) = A.2.1 (200 + i) from hsg 0 ts rfl _ (by omega)]
        exact this
      · rw [if_neg h260] at h0 hkeep ⊢
        by_cases h261 : t = 261
        · rw [if_pos h261] at h0 hkeep ⊢
          unfold eAft at h0 hkeep ⊢
          have hx2 : (aPl (aPi A 1 (A.1 1 + 1)) 0 ts).2.1 0 = ts := rfl
          rw [hx2] at h0 hkeep ⊢
          cases ts with
          | nil => exact absurd (ne_c h0) (by decide)
          | cons a bs =>
            cases bs with
            | nil => exact absurd (ne_c h0) (by decide)
            | cons b cs =>
              dsimp only at h0 hkeep ⊢
              have h8 : (aPl (aPi A 1 (A.1 1 + 1)) 0 (a :: b :: cs)).2.1 8 = A.2.1 8 := rfl
              rw [h8] at h0 hkeep ⊢
              by_cases hh : (A.2.1 8).length < 50
              · rw [if_pos hh] at h0 hkeep ⊢
                dsimp only at hkeep ⊢
                have hl8 : ∀ j, 200 ≤ j → (aPi (aPl (aPl (aPl (aPi A 1 (A.1 1 + 1)) 0 (a :: b :: cs)) 0 (b :: cs)) 8 (A.2.1 8 ++ [a])) 4 1).2.1 j = A.2.1 j := fun j hj => by
                  show va_up (va_up (va_up A.2.1 0 (a :: b :: cs)) 0 (b :: cs)) 8 (A.2.1 8 ++ [a]) j = A.2.1 j
                  rw [va_up_ne _ _ (by omega), va_up_ne _ _ (by omega), va_up_ne _ _ (by omega)]
                refine ⟨hA0.of hkeep (hst1 _ rfl rfl) (fun u hu => hpt u (List.mem_cons_of_mem _ hu)) ?_ ?_ (fun i u hi => ?_) hc, hpot _ rfl rfl (fPot_push (A := A) rfl (fun j h1 _ => hl8 j h1)), rfl⟩
                · show (b :: cs).length ≤ 3000
                  simp only [List.length_cons] at hlt2 ⊢
                  omega
                · show (A.2.1 8 ++ [a]).length ≤ 50
                  rw [List.length_append]
                  exact hh
                · rw [hl8 (200 + i) (by omega)]
                  have hi' : (A.2.1 8 ++ [a])[i]? = some u := hi
                  by_cases hil : i < (A.2.1 8).length
                  · rw [List.getElem?_append_left hil] at hi'
                    exact hf i u hi'
                  · rw [List.getElem?_append_right (by omega)] at hi'
                    have hu := List.mem_of_getElem? hi'
                    rw [List.mem_singleton.mp hu]
                    exact Or.inr (hpt a (by simp))
              · rw [if_neg hh] at h0
                exact absurd (ne_c h0) (by decide)
        · rw [if_neg h261] at h0 hkeep ⊢
          by_cases h262 : t = 262
          · rw [if_pos h262] at h0 hkeep ⊢
            unfold eNam at h0 hkeep ⊢
            have h8 : (aPl (aPi A 1 (A.1 1 + 1)) 0 ts).2.1 8 = A.2.1 8 := rfl
            rw [h8] at h0 hkeep ⊢
            by_cases hh : (A.2.1 8).length < 50
            · rw [if_pos hh] at h0 hkeep ⊢
              dsimp only at hkeep ⊢
              have hl8 : ∀ j, j ≠ 0 → j ≠ 8 → j ≠ 200 + (A.2.1 8).length → (aPl (aPl (aPl (aPi A 1 (A.1 1 + 1)) 0 ts) (200 + (A.2.1 8).length) []) 8 (A.2.1 8 ++ [-1])).2.1 j = A.2.1 j := fun j h1 h2 h3 => by
                show va_up (va_up (va_up A.2.1 0 ts) (200 + (A.2.1 8).length) []) 8 (A.2.1 8 ++ [-1]) j = A.2.1 j
                rw [va_up_ne _ _ h2, va_up_ne _ _ h3, va_up_ne _ _ h1]
              have hl0 : (aPl (aPl (aPl (aPi A 1 (A.1 1 + 1)) 0 ts) (200 + (A.2.1 8).length) []) 8 (A.2.1 8 ++ [-1])).2.1 0 = ts := by
                show va_up (va_up (va_up A.2.1 0 ts) (200 + (A.2.1 8).length) []) 8 (A.2.1 8 ++ [-1]) 0 = ts
                rw [va_up_ne _ _ (by decide), va_up_ne _ _ (by omega), va_up_self]
              refine ⟨hA0.of hkeep (hst1 _ rfl rfl) (by rw [hl0]; exact hpt) (by rw [hl0]; omega) ?_ (fun i u hi => ?_) hc, hpot _ rfl rfl (fPot_push (A := A) rfl (fun j h1 h2 => hl8 j (by omega) (by omega) (by omega))), rfl⟩
              · show (A.2.1 8 ++ [-1]).length ≤ 50
                rw [List.length_append]
                exact hh
              · have hi' : (A.2.1 8 ++ [-1])[i]? = some u := hi
                by_cases hil : i < (A.2.1 8).length
                · rw [List.getElem?_append_left hil] at hi'
                  rw [hl8 (200 + i) (by omega) (by omega) (by omega)]
                  exact hf i u hi'
                · rw [List.getElem?_append_right (by omega)] at hi'
                  have hil2 := (List.getElem?_eq_some_iff.mp hi').1
                  have hu := List.mem_of_getElem? hi'
                  have hi0 : i = (A.2.1 8).length := by
                    simp at hil2
                    omega
                  refine Or.inl ⟨List.mem_singleton.mp hu, ?_⟩
                  rw [hi0]
                  show (va_up (va_up (va_up A.2.1 0 ts) (200 + (A.2.1 8).length) []) 8 (A.2.1 8 ++ [-1]) (200 + (A.2.1 8).length)).length ≤ 8
                  rw [va_up_ne _ _ (by omega), va_up_self]
                  decide
            · rw [if_neg hh] at h0
              exact absurd (ne_c h0) (by decide)
          · rw [if_neg h262] at h0 hkeep ⊢
            have hmac : aMac (aPl (aPi A 1 (A.1 1 + 1)) 0 ts) t = aMac A t := rfl
            rw [hmac] at h0 hkeep ⊢
            by_cases hneg : aMac A t < 0
            · rw [if_pos hneg] at h0 hkeep ⊢
              dsimp only at hkeep ⊢
              refine ⟨hA0.of hkeep (hst1 _ rfl rfl) hpt (by show ts.length ≤ 3000; omega) h50 (fun i u hi => ?_) hc, hpot _ rfl rfl (fPot_le (A := A) rfl (fun j h1 _ => hsg 0 ts rfl j h1)), rfl⟩
              have := hf i u hi
              rw [show (aPl (aPi A 1 (A.1 1 + 1)) 0 ts).2.1 (200 + i) = A.2.1 (200 + i) from hsg 0 ts rfl _ (by omega)]
              exact this
            · rw [if_neg hneg] at h0 hkeep ⊢
              obtain ⟨m, hm, hmn⟩ := aMac_pos hN hneg
              rw [hmn, nI_clamp (by omega)] at h0 hkeep ⊢
              unfold eName at h0 hkeep ⊢
              have hbody : aPos (aRow (aPl (aPi A 1 (A.1 1 + 1)) 0 ts) m 10) := by
                rw [show aRow (aPl (aPi A 1 (A.1 1 + 1)) 0 ts) m 10 = aRow A m 10 from aRow_0]
                exact hb m hm
              cases hmm : mName (aOut (aPl (aPi A 1 (A.1 1 + 1)) 0 ts)) (aLng (aPl (aPi A 1 (A.1 1 + 1)) 0 ts) m) (aRow (aPl (aPi A 1 (A.1 1 + 1)) 0 ts) m) (aNum (aPl (aPi A 1 (A.1 1 + 1)) 0 ts) m) (aRow (aPl (aPi A 1 (A.1 1 + 1)) 0 ts) m 10) ((aPl (aPi A 1 (A.1 1 + 1)) 0 ts).2.1 0) with
              | inl c =>
                rw [hmm] at h0
                exact absurd h0 (mName_ne hmm)
              | inr q =>
                rw [hmm] at h0 hkeep
                dsimp only at hkeep ⊢
                obtain ⟨g1, g2⟩ := mName_pos hbody hpt hmm
                have hl8 : ∀ j, 200 ≤ j → (aPt (aPl (aPl (aPi A 1 (A.1 1 + 1)) 0 ts) 0 q.2.2) (mTr (aPl (aPi A 1 (A.1 1 + 1)) 0 ts).2.2.2 (t, nI q.1, nI q.2.1))).2.1 j = A.2.1 j := fun j hj => by
                  show va_up (va_up A.2.1 0 ts) 0 q.2.2 j = A.2.1 j
                  rw [va_up_ne _ _ (by omega), va_up_ne _ _ (by omega)]
                refine ⟨hA0.of hkeep (hst1 _ rfl rfl) g1 g2 h50 (fun i u hi => ?_) hc, hpot _ rfl rfl (fPot_le (A := A) rfl (fun j h1 _ => hl8 j h1)), rfl⟩
                have := hf i u hi
                rw [hl8 (200 + i) (by omega)]
                exact this
