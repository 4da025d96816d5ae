/-! THE REFERENCE'S STATE AND THE MACHINE'S -/
def rM (st : rS) (A : aS) : Prop := st.1 6 = nI (A.2.1 2).length ∧ (∀ m, m < (A.2.1 2).length → st.2 2 m = nI (aNum A m) ∧ aNum A m ≤ 9 ∧ st.2 3 m = aMk A m ∧ RB st m (aRow A m 10) ∧ ∀ r, r ≤ 9 → RR st (10 * m + r) (aRow A m r)) ∧ (∀ i, i < 200 → st.2 8 i = A.2.2.1 0 i) ∧ ∃ g, g ≤ 20 ∧ A.1 15 = nI g ∧ st.1 14 = nI g ∧ ∀ j i, j < g → i < 200 → st.2 9 (200 * j + i) = A.2.2.1 (1 + j) i
def rN (st : rS) (A : aS) : Prop := ∃ c, c ≤ 100 ∧ A.1 16 = nI c ∧ st.1 16 = nI c ∧ ∀ i, i < c → st.2 10 i = nI (A.2.1 (100 + i)).length ∧ (A.2.1 (100 + i)).length ≤ 8 ∧ ∀ (j : Nat) (t : Int32), (A.2.1 (100 + i))[j]? = some t → st.2 11 (8 * i + j) = t
def RX (st : rS) (A : aS) : Prop := st.1 0 = A.1 0 ∧ st.1 23 = A.1 1 ∧ st.1 22 = A.1 2 ∧ RT st A.2.2.2 ∧ rM st A ∧ rN st A ∧ RO st (A.2.1 1) ∧ st.1 32 = A.1 8 ∧ st.1 33 = A.1 9
theorem rM.k {st st' : rS} {A : aS} (h : rM st A) (h6 : st'.1 6 = st.1 6) (h14 : st'.1 14 = st.1 14) (hj : ∀ j, 2 ≤ j → j ≤ 9 → st'.2 j = st.2 j) : rM st' A := by
  obtain ⟨h1, h2, h3, g, h4, h5, h7, h8⟩ := h
  refine ⟨h6.trans h1, fun m hm => ?_, fun i hi => by rw [hj 8 (by omega) (by omega)]; exact h3 i hi, g, h4, h5, h14.trans h7, fun j i hj1 hi => by rw [hj 9 (by omega) (by omega)]; exact h8 j i hj1 hi⟩
  obtain ⟨q1, q2, q3, q4, q5⟩ := h2 m hm
  exact ⟨by rw [hj 2 (by omega) (by omega)]; exact q1, q2, by rw [hj 3 (by omega) (by omega)]; exact q3, q4.same (hj 4 (by omega) (by omega)) (hj 5 (by omega) (by omega)), fun r hr => (q5 r hr).same (hj 6 (by omega) (by omega)) (hj 7 (by omega) (by omega))⟩
theorem rM.abs {st : rS} {A B : aS} (h : rM st A) (h2 : B.2.1 2 = A.2.1 2) (h3 : B.2.1 3 = A.2.1 3) (hr : ∀ j, 1000 ≤ j → B.2.1 j = A.2.1 j) (hF : B.2.2.1 = A.2.2.1) (h15 : B.1 15 = A.1 15) : rM st B := by
  obtain ⟨q1, q2, q3, g, q4, q5, q6, q7⟩ := h
  refine ⟨by rw [h2]; exact q1, fun m hm => ?_, by rw [hF]; exact q3, g, q4, h15.trans q5, q6, by rw [hF]; exact q7⟩
  rw [h2] at hm
  obtain ⟨w1, w2, w3, w4, w5⟩ := q2 m hm
  have e1 : aNum B m = aNum A m := by unfold aNum; rw [h2]
  have e2 : aMk B m = aMk A m := by unfold aMk; rw [h3]
  have e3 : ∀ r, aRow B m r = aRow A m r := fun r => hr _ (by omega)
  rw [e1, e2, e3 10]
  exact ⟨w1, w2, w3, w4, fun r hr => by rw [e3 r]; exact w5 r hr⟩
theorem rN.k {st st' : rS} {A : aS} (h : rN st A) (h16 : st'.1 16 = st.1 16) (h10 : st'.2 10 = st.2 10) (h11 : st'.2 11 = st.2 11) : rN st' A := by
  obtain ⟨c, q1, q2, q3, q4⟩ := h
  exact ⟨c, q1, q2, h16.trans q3, fun i hi => by rw [h10, h11]; exact q4 i hi⟩
theorem rN.abs {st : rS} {A B : aS} (h : rN st A) (h16 : B.1 16 = A.1 16) (hl : ∀ j, 100 ≤ j → j < 200 → B.2.1 j = A.2.1 j) : rN st B := by
  obtain ⟨c, q1, q2, q3, q4⟩ := h
  exact ⟨c, q1, h16.trans q2, q3, fun i hi => by rw [hl (100 + i) (by omega) (by omega)]; exact q4 i hi⟩
theorem RO.same {st st' : rS} {os : List Int32} (h : RO st os) (h4 : st'.1 4 = st.1 4) (h1 : st'.2 1 = st.2 1) : RO st' os := ⟨h4.trans h.1, h.2.1, fun i t hi => by rw [h1]; exact h.2.2 i t hi⟩
/-- what the reference's state keeps -/
def rK (st st' : rS) : Prop := (∀ k, k = 0 ∨ k = 4 ∨ k = 6 ∨ k = 14 ∨ k = 16 ∨ k = 32 ∨ k = 33 → st'.1 k = st.1 k) ∧ ∀ j, 1 ≤ j → j ≤ 11 → st'.2 j = st.2 j
theorem rK.rf (st : rS) : rK st st := ⟨fun _ _ => rfl, fun _ _ _ => rfl⟩
theorem rK.tr {a b c : rS} (h : rK a b) (g : rK b c) : rK a c := ⟨fun k hk => (g.1 k hk).trans (h.1 k hk), fun j h1 h2 => (g.2 j h1 h2).trans (h.2 j h1 h2)⟩
theorem RX.to {st st' : rS} {A : aS} (B : aS) (h : RX st A) (hk : rK st st') (h23 : st'.1 23 = B.1 1) (h22 : st'.1 22 = B.1 2) (hT : RT st' B.2.2.2) (hi : ∀ j, j = 0 ∨ j = 8 ∨ j = 9 ∨ j = 15 ∨ j = 16 → B.1 j = A.1 j) (hl : ∀ j, (1 ≤ j ∧ j ≤ 3) ∨ (100 ≤ j ∧ j < 200) ∨ 1000 ≤ j → B.2.1 j = A.2.1 j) (hF : B.2.2.1 = A.2.2.1) : RX st' B := by
  obtain ⟨q0, -, -, -, q4, q5, q6, q7, q8⟩ := h
  refine ⟨by rw [hk.1 0 (by omega), q0, hi 0 (by omega)], h23, h22, hT, (q4.k (hk.1 6 (by omega)) (hk.1 14 (by omega)) (fun j h1 h2 => hk.2 j (by omega) (by omega))).abs (hl 2 (by omega)) (hl 3 (by omega)) (fun j hj => hl j (by omega)) hF (hi 15 (by omega)), (q5.k (hk.1 16 (by omega)) (hk.2 10 (by omega) (by omega)) (hk.2 11 (by omega) (by omega))).abs (hi 16 (by omega)) (fun j h1 h2 => hl j (by omega)), ?_, by rw [hk.1 32 (by omega), q7, hi 8 (by omega)], by rw [hk.1 33 (by omega), q8, hi 9 (by omega)]⟩
  rw [hl 1 (by omega)]
  exact q6.same (hk.1 4 (by omega)) (hk.2 1 (by omega) (by omega))
def pas (fs : List Int32) : List Int32 := fs.filter (fun t => !(decide (t = -1)))
theorem pas_snoc (fs : List Int32) (a : Int32) : pas (fs ++ [a]) = pas fs ++ (if a = -1 then [] else [a]) := by
  unfold pas
  rw [List.filter_append]
  congr 1
  by_cases h : a = -1 <;> simp [h]
def RFr (st : rS) (A : aS) : Prop := st.1 28 = nI (A.2.1 8).length ∧ (A.2.1 8).length ≤ 50 ∧ RV st (pas (A.2.1 8) ++ A.2.1 0) ∧ ∀ (i : Nat) (t : Int32), (A.2.1 8)[i]? = some t → st.2 16 i = (if t = -1 then 262 else 261) ∧ (t = -1 → st.2 17 i = nI (pas ((A.2.1 8).take i)).length ∧ st.2 18 i = nI (A.2.1 (200 + i)).length ∧ (A.2.1 (200 + i)).length ≤ 8 ∧ ∀ (j : Nat) (u : Int32), (A.2.1 (200 + i))[j]? = some u → st.2 15 (8 * i + j) = u)
theorem rAf_pas {f : Nat → Int32} {fs : List Int32} (h : ∀ (i : Nat) (t : Int32), fs[i]? = some t → f i = (if t = -1 then 262 else 261)) : ∀ k, k ≤ fs.length → rAf f k = (pas (fs.take k)).length
  | 0, _ => rfl
  | k + 1, hk => by
    obtain ⟨t, ht⟩ : ∃ t, fs[k]? = some t := ⟨fs[k]'(by omega), List.getElem?_eq_getElem (by omega)⟩
    rw [List.take_succ, ht]
    show rAf f k + _ = (pas (fs.take k ++ [t])).length
    rw [pas_snoc, List.length_append, rAf_pas h k (by omega), h k t ht]
    by_cases hm : t = -1
    · rw [if_pos hm, if_pos hm]
      rfl
    · rw [if_neg hm, if_neg hm]
      rfl
def RQ (st : rS) (A : aS) : Prop := RX st A ∧ RFr st A ∧ st.1 24 = A.1 3 ∧ st.1 21 = 0
theorem rM.mk {st : rS} {A : aS} (h : rM st A) (hN : aNm A) : rMk st := by
  intro i hi
  rw [h.2.2.1 i hi]
  rcases hN.2 i hi with q | ⟨m, hm, q⟩
  · exact Or.inl q
  · exact Or.inr ⟨m, Nat.lt_of_lt_of_le hm hN.1, q⟩
theorem rM.mac {st : rS} {A : aS} (h : rM st A) (t : Int32) : rMac st t = aMac A t := by
  unfold rMac aMac
  cases ht : tName t with
  | false => simp
  | true =>
    obtain ⟨j, hj, ej, ej2⟩ := tName_nI ht
    simp only [if_true]
    rw [ej2, h.2.2.1 j hj]
theorem rM.out {st : rS} {A : aS} (h : rM st A) (hN : aNm A) : rOut st = aOut A := by
  funext t
  unfold rOut aOut
  rw [h.mac t]
  by_cases hneg : aMac A t < 0
  · rw [decide_eq_false (Int32.not_le.mpr hneg)]
    rfl
  · obtain ⟨m, hm, hmn⟩ := aMac_pos hN hneg
    have h100 := hN.1
    rw [hmn, nI_clamp (by omega), (h.2.1 m hm).2.2.1]
theorem RQ.can {st : rS} {A : aS} {k : Nat} {t : Int32} (hX : rM st A) (hg : g_get (nI k) st = some t) : g_canBeExpanded (nI k) st = some (b01 (aHas A t)) := by
  rw [g_canBeExpanded_at hg, hX.mac t]
  unfold aHas
  rw [Bool.or_comm]
