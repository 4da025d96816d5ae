/-! THE CLASS'S BOOK OF MACROS -/
def cMac (o : oT) (h : hH) (A : aS) (m a : Nat) : Prop := ∃ (ra ta : Nat) (f : Nat → Option Nat), h a = k7 (nI (aNum A m)) (b01 (aLng A m)) (b01 (!(decide (aMk A m &&& 2 = 0)))) ra ta ∧ h ra = kR 3 (aNum A m + 1) f ∧ o a = some (100 + 20 * m) ∧ o ra = some (100 + 20 * m) ∧ aNum A m ≤ 9 ∧ (∀ r, r ≤ aNum A m → ∃ b c, f r = some b ∧ Rw o h (101 + 20 * m + r) b 200 c (aRow A m r)) ∧ ∃ c, Rw o h (112 + 20 * m) ta 200 c (aRow A m 10)
theorem cMac.fr {W : Nat → Prop} {o o' : oT} {h h' : hH} {A : aS} {m a : Nat} (hM : cMac o h A m a) (F : Fr W o o' h h') (w : ∀ l, 100 + 20 * m ≤ l → l < 120 + 20 * m → ¬ W l) : cMac o' h' A m a := by
  obtain ⟨ra, ta, f, e1, e2, t1, t2, hk, hr, c, ht⟩ := hM
  refine ⟨ra, ta, f, ((F _ _ t1).2 (w _ (by omega) (by omega))).trans e1, ((F _ _ t2).2 (w _ (by omega) (by omega))).trans e2, (F _ _ t1).1, (F _ _ t2).1, hk, fun r hrk => ?_, c, ht.fr F (w _ (by omega) (by omega))⟩
  obtain ⟨b, c', h1, h2⟩ := hr r hrk
  exact ⟨b, c', h1, h2.fr F (w _ (by omega) (by omega))⟩
/-- the macro's picture hangs on its own lists alone -/
theorem cMac.abs {o : oT} {h : hH} {A B : aS} {m a : Nat} (hM : cMac o h A m a) (h1 : aNum B m = aNum A m) (h2 : aMk B m = aMk A m) (h3 : ∀ r, r ≤ 10 → aRow B m r = aRow A m r) : cMac o h B m a := by
  obtain ⟨ra, ta, f, e1, e2, t1, t2, hk, hr, c, ht⟩ := hM
  have hlng : aLng B m = aLng A m := by unfold aLng; rw [h2]
  refine ⟨ra, ta, f, by rw [h1, h2, hlng]; exact e1, by rw [h1]; exact e2, t1, t2, by rw [h1]; exact hk, fun r hrk => ?_, c, by rw [h3 10 (by omega)]; exact ht⟩
  rw [h1] at hrk
  obtain ⟨b, c', q1, q2⟩ := hr r hrk
  exact ⟨b, c', q1, by rw [h3 r (by omega)]; exact q2⟩
def aNm (A : aS) : Prop := (A.2.1 2).length ≤ 100 ∧ ∀ i, i < 200 → A.2.2.1 0 i = -1 ∨ ∃ m : Nat, m < (A.2.1 2).length ∧ A.2.2.1 0 i = nI m
def cB (x : Nat) (o : oT) (h : hH) (A : aS) : Prop := ∃ (f0 : Nat → Option Nat) (f1 : Nat → Int32) (g : Nat), h (x + 1) = k3 (x + 2) (x + 3) (x + 4) (nI (A.2.1 2).length) (nI g) ∧ h (x + 2) = kR 1 100 f0 ∧ h (x + 3) = kA 200 f1 ∧ h (x + 4) = kR 2 20 (fun j => if j < 20 then some (x + 4 + 1 + j) else none) ∧ (∀ j, j < 20 → ∃ f, h (x + 4 + 1 + j) = kA 200 f ∧ o (x + 4 + 1 + j) = some 1 ∧ (j < g → ∀ i, i < 200 → f i = A.2.2.1 (1 + j) i)) ∧ (∀ i, i < 200 → f1 i = A.2.2.1 0 i) ∧ A.1 15 = nI g ∧ g ≤ 20 ∧ o (x + 1) = some 1 ∧ o (x + 2) = some 1 ∧ o (x + 3) = some 1 ∧ o (x + 4) = some 1 ∧ ∀ m, m < (A.2.1 2).length → ∃ a, f0 m = some a ∧ cMac o h A m a
theorem cB.fr {W : Nat → Prop} {x : Nat} {o o' : oT} {h h' : hH} {A : aS} (hB : cB x o h A) (F : Fr W o o' h h') (w1 : ¬ W 1) (w : ∀ l, 100 ≤ l → ¬ W l) : cB x o' h' A := by
  obtain ⟨f0, f1, g, e1, e2, e3, e4, e5, hn, hg, hg2, t1, t2, t3, t4, hm⟩ := hB
  refine ⟨f0, f1, g, ((F _ _ t1).2 w1).trans e1, ((F _ _ t2).2 w1).trans e2, ((F _ _ t3).2 w1).trans e3, ((F _ _ t4).2 w1).trans e4, fun j hj => ?_, hn, hg, hg2, (F _ _ t1).1, (F _ _ t2).1, (F _ _ t3).1, (F _ _ t4).1, fun m hmm => ?_⟩
  · obtain ⟨f, q1, q2, q3⟩ := e5 j hj
    exact ⟨f, ((F _ _ q2).2 w1).trans q1, (F _ _ q2).1, q3⟩
  · obtain ⟨a, q1, q2⟩ := hm m hmm
    exact ⟨a, q1, q2.fr F (fun l h1 _ => w l (by omega))⟩
theorem cB.abs {x : Nat} {o : oT} {h : hH} {A B : aS} (hB : cB x o h A) (h2 : B.2.1 2 = A.2.1 2) (h3 : B.2.1 3 = A.2.1 3) (hr : ∀ j, 1000 ≤ j → B.2.1 j = A.2.1 j) (hF : B.2.2.1 = A.2.2.1) (h15 : B.1 15 = A.1 15) : cB x o h B := by
  obtain ⟨f0, f1, g, e1, e2, e3, e4, e5, hn, hg, hg2, t1, t2, t3, t4, hm⟩ := hB
  refine ⟨f0, f1, g, by rw [h2]; exact e1, e2, e3, e4, by rw [hF]; exact e5, by rw [hF]; exact hn, by rw [h15]; exact hg, hg2, t1, t2, t3, t4, fun m hmm => ?_⟩
  rw [h2] at hmm
  obtain ⟨a, q1, q2⟩ := hm m hmm
  exact ⟨a, q1, q2.abs (by unfold aNum; rw [h2]) (by unfold aMk; rw [h3]) (fun r _ => hr _ (by omega))⟩
theorem cB.obj {x : Nat} {o : oT} {h : hH} {A : aS} (hB : cB x o h A) : ∃ fs, hObj h (x + 1) 3 = some fs := by
  obtain ⟨f0, f1, g, e1, -⟩ := hB
  exact ⟨_, k3_o e1⟩
theorem cB.isFull {x : Nat} {o : oT} {h : hH} {A : aS} (hB : cB x o h A) (hN : aNm A) : f_Book_isFull (x + 1) h = some (if (A.2.1 2).length = 100 then 1 else 0) := by
  obtain ⟨f0, f1, g, e1, -⟩ := hB
  have h100 := hN.1
  unfold f_Book_isFull
  rw [k3_g3 e1, Option.bind_some, show (100 : Int32) = nI 100 from rfl]
  by_cases hl : (A.2.1 2).length = 100
  · rw [if_neg (nI_nlt (by omega) (by omega)), if_pos hl]
  · rw [if_pos (nI_lt (by omega) (by omega)), if_neg hl]
theorem cB.isOuter {x : Nat} {o : oT} {h : hH} {A : aS} (hB : cB x o h A) (hN : aNm A) (t : Int32) : f_Book_isOuter (x + 1) t h = some (b01 (aOut A t)) := by
  obtain ⟨f0, f1, g, e1, e2, e3, e4, e5, hn, hg, hg2, t1, t2, t3, t4, hm⟩ := hB
  have h100 := hN.1
  unfold f_Book_isOuter
  cases ht : tName t with
  | false =>
    have hout : aOut A t = false := by simp [aOut, aMac, ht]
    rw [hout]
    by_cases h0 : t - 1000 < 0
    · rw [if_pos h0]
      rfl
    · rw [if_neg h0, if_neg ((tName_no ht).resolve_left h0)]
      rfl
  | true =>
    obtain ⟨j, hj, ej, ej2⟩ := tName_nI ht
    have hmac : aMac A t = A.2.2.1 0 j := by simp [aMac, ht, ej2]
    rw [ej, if_neg (nI_pos (by omega)), if_pos (show _ < (200 : Int32) from nI_lt (b := 200) hj (by decide)), k3_g1 e1, Option.bind_some, Option.bind_some, kA_get e3 hj (by decide), Option.bind_some, hn j hj]
    rcases hN.2 j hj with hq | ⟨m, hmm, hq⟩
    · rw [hq] at hmac ⊢
      have hout : aOut A t = false := by simp [aOut, hmac]
      rw [if_pos (by decide), hout]
      rfl
    · rw [hq] at hmac ⊢
      obtain ⟨a, q1, ra, ta, f, q2, -⟩ := hm m hmm
      rw [if_neg (nI_pos (by omega)), k3_g3 e1, Option.bind_some, if_neg (nI_ge (by omega) (by omega)), k3_g0 e1, Option.bind_some, Option.bind_some, kR_get e2 (by omega) (by decide), Option.bind_some, q1]
      unfold f_Book_isOuter_j48 hNull
      dsimp only
      rw [k7_g2 q2, Option.bind_some]
      have hout : aOut A t = !(decide (aMk A m &&& 2 = 0)) := by
        unfold aOut
        rw [hmac, decide_eq_true (nI_pos' (by omega)), nI_clamp (by omega), Bool.true_and]
      rw [hout]
      cases decide (aMk A m &&& 2 = 0) <;> rfl
theorem cB.numbered {x : Nat} {o : oT} {h : hH} {A : aS} (hB : cB x o h A) (hN : aNm A) (v : Int32) : (∃ m a, v = nI m ∧ m < (A.2.1 2).length ∧ f_Book_numbered (x + 1) v h = some (some a) ∧ cMac o h A m a) ∨ ((v < 0 ∨ nI (A.2.1 2).length ≤ v) ∧ f_Book_numbered (x + 1) v h = some none) := by
  obtain ⟨f0, f1, g, e1, e2, e3, e4, e5, hn, hg, hg2, t1, t2, t3, t4, hm⟩ := hB
  have h100 := hN.1
  unfold f_Book_numbered
  by_cases h0 : v < 0
  · exact Or.inr ⟨Or.inl h0, by rw [if_pos h0]⟩
  · rw [if_neg h0, k3_g3 e1, Option.bind_some]
    by_cases h1 : nI (A.2.1 2).length ≤ v
    · exact Or.inr ⟨Or.inr h1, by rw [if_pos h1]⟩
    · obtain ⟨m, hm2, rfl⟩ := nI_of h0
      have hmm : m < (A.2.1 2).length := Nat.lt_of_not_le (fun q => h1 (nI_le q hm2))
      obtain ⟨a, q1, q2⟩ := hm m hmm
      refine Or.inl ⟨m, a, rfl, hmm, ?_, q2⟩
      rw [if_neg h1, k3_g0 e1]
      simp only [Option.bind_some]
      rw [kR_len e2, Option.bind_some, if_neg (nI_ge (by omega) (by omega)), kR_get e2 (by omega) (by decide), Option.bind_some, q1]
theorem cB.numberOf {x : Nat} {o : oT} {h : hH} {A : aS} (hB : cB x o h A) (i : Int32) : f_Book_numberOf (x + 1) i h = some (mAt ((List.range 200).map (A.2.2.1 0)) i) := by
  obtain ⟨f0, f1, g, e1, e2, e3, e4, e5, hn, -⟩ := hB
  unfold f_Book_numberOf
  by_cases h0 : i < 0
  · rw [if_pos h0, mAt_out (Or.inl h0)]
  · obtain ⟨j, hj, rfl⟩ := nI_of h0
    rw [if_neg h0, k3_g1 e1]
    simp only [Option.bind_some]
    rw [kA_len e3, Option.bind_some]
    by_cases h1 : 200 ≤ j
    · rw [if_pos (nI_le h1 hj), mAt_out (Or.inr ⟨j, by simpa using h1, hj, rfl⟩)]
    · rw [if_neg (nI_ge (by omega) (by omega)), kA_get e3 (by omega) (by decide), Option.bind_some, hn j (by omega), mAt_in (t := A.2.2.1 0 j) (by simp [List.getElem?_range (show j < 200 by omega)]) hj]
theorem cB.macroOf {x : Nat} {o : oT} {h : hH} {A : aS} (hB : cB x o h A) (hN : aNm A) (t : Int32) : (aMac A t = -1 ∧ f_Book_macroOf (x + 1) t h = some none) ∨ ∃ m a, aMac A t = nI m ∧ m < (A.2.1 2).length ∧ f_Book_macroOf (x + 1) t h = some (some a) ∧ cMac o h A m a := by
  obtain ⟨fs, ho⟩ := hB.obj
  have hnum : f_Book_numberOf (x + 1) (t - 1000) h = some (aMac A t) := by
    rw [hB.numberOf]
    cases ht : tName t with
    | false =>
      have : aMac A t = -1 := by simp [aMac, ht]
      rw [this]
      rcases tName_no ht with h0 | h0
      · rw [mAt_out (Or.inl h0)]
      · by_cases h1 : t - 1000 < 0
        · rw [mAt_out (Or.inl h1)]
        · obtain ⟨j, hj, e⟩ := nI_of h1
          rw [e] at h0 ⊢
          rw [mAt_out (Or.inr ⟨j, by simpa using Nat.le_of_not_lt (fun q => h0 (nI_lt (b := 200) q (by decide))), hj, rfl⟩)]
    | true =>
      obtain ⟨j, hj, ej, ej2⟩ := tName_nI ht
      have hmac : aMac A t = A.2.2.1 0 j := by simp [aMac, ht, ej2]
      rw [hmac, ej, mAt_in (t := A.2.2.1 0 j) (by simp [List.getElem?_range hj]) (by omega)]
  have hrest : f_Book_macroOf (x + 1) t h = f_Book_numbered (x + 1) (aMac A t) h := by
    unfold f_Book_macroOf
    rw [ho, Option.bind_some, hnum, Option.bind_some, Option.bind_some]
    cases f_Book_numbered (x + 1) (aMac A t) h <;> rfl
  rw [hrest]
  rcases hB.numbered hN (aMac A t) with ⟨m, a, q1, q2, q3, q4⟩ | ⟨q1, q2⟩
  · exact Or.inr ⟨m, a, q1, q2, q3, q4⟩
  · refine Or.inl ⟨?_, q2⟩
    cases ht : tName t with
    | false => simp [aMac, ht]
    | true =>
      obtain ⟨j, hj, ej, ej2⟩ := tName_nI ht
      have hmac : aMac A t = A.2.2.1 0 j := by simp [aMac, ht, ej2]
      rw [hmac] at q1 ⊢
      rcases hN.2 j hj with hq | ⟨m, hmm, hq⟩
      · exact hq
      · exfalso
        have h100 := hN.1
        rw [hq] at q1
        rcases q1 with q1 | q1
        · exact nI_pos (by omega) q1
        · exact nI_ge (by omega) (by omega) q1
theorem cMac.row {o : oT} {h : hH} {A : aS} {m a r : Nat} (hM : cMac o h A m a) (hr : r ≤ aNum A m) : ∃ b c, f_Macro_row a (nI r) h = some (some b) ∧ Rw o h (101 + 20 * m + r) b 200 c (aRow A m r) := by
  obtain ⟨ra, ta, f, e1, e2, t1, t2, hk, hrs, -⟩ := hM
  obtain ⟨b, c, q1, q2⟩ := hrs r hr
  refine ⟨b, c, ?_, q2⟩
  have hix : (if (0 : Int32) < (if (nI (aNum A m + 1) - (1 : Int32)) < nI r then (nI (aNum A m + 1) - (1 : Int32)) else nI r) then (if (nI (aNum A m + 1) - (1 : Int32)) < nI r then (nI (aNum A m + 1) - (1 : Int32)) else nI r) else (0 : Int32)) = nI r := by
    rw [nI_pred, if_neg (nI_nlt hr (by omega))]
    by_cases h0 : r = 0
    · rw [h0]
      rfl
    · rw [if_pos (by rw [← nI_0]; exact nI_lt (by omega) (by omega))]
  unfold f_Macro_row
  rw [k7_g3 e1]
  simp only [Option.bind_some]
  rw [kR_len e2, Option.bind_some, hix, kR_get e2 (by omega) (by omega), Option.bind_some, q1]
