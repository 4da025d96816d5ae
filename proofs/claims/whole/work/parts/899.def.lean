/-! A DEFINITION IS READ: the class -/
def cDo (x : Nat) (o : oT) (h : hH) (A : aS) : Prop := ∃ f : Nat → Option Nat, h (x + 59) = k4 (x + 60) (x + 81) (A.1 10) (A.1 11) (A.1 12) (A.1 13) (A.1 14) ∧ h (x + 60) = kR 3 10 f ∧ o (x + 59) = some 7 ∧ o (x + 60) = some 7 ∧ ∀ r, r < 10 → f r = some (x + 61 + 2 * r)
def cDr (x : Nat) (o : oT) (h : hH) (cp : Nat → Nat) (A : aS) : Prop := (∀ r, r < 10 → Rf o h (30 + r) (x + 61 + 2 * r) 200 (cp (10 + r)) (A.2.1 (400 + r))) ∧ Rf o h 40 (x + 81) 200 (cp 20) (A.2.1 410)
def cD (x : Nat) (o : oT) (h : hH) (cp : Nat → Nat) (A : aS) : Prop := cDo x o h A ∧ cDr x o h cp A
theorem cDo.fr {W : Nat → Prop} {x : Nat} {o o' : oT} {h h' : hH} {A : aS} (hD : cDo x o h A) (F : Fr W o o' h h') (w : ¬ W 7) : cDo x o' h' A := by
  obtain ⟨f, e1, e2, t1, t2, r⟩ := hD
  exact ⟨f, ((F _ _ t1).2 w).trans e1, ((F _ _ t2).2 w).trans e2, (F _ _ t1).1, (F _ _ t2).1, r⟩
theorem cDo.abs {x : Nat} {o : oT} {h : hH} {A B : aS} (hD : cDo x o h A) (hi : ∀ j, 10 ≤ j → j ≤ 14 → B.1 j = A.1 j) : cDo x o h B := by
  obtain ⟨f, e1, r⟩ := hD
  exact ⟨f, by rw [hi 10 (by omega) (by omega), hi 11 (by omega) (by omega), hi 12 (by omega) (by omega), hi 13 (by omega) (by omega), hi 14 (by omega) (by omega)]; exact e1, r⟩
theorem cDr.fr {W : Nat → Prop} {x : Nat} {o o' : oT} {h h' : hH} {cp : Nat → Nat} {A : aS} (hD : cDr x o h cp A) (F : Fr W o o' h h') (w : ∀ l, 30 ≤ l → l ≤ 40 → ¬ W l) : cDr x o' h' cp A := ⟨fun r hr => (hD.1 r hr).fr F (w _ (by omega) (by omega)), hD.2.fr F (w 40 (by omega) (by omega))⟩
theorem cDr.abs {x : Nat} {o : oT} {h : hH} {cp cp' : Nat → Nat} {A B : aS} (hD : cDr x o h cp A) (hl : ∀ j, 400 ≤ j → j ≤ 410 → B.2.1 j = A.2.1 j) (hc : ∀ j, 10 ≤ j → j ≤ 20 → cp' j = cp j) : cDr x o h cp' B := ⟨fun r hr => by rw [hl (400 + r) (by omega) (by omega), hc (10 + r) (by omega) (by omega)]; exact hD.1 r hr, by rw [hl 410 (by omega) (by omega), hc 20 (by omega) (by omega)]; exact hD.2⟩
/-- the definition's own numbers change -/
theorem cDo.up {x : Nat} {o : oT} {h : hH} {A : aS} (B : aS) {v : Option hC} (hD : cDo x o h A) (hv : v = k4 (x + 60) (x + 81) (B.1 10) (B.1 11) (B.1 12) (B.1 13) (B.1 14)) : cDo x o (va_up h (x + 59) v) B ∧ Fr (fun b => b = 7) o o h (va_up h (x + 59) v) := by
  obtain ⟨f, e1, e2, t1, t2, r⟩ := hD
  exact ⟨⟨f, by rw [va_up_self, hv], by rw [va_up_ne _ _ (by omega)]; exact e2, t1, t2, r⟩, Fr.u1 t1⟩
theorem cDo.obj {x : Nat} {o : oT} {h : hH} {A : aS} (hD : cDo x o h A) : h (x + 59) = k4 (x + 60) (x + 81) (A.1 10) (A.1 11) (A.1 12) (A.1 13) (A.1 14) := by
  obtain ⟨f, e1, -⟩ := hD
  exact e1
theorem c_addTo {nx l a c : Nat} {o : oT} {h : hH} {xs : List Int32} (t : Int32) (hR : Rf o h l a 200 c xs) (ho : Own o nx) : ∃ (dn ds c' : Nat) (o' : oT) (h' : hH), f_Definition_addTo a t nx h = some (if xs.length < 200 then 0 else 8, dn, ds, h') ∧ Own o' (nx + dn) ∧ Rf o' h' l a 200 c' (if xs.length < 200 then xs ++ [t] else xs) ∧ Fr (fun b => b = l) o o' h h' ∧ dn + c ≤ c' ∧ ds + 4 * c ≤ 4 * c' := by
  obtain ⟨fs, hob⟩ := hR.1.obj
  unfold f_Definition_addTo
  rw [hob]
  simp only [Option.bind_some]
  rw [hR.1.full (by decide), Option.bind_some]
  by_cases hl : xs.length < 200
  · obtain ⟨c', dn, ds, o', h', e, O, R, F, g1, g2⟩ := hR.add t ho hl
    rw [if_pos (show (if xs.length < 200 then (0 : Int32) else 1) = 0 from if_pos hl), e]
    refine ⟨dn, ds, c', o', h', ?_, O, ?_, F, g1, g2⟩
    · rw [if_pos hl]
      simp [hbind]
    · rw [if_pos hl]
      exact R
  · rw [if_neg (show ¬ (if xs.length < 200 then (0 : Int32) else 1) = 0 by rw [if_neg hl]; decide)]
    refine ⟨0, 0, c, o, h, ?_, ho, ?_, Fr.rf _ _ _, by omega, by omega⟩
    · rw [if_neg hl]
    · rw [if_neg hl]
      exact hR
def cWd (b : Nat) : Prop := b = 7 ∨ (30 ≤ b ∧ b ≤ 40)
def cAcd (cp cp' : Nat → Nat) (dn ds : Nat) : Prop := dn + sumN cp 21 ≤ sumN cp' 21 ∧ ds + 4 * sumN cp 21 ≤ 4 * sumN cp' 21 ∧ ∀ j, j < 10 ∨ 20 < j → cp' j = cp j
theorem c_accept {x nx k : Nat} {t : Int32} {o : oT} {h : hH} {cp : Nat → Nat} {A : aS} (hD : cD x o h cp A) (ho : Own o nx) (hk : k ≤ 9) (h13 : A.1 13 = nI k) : ∃ (dn ds : Nat) (cp' : Nat → Nat) (o' : oT) (h' : hH), f_Definition_accept (x + 59) t nx h = some ((dAcc A t).1, dn, ds, h') ∧ Own o' (nx + dn) ∧ Fr cWd o o' h h' ∧ cD x o' h' cp' (dAcc A t).2 ∧ cAcd cp cp' dn ds := by
  obtain ⟨hO, hR⟩ := id hD
  have e := hO.obj
  have acc0 : cAcd cp cp 0 0 := ⟨by omega, by omega, fun _ _ => rfl⟩
  -- a token comes to row j
  have hadd : ∀ (B : aS) (h1 : hH) (j : Nat), j ≤ 10 → cD x o h1 cp B → Fr cWd o o h h1 → ∃ (dn ds : Nat) (cp' : Nat → Nat) (o' : oT) (h' : hH), f_Definition_addTo (x + 61 + 2 * j) t nx h1 = some ((dAdd B (400 + j) t).1, dn, ds, h') ∧ Own o' (nx + dn) ∧ Fr cWd o o' h h' ∧ cD x o' h' cp' (dAdd B (400 + j) t).2 ∧ cAcd cp cp' dn ds := by
    intro B h1 j hj hDB F1
    have hRj : Rf o h1 (30 + j) (x + 61 + 2 * j) 200 (cp (10 + j)) (B.2.1 (400 + j)) := by
      by_cases h10 : j = 10
      · subst h10
        exact hDB.2.2
      · exact hDB.2.1 j (by omega)
    obtain ⟨dn, ds, c', o', h', q1, q2, q3, q4, q5, q6⟩ := c_addTo t hRj ho
    have hsum := sumN_up cp (a := 10 + j) (c := c') (by omega) 21 (by omega)
    have hF4 : Fr cWd o o' h h' := F1.tr (q4.mono (fun l q => by unfold cWd; omega))
    have hrows : ∀ (xs : List Int32), Rf o' h' (30 + j) (x + 61 + 2 * j) 200 c' xs → cD x o' h' (nUp cp (10 + j) c') (aPl B (400 + j) xs) := by
      intro xs hx
      refine ⟨(hDB.1.fr q4 (by show ¬ 7 = 30 + j; omega)).abs (fun _ _ _ => rfl), fun r hr => ?_, ?_⟩
      · show Rf o' h' (30 + r) (x + 61 + 2 * r) 200 (nUp cp (10 + j) c' (10 + r)) (va_up B.2.1 (400 + j) xs (400 + r))
        by_cases hrj : r = j
        · subst hrj
          rw [nUp_self, va_up_self]
          exact hx
        · rw [nUp_ne _ _ (by omega), va_up_ne _ _ (by omega)]
          exact (hDB.2.1 r hr).fr q4 (by show ¬ 30 + r = 30 + j; omega)
      · show Rf o' h' 40 (x + 81) 200 (nUp cp (10 + j) c' 20) (va_up B.2.1 (400 + j) xs 410)
        by_cases hrj : j = 10
        · subst hrj
          rw [nUp_self, va_up_self]
          exact hx
        · rw [nUp_ne _ _ (by omega), va_up_ne _ _ (by omega)]
          exact hDB.2.2.fr q4 (by show ¬ 40 = 30 + j; omega)
    refine ⟨dn, ds, nUp cp (10 + j) c', o', h', ?_, q2, hF4, ?_, by omega, by omega, fun i hi => nUp_ne _ _ (by omega)⟩
    · rw [q1]
      unfold dAdd
      split <;> rfl
    · unfold dAdd
      by_cases hl : (B.2.1 (400 + j)).length < 200
      · rw [if_pos hl] at q3 ⊢
        exact hrows _ q3
      · rw [if_neg hl] at q3 ⊢
        have := hrows _ q3
        rw [aPl_same] at this
        exact this
  unfold f_Definition_accept dAcc
  rw [k4_g2 e, Option.bind_some, k4_o e]
  simp only [Option.bind_some]
  by_cases h1 : A.1 10 = 1
  · rw [if_pos h1, if_pos h1]
    unfold f_Definition_acceptName dName
    rw [c_name, Option.bind_some, b01_if]
    cases htn : tName t with
    | false =>
      rw [if_neg (by decide), if_neg (by decide)]
      exact ⟨0, 0, cp, o, h, rfl, ho, Fr.rf _ _ _, hD, acc0⟩
    | true =>
      rw [if_pos rfl, if_pos rfl]
      obtain ⟨O2, F2⟩ := hO.up (aPi (aPi A 12 t) 10 2) (v := k4 (x + 60) (x + 81) 2 (A.1 11) t (A.1 13) (A.1 14)) rfl
      refine ⟨0, 0, cp, o, _, ?_, ho, F2.mono (fun l q => Or.inl q), ⟨O2, (hR.fr F2 (fun l h1 h2 => by show ¬ l = 7; omega)).abs (fun _ _ _ => rfl) (fun _ _ _ => rfl)⟩, acc0⟩
      rw [k4_p4 e, Option.bind_some, k4_p2 (va_up_self _ _ _), Option.bind_some, va_up_up]
      rfl
  · rw [if_neg h1, if_neg h1]
    by_cases h2 : A.1 10 = 2
    · rw [if_pos h2, if_pos h2]
      unfold f_Definition_acceptInRows dRows
      by_cases h257 : t = 257
      · rw [if_pos h257, if_pos h257]
        obtain ⟨O2, F2⟩ := hO.up (aPi A 10 3) (v := k4 (x + 60) (x + 81) 3 (A.1 11) (A.1 12) (A.1 13) (A.1 14)) rfl
        refine ⟨0, 0, cp, o, _, ?_, ho, F2.mono (fun l q => Or.inl q), ⟨O2, (hR.fr F2 (fun l h1 h2 => by show ¬ l = 7; omega)).abs (fun _ _ _ => rfl) (fun _ _ _ => rfl)⟩, acc0⟩
        rw [k4_p2 e, Option.bind_some]
        rfl
      · rw [if_neg h257, if_neg h257]
        by_cases h258 : t = 258
        · rw [if_pos h258, if_pos h258]
          exact ⟨0, 0, cp, o, h, rfl, ho, Fr.rf _ _ _, hD, acc0⟩
        · rw [if_neg h258, if_neg h258, c_par, Option.bind_some, b01_if]
          cases htp : tPar t with
          | true =>
            rw [if_pos rfl, if_pos rfl, c_argOf, Option.bind_some, k4_g5 e]
            simp only [Option.bind_some]
            by_cases hna : nI (tArg t) = A.1 13 + 1
            · rw [if_pos hna, if_pos hna]
              obtain ⟨O2, F2⟩ := hO.up (aPi A 13 (A.1 13 + 1)) (v := k4 (x + 60) (x + 81) (A.1 10) (A.1 11) (A.1 12) (A.1 13 + 1) (A.1 14)) rfl
              refine ⟨0, 0, cp, o, _, ?_, ho, F2.mono (fun l q => Or.inl q), ⟨O2, (hR.fr F2 (fun l h1 h2 => by show ¬ l = 7; omega)).abs (fun _ _ _ => rfl) (fun _ _ _ => rfl)⟩, acc0⟩
              rw [k4_p5 e, Option.bind_some]
              rfl
            · rw [if_neg hna, if_neg hna]
              exact ⟨0, 0, cp, o, h, rfl, ho, Fr.rf _ _ _, hD, acc0⟩
          | false =>
            rw [if_neg (by decide), if_neg (by decide)]
            obtain ⟨f, e1, e2, t1, t2, hf⟩ := hO
            have hix : (if (0 : Int32) < (if (nI 10 - (1 : Int32)) < nI k then (nI 10 - (1 : Int32)) else nI k) then (if (nI 10 - (1 : Int32)) < nI k then (nI 10 - (1 : Int32)) else nI k) else (0 : Int32)) = nI k := by
              rw [show nI 10 - (1 : Int32) = nI 9 from rfl, if_neg (nI_nlt (by omega) (by omega))]
              by_cases h0 : k = 0
              · rw [h0]
                rfl
              · rw [if_pos (by rw [← nI_0]; exact nI_lt (by omega) (by omega))]
            obtain ⟨dn, ds, cp', o', h', q1, q2, q3, q4, q5⟩ := hadd A h k (by omega) hD (Fr.rf _ _ _)
            rw [h13, nI_clamp (by omega)]
            refine ⟨dn, ds, cp', o', h', ?_, q2, q3, q4, q5⟩
            rw [k4_g0 e, k4_g5 e]
            simp only [Option.bind_some]
            rw [kR_len e2, Option.bind_some, h13, hix, kR_get e2 (by omega) (by decide), Option.bind_some, hf k (by omega), Option.bind_some, q1]
            simp [hbind]
    · rw [if_neg h2, if_neg h2]
      unfold f_Definition_acceptInText dText
      rw [k4_g6 e, Option.bind_some, c_nest, Option.bind_some, k4_p6 e, Option.bind_some, k4_g6 (va_up_self _ _ _), Option.bind_some]
      obtain ⟨O2, F2⟩ := hO.up (aPi A 14 (A.1 14 + mNest t)) (v := k4 (x + 60) (x + 81) (A.1 10) (A.1 11) (A.1 12) (A.1 13) (A.1 14 + mNest t)) rfl
      have D2 : cD x o _ cp (aPi A 14 (A.1 14 + mNest t)) := ⟨O2, (hR.fr F2 (fun l h1 h2 => by show ¬ l = 7; omega)).abs (fun _ _ _ => rfl) (fun _ _ _ => rfl)⟩
      by_cases h0 : A.1 14 + mNest t = 0
      · rw [if_pos h0, if_pos h0]
        obtain ⟨O3, F3⟩ := O2.up (aPi (aPi A 14 (A.1 14 + mNest t)) 10 4) (v := k4 (x + 60) (x + 81) 4 (A.1 11) (A.1 12) (A.1 13) (A.1 14 + mNest t)) rfl
        refine ⟨0, 0, cp, o, _, ?_, ho, (F2.mono (fun l q => Or.inl q)).tr (F3.mono (fun l q => Or.inl q)), ⟨O3, (D2.2.fr F3 (fun l h1 h2 => by show ¬ l = 7; omega)).abs (fun _ _ _ => rfl) (fun _ _ _ => rfl)⟩, acc0⟩
        rw [k4_p2 (va_up_self _ _ _), Option.bind_some]
        rfl
      · rw [if_neg h0, if_neg h0, c_argOf, Option.bind_some, k4_g5 (va_up_self _ _ _), Option.bind_some]
        by_cases hle : nI (tArg t) ≤ A.1 13
        · rw [if_pos hle, if_pos hle]
          obtain ⟨dn, ds, cp', o', h', q1, q2, q3, q4, q5⟩ := hadd (aPi A 14 (A.1 14 + mNest t)) _ 10 (by omega) D2 (F2.mono (fun l q => Or.inl q))
          refine ⟨dn, ds, cp', o', h', ?_, q2, q3, q4, q5⟩
          rw [k4_g1 (va_up_self _ _ _), Option.bind_some, Option.bind_some, show x + 81 = x + 61 + 2 * 10 from rfl, q1]
          simp [hbind]
        · rw [if_neg hle, if_neg hle]
          exact ⟨0, 0, cp, o, _, rfl, ho, F2.mono (fun l q => Or.inl q), D2, acc0⟩
