/-! THE FIRST TOKEN IS EXPANDED, AND ALL THAT HANGS ON IT: the class -/
def cAcc (cp cp' : Nat → Nat) (dn ds : Nat) : Prop := dn + sumN cp 21 ≤ sumN cp' 21 ∧ ds + 4 * sumN cp 21 ≤ 4 * sumN cp' 21 ∧ ∀ j, 9 < j → cp' j = cp j
theorem cAcc.rf (cp : Nat → Nat) : cAcc cp cp 0 0 := ⟨by omega, by omega, fun _ _ => rfl⟩
theorem cAcc.tr {c1 c2 c3 : Nat → Nat} {a b d e : Nat} (h : cAcc c1 c2 a b) (g : cAcc c2 c3 d e) : cAcc c1 c3 (a + d) (b + e) := ⟨by have := h.1; have := g.1; omega, by have := h.2.1; have := g.2.1; omega, fun j hj => (g.2.2 j hj).trans (h.2.2 j hj)⟩
def aSt (A : aS) : Prop := ∃ G s : Nat, A.1 0 = nI G ∧ A.1 1 = nI s ∧ s ≤ G ∧ G ≤ 20000
theorem cQ.mk {x nx : Nat} {o : oT} {h h' : hH} {cp : Nat → Nat} {A B : aS} {W : Nat → Prop} (hQ : cQ x o nx h cp A) (F : Fr W o o h h') (hw : ∀ l, l = 1 ∨ l = 2 ∨ l = 6 ∨ (20 ≤ l ∧ l ≤ 28) ∨ 100 ≤ l → ¬ W l) (hl : ∀ j, 100 ≤ j ∧ j < 200 ∨ 1000 ≤ j ∨ j = 2 ∨ j = 3 → B.2.1 j = A.2.1 j) (hF : B.2.2.1 = A.2.2.1) (h15 : B.1 15 = A.1 15) (h16 : B.1 16 = A.1 16) (hI : cI x o h' (B.2.1 0)) (hE : cE x o h' B) (hT : cT x o h' B.2.2.2) : cQ x o nx h' cp B := by
  obtain ⟨ho, hS, -, -, -, hA, hB, ar, hR⟩ := hQ
  exact ⟨ho, (hS.fr F (hw 2 (by omega))).abs h16 (fun j h1 h2 => hl j (by omega)), hI, hE, hT, hA.fr F (hw 6 (by omega)), (hB.fr F (hw 1 (by omega)) (fun l _ => hw l (by omega))).abs (hl 2 (by omega)) (hl 3 (by omega)) (fun j h1 => hl j (by omega)) hF h15, ar, hR.fr F (fun a _ _ => hw _ (by omega))⟩
theorem c_first {n x nx : Nat} {o : oT} {h : hH} {cp : Nat → Nat} {A : aS} (hQ : cQ x o nx h cp A) (hN : aNm A) (hSt : aSt A) (hpos : aPos (A.2.1 0)) (hne : A.2.1 0 ≠ []) (hn : 7000 < n) : ∃ (dn ds : Nat) (cp' : Nat → Nat) (o' : oT) (h' : hH), f_Expander_expandFirst n (x + 30) nx h = some ((eFirst A).1, dn, ds, h') ∧ Fr cWf o o' h h' ∧ cAcc cp cp' dn ds ∧ cQr x o' (nx + dn) h' cp' (eFirst A) := by
  have hE := hQ.2.2.2.1
  have hI := hQ.2.2.1
  have e := hE.eo.1
  have h100 := hN.1
  obtain ⟨G, s, hG, hs, hsG, hG2⟩ := hSt
  unfold f_Expander_expandFirst eFirst
  rw [k5_g12 e, Option.bind_some, k5_g0 e, Option.bind_some]
  by_cases hlt : s = G
  · have heq : A.1 1 = A.1 0 := by rw [hs, hG, hlt]
    rw [if_neg (by rw [hs, hG]; exact nI_nlt (by omega) (by omega)), if_pos heq]
    exact ⟨0, 0, cp, o, h, rfl, Fr.rf _ _ _, cAcc.rf _, cQr_of (r := (5, A)) hQ⟩
  · have hneq : ¬ A.1 1 = A.1 0 := by
      rw [hs, hG]
      exact fun q => hlt ((nI_eq (by omega) (by omega)).mp q)
    rw [if_pos (by rw [hs, hG]; exact nI_lt (by omega) (by omega)), if_neg hneq, Option.bind_some, k5_p12 e, Option.bind_some]
    unfold eTok
    cases hx : (aPi A 1 (A.1 1 + 1)).2.1 0 with
    | nil => exact absurd hx hne
    | cons t ts =>
      have hx' : A.2.1 0 = t :: ts := hx
      obtain ⟨E1, F1⟩ := hE.up (aPi A 1 (A.1 1 + 1)) (v := k5 (A.1 0) (x + 28) (x + 1) (x + 25) (x + 31) (x + 35) (x + 55) (x + 56) (x + 57) (nI (A.2.1 8).length) (A.1 4) (A.1 3) (A.1 1 + 1) (A.1 2)) rfl (fun _ _ _ => rfl) rfl
      have e1 := E1.eo.1
      have I1 := hI.fr F1 (by decide)
      rw [hx'] at I1
      obtain ⟨h2, e2, I2, F2⟩ := I1.take
      rw [k5_g1 (va_up_self _ _ _), Option.bind_some, Option.bind_some, I1.obj, Option.bind_some, e2]
      simp only [hbW]
      have F12 : Fr (fun b => b = 3 ∨ b = 4) o o h h2 := (F1.mono (fun l q => Or.inr q)).tr (F2.mono (fun l q => Or.inl q))
      have E2 : cE x o h2 (aPl (aPi A 1 (A.1 1 + 1)) 0 ts) := E1.to (aPl (aPi A 1 (A.1 1 + 1)) 0 ts) F2 (by decide) rfl (fun j h1 h2 => (by simp only [aPi, aPl, aPt, rput, va_up, upd] <;> (repeat rw [if_neg (by omega)]))) (E1.eo.fr F2 (by decide))
      have Q2 : cQ x o nx h2 cp (aPl (aPi A 1 (A.1 1 + 1)) 0 ts) := hQ.mk F12 (fun l hl => by show ¬ (l = 3 ∨ l = 4); omega) (fun j hj => (by simp only [aPi, aPl, aPt, rput, va_up, upd] <;> (repeat rw [if_neg (by omega)]))) rfl rfl rfl I2 E2 ((hQ.2.2.2.2.1.fr F1 (by decide)).fr F2 (by decide))
      have F12m : Fr cWf o o h h2 := F12.mono (fun l q => Or.inr (Or.inr (by unfold cWn; omega)))
      have hN2 : aNm (aPl (aPi A 1 (A.1 1 + 1)) 0 ts) := hN
      have hpos2 : aPos ((aPl (aPi A 1 (A.1 1 + 1)) 0 ts).2.1 0) := fun u hu => hpos u (by rw [hx']; exact List.mem_cons_of_mem _ hu)
      generalize hC : aPl (aPi A 1 (A.1 1 + 1)) 0 ts = C at Q2 E2 hN2 hpos2
      have q2 := E2.eo.1
      unfold eTokB
      by_cases h260 : t = 260
      · rw [if_pos h260, if_pos h260, k5_z11 q2 1 (Or.inr rfl), Option.bind_some]
        obtain ⟨E3, F3⟩ := E2.up (aPi C 3 1) (v := k5 (C.1 0) (x + 28) (x + 1) (x + 25) (x + 31) (x + 35) (x + 55) (x + 56) (x + 57) (nI (C.2.1 8).length) (C.1 4) 1 (C.1 1) (C.1 2)) rfl (fun _ _ _ => rfl) rfl
        have I3 := Q2.2.2.1.fr F3 (by decide)
        have Q3 : cQ x o nx _ cp (aPi C 3 1) := Q2.mk F3 (fun l hl => by show ¬ l = 4; omega) (fun _ _ => rfl) rfl rfl rfl I3 E3 (Q2.2.2.2.2.1.fr F3 (by decide))
        rw [k5_g1 (va_up_self _ _ _), Option.bind_some, Option.bind_some, I3.obj, Option.bind_some, I3.isEmpty, Option.bind_some]
        refine ⟨0, 0, cp, o, _, ?_, F12m.tr (F3.mono (fun l q => Or.inr (Or.inr (Or.inr (Or.inl q))))), cAcc.rf _, cQr_of Q3⟩
        by_cases hz : (C.2.1 0).length = 0
        · rw [if_pos hz]
          rfl
        · rw [if_neg hz]
          rfl
      · rw [if_neg h260, if_neg h260]
        by_cases h261 : t = 261
        · rw [if_pos h261, if_pos h261, k5_o q2, Option.bind_some]
          obtain ⟨h3, e3, F3, Q3⟩ := c_beginAfter Q2 hpos2
          rw [e3]
          exact ⟨0, 0, cp, o, h3, rfl, F12m.tr F3, cAcc.rf _, Q3⟩
        · rw [if_neg h261, if_neg h261]
          by_cases h262 : t = 262
          · rw [if_pos h262, if_pos h262, k5_o q2, Option.bind_some]
            obtain ⟨h3, e3, F3, Q3⟩ := c_beginNaming Q2
            rw [e3]
            exact ⟨0, 0, cp, o, h3, rfl, F12m.tr F3, cAcc.rf _, Q3⟩
          · rw [if_neg h262, if_neg h262, k5_g2 q2, Option.bind_some, Option.bind_some]
            have Q2' := Q2
            obtain ⟨ho2, hS2, hI2, hE2, hT2, hA2, hB2, ar, hR2⟩ := Q2
            obtain ⟨fsB, hoB⟩ := hB2.obj
            rw [hoB, Option.bind_some]
            rcases hB2.macroOf hN2 t with ⟨w1, w2⟩ | ⟨m, a, w1, w2, w3, w4⟩
            · rw [w2, Option.bind_some, w1, if_pos (by decide)]
              exact ⟨0, 0, cp, o, h2, rfl, F12m, cAcc.rf _, cQr_of (r := (0, C)) Q2'⟩
            · have hm100 : m < 100 := Nat.lt_of_lt_of_le w2 hN2.1
              rw [w3, Option.bind_some, w1, if_neg (nI_pos (by omega)), nI_clamp (by omega), k5_o q2]
              obtain ⟨code, dn, ds, cp', ar', o', h3, e3, O3, F3, g1, g2, R3, g3, hres⟩ := c_expandName (n := n) (t := t) hI2 hB2 hN2 hA2 hE2.eo hT2 w4 hR2 ho2 hn
              have hw : ∀ l, l = 1 ∨ l = 2 ∨ l = 6 ∨ l = 10 ∨ 100 ≤ l → ¬ cWn l := fun l hl => by unfold cWn; omega
              have hS3 := hS2.fr F3 (hw 2 (by omega))
              have hA3 := hA2.fr F3 (hw 6 (by omega))
              have hB3 := hB2.fr F3 (hw 1 (by omega)) (fun l hl => hw l (by omega))
              have hcode : f_Expander_expandName n (x + 30) t a nx h2 = some (code, dn, ds, h3) := e3
              have hgoal : (hNull (some a) (some ((0 : Int32), 0, 0, h2)) fun p93 => (some [Value.int (C.1 0), .ref (x + 28), .ref (x + 1), .ref (x + 25), .ref (x + 31), .ref (x + 35), .ref (x + 55), .ref (x + 56), .ref (x + 57), .int (nI (C.2.1 8).length), .int (C.1 4), .int (C.1 3), .int (C.1 1), .int (C.1 2)]).bind fun c103 => hbind (f_Expander_expandName n (x + 30) t p93 nx h2) nx fun v103 nx103 h103 => some (v103, 0, 0, h103)) = some (code, dn, ds, h3) := by
                simp only [hNull, Option.bind_some]
                rw [e3]
                simp [hbind]
              unfold eName
              refine ⟨dn, ds, cp', o', h3, ?_, F12m.tr (F3.mono (fun l q => Or.inr (Or.inr q))), ⟨g1, g2, g3⟩, ?_⟩
              · refine Eq.trans hgoal ?_
                cases hmn : mName (aOut C) (aLng C m) (aRow C m) (aNum C m) (aRow C m 10) (C.2.1 0) with
                | inl c =>
                  rw [hmn] at hres
                  rw [hres.1]
                | inr q =>
                  rw [hmn] at hres
                  rw [hres.1]
              · cases hmn : mName (aOut C) (aLng C m) (aRow C m) (aNum C m) (aRow C m 10) (C.2.1 0) with
                | inl c =>
                  rw [hmn] at hres
                  obtain ⟨-, hc, ⟨zs, I3⟩, E3, T3⟩ := hres
                  refine cQr_bad (zs := zs) hc ⟨O3, hS3.abs rfl (fun j h1 h2 => (by simp only [aPi, aPl, aPt, rput, va_up, upd] <;> (repeat rw [if_neg (by omega)]))), I3, ?_, T3, hA3, hB3.abs rfl rfl (fun j h1 => (by simp only [aPi, aPl, aPt, rput, va_up, upd] <;> (repeat rw [if_neg (by omega)]))) rfl rfl, ar', R3⟩
                  exact hE2.to (aPl (aPi C 2 t) 0 zs) F3 (hw 10 (by omega)) rfl (fun j h1 h2 => (by simp only [aPi, aPl, aPt, rput, va_up, upd] <;> (repeat rw [if_neg (by omega)]))) E3
                | inr q =>
                  rw [hmn] at hres
                  obtain ⟨-, I3, E3, T3⟩ := hres
                  refine cQr_of ⟨O3, hS3.abs rfl (fun j h1 h2 => (by simp only [aPi, aPl, aPt, rput, va_up, upd] <;> (repeat rw [if_neg (by omega)]))), I3, ?_, T3, hA3, hB3.abs rfl rfl (fun j h1 => (by simp only [aPi, aPl, aPt, rput, va_up, upd] <;> (repeat rw [if_neg (by omega)]))) rfl rfl, ar', R3⟩
                  exact hE2.to (aPt (aPl C 0 q.2.2) (mTr C.2.2.2 (t, nI q.1, nI q.2.1))) F3 (hw 10 (by omega)) rfl (fun j h1 h2 => (by simp only [aPi, aPl, aPt, rput, va_up, upd] <;> (repeat rw [if_neg (by omega)]))) E3
