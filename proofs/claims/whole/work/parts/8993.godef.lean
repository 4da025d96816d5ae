/-! A TOKEN GOES TO THE DEFINITION: the class -/
theorem dAdd_keep (A : aS) (j : Nat) (t : Int32) : (dAdd A j t).2.1 = A.1 ∧ (∀ i, i ≠ j → (dAdd A j t).2.2.1 i = A.2.1 i) ∧ (dAdd A j t).2.2.2 = A.2.2 := by
  unfold dAdd
  split
  · exact ⟨rfl, fun i hi => va_up_ne _ _ hi, rfl⟩
  · exact ⟨rfl, fun _ _ => rfl, rfl⟩
theorem dAcc_keep (A : aS) (t : Int32) (hk : ∃ k, k ≤ 9 ∧ A.1 13 = nI k) : (∀ j, j < 10 ∨ 14 < j → (dAcc A t).2.1 j = A.1 j) ∧ (∀ j, j < 400 ∨ 410 < j → (dAcc A t).2.2.1 j = A.2.1 j) ∧ (dAcc A t).2.2.2 = A.2.2 := by
  obtain ⟨k, hk9, h13⟩ := hk
  unfold dAcc
  split
  · unfold dName
    split
    · exact ⟨fun j hj => (by simp only [aPi, aPl, aPt, rput, va_up, upd] <;> (repeat rw [if_neg (by omega)])), fun _ _ => rfl, rfl⟩
    · exact ⟨fun _ _ => rfl, fun _ _ => rfl, rfl⟩
  · split
    · unfold dRows
      split
      · exact ⟨fun j hj => (by simp only [aPi, aPl, aPt, rput, va_up, upd] <;> (repeat rw [if_neg (by omega)])), fun _ _ => rfl, rfl⟩
      · split
        · exact ⟨fun _ _ => rfl, fun _ _ => rfl, rfl⟩
        · split
          · split
            · exact ⟨fun j hj => (by simp only [aPi, aPl, aPt, rput, va_up, upd] <;> (repeat rw [if_neg (by omega)])), fun _ _ => rfl, rfl⟩
            · exact ⟨fun _ _ => rfl, fun _ _ => rfl, rfl⟩
          · rw [h13, nI_clamp (by omega)]
            obtain ⟨q1, q2, q3⟩ := dAdd_keep A (400 + k) t
            exact ⟨fun j _ => by rw [q1], fun j hj => q2 j (by omega), q3⟩
    · unfold dText
      split
      · exact ⟨fun j hj => (by simp only [aPi, aPl, aPt, rput, va_up, upd] <;> (repeat rw [if_neg (by omega)])), fun _ _ => rfl, rfl⟩
      · split
        · obtain ⟨q1, q2, q3⟩ := dAdd_keep (aPi A 14 (A.1 14 + mNest t)) 410 t
          exact ⟨fun j hj => by rw [q1]; exact (by simp only [aPi, aPl, aPt, rput, va_up, upd] <;> (repeat rw [if_neg (by omega)])), fun j hj => q2 j (by omega), q3⟩
        · exact ⟨fun j hj => (by simp only [aPi, aPl, aPt, rput, va_up, upd] <;> (repeat rw [if_neg (by omega)])), fun _ _ => rfl, rfl⟩
def dOk (A : aS) : Prop := (∃ k, k ≤ 9 ∧ A.1 13 = nI k) ∧ (A.1 10 = 0 ∨ A.1 10 = 1 ∨ ((A.1 10 = 2 ∨ A.1 10 = 3) ∧ tName (A.1 12) = true))
theorem dAcc_ok {A : aS} {t : Int32} (h : dOk A) (h0 : A.1 10 ≠ 0) (hz : (dAcc A t).1 = 0) : (∃ k, k ≤ 9 ∧ (dAcc A t).2.1 13 = nI k) ∧ ((dAcc A t).2.1 10 = 2 ∨ (dAcc A t).2.1 10 = 3 ∨ (dAcc A t).2.1 10 = 4) ∧ tName ((dAcc A t).2.1 12) = true := by
  obtain ⟨⟨k, hk, h13⟩, hs⟩ := h
  unfold dAcc at hz ⊢
  by_cases h1 : A.1 10 = 1
  · rw [if_pos h1] at hz ⊢
    unfold dName at hz ⊢
    cases htn : tName t with
    | false =>
      rw [htn, if_neg (by decide)] at hz
      exact absurd (ne_c hz) (by decide)
    | true =>
      rw [if_pos rfl]
      exact ⟨⟨k, hk, h13⟩, Or.inl rfl, htn⟩
  · have hs2 : (A.1 10 = 2 ∨ A.1 10 = 3) ∧ tName (A.1 12) = true := by
      rcases hs with q | q | q
      · exact absurd q h0
      · exact absurd q h1
      · exact q
    rw [if_neg h1] at hz ⊢
    by_cases h2 : A.1 10 = 2
    · rw [if_pos h2] at hz ⊢
      unfold dRows at hz ⊢
      by_cases h257 : t = 257
      · rw [if_pos h257] at hz ⊢
        exact ⟨⟨k, hk, h13⟩, Or.inr (Or.inl rfl), hs2.2⟩
      · rw [if_neg h257] at hz ⊢
        by_cases h258 : t = 258
        · rw [if_pos h258] at hz
          exact absurd (ne_c hz) (by decide)
        · rw [if_neg h258] at hz ⊢
          by_cases htp : tPar t = true
          · rw [if_pos htp] at hz ⊢
            by_cases hna : nI (tArg t) = A.1 13 + 1
            · rw [if_pos hna] at hz ⊢
              exact ⟨⟨tArg t, tArg_le t, by show A.1 13 + 1 = _; exact hna.symm⟩, Or.inl h2, hs2.2⟩
            · rw [if_neg hna] at hz
              exact absurd (ne_c hz) (by decide)
          · rw [if_neg htp] at hz ⊢
            obtain ⟨q1, -, -⟩ := dAdd_keep A (400 + (A.1 13).toNatClampNeg) t
            rw [q1]
            exact ⟨⟨k, hk, h13⟩, Or.inl h2, hs2.2⟩
    · rw [if_neg h2] at hz ⊢
      have h3 : A.1 10 = 3 := hs2.1.resolve_left h2
      unfold dText at hz ⊢
      by_cases h14 : A.1 14 + mNest t = 0
      · rw [if_pos h14] at hz ⊢
        exact ⟨⟨k, hk, h13⟩, Or.inr (Or.inr rfl), hs2.2⟩
      · rw [if_neg h14] at hz ⊢
        by_cases hle : nI (tArg t) ≤ A.1 13
        · rw [if_pos hle] at hz ⊢
          obtain ⟨q1, -, -⟩ := dAdd_keep (aPi A 14 (A.1 14 + mNest t)) 410 t
          rw [q1]
          exact ⟨⟨k, hk, h13⟩, Or.inr (Or.inl h3), hs2.2⟩
        · rw [if_neg hle] at hz
          exact absurd (ne_c hz) (by decide)
/-- the name at work changes -/
theorem cP.n {x nx : Nat} {o : oT} {h : hH} {cp : Nat → Nat} {A : aS} (u : Int32) (hP : cP x o nx h cp A) : ∃ h', hpV h (x + 30) 5 13 (.int u) = some h' ∧ cP x o nx h' cp (aPi A 2 u) ∧ Fr (fun b => b = 4) o o h h' := by
  have hE := hP.1.2.2.2.1
  obtain ⟨E1, F1⟩ := hE.up (aPi A 2 u) (v := k5 (A.1 0) (x + 28) (x + 1) (x + 25) (x + 31) (x + 35) (x + 55) (x + 56) (x + 57) (nI (A.2.1 8).length) (A.1 4) (A.1 3) (A.1 1) u) rfl (fun _ _ _ => rfl) rfl
  refine ⟨_, k5_p13 hE.eo.1 u, ⟨hP.1.mk F1 (fun l hl => by show ¬ l = 4; omega) (fun _ _ => rfl) rfl rfl rfl (hP.1.2.2.1.fr F1 (by decide)) E1 (hP.1.2.2.2.2.1.fr F1 (by decide)), hP.2.1.fr F1 (by decide) rfl rfl, hP.2.2.1.fr F1 (by decide) (fun l h1 h2 => by show ¬ l = 4; omega) (fun j h1 h2 => (by simp only [aPi, aPl, aPt, rput, va_up, upd] <;> (repeat rw [if_neg (by omega)]))) (fun _ _ _ => rfl) (fun _ _ _ => rfl), hP.2.2.2.1.fr F1 (by decide) (by decide) rfl rfl rfl rfl, hP.2.2.2.2⟩, F1⟩
/-- a macro more -/
theorem cP.new {x nx k nm : Nat} {mk : Int32} {o : oT} {h h' : hH} {cp : Nat → Nat} {A : aS} {rows : Nat → List Int32} (hP : cP x o nx h cp A) (F : Fr (fun b => b = 1) o o h h') (hB : cB x o h' (aNew A nm k mk rows)) : cP x o nx h' cp (aNew A nm k mk rows) := by
  obtain ⟨ho, hS, hI, hE, hT, hA, -, ar, hR⟩ := hP.1
  have hl : ∀ j, j ≠ 2 → j ≠ 3 → j < 1000 → (aNew A nm k mk rows).2.1 j = A.2.1 j := fun j h2 h3 hj => aNew_l h2 h3 (by omega)
  refine ⟨⟨ho, (hS.fr F (by decide)).abs rfl (fun j h1 h2 => hl j (by omega) (by omega) (by omega)), by rw [hl 0 (by decide) (by decide) (by decide)]; exact hI.fr F (by decide), hE.to _ F (by decide) (hl 8 (by decide) (by decide) (by decide)) (fun j h1 h2 => hl j (by omega) (by omega) (by omega)) ?_, hT.fr F (by decide), hA.fr F (by decide), hB, ar, hR.fr F (fun a _ _ => by show ¬ 19 + a = 1; omega)⟩, hP.2.1.fr F (by decide) rfl rfl, hP.2.2.1.fr F (by decide) (fun l h1 h2 => by show ¬ l = 1; omega) (fun _ _ _ => rfl) (fun j h1 h2 => hl j (by omega) (by omega) (by omega)) (fun _ _ _ => rfl), hP.2.2.2.1.fr F (by decide) (by decide) rfl rfl (hl 1 (by decide) (by decide) (by decide)) rfl, hP.2.2.2.2⟩
  rw [hl 8 (by decide) (by decide) (by decide)]
  exact hE.eo.fr F (by decide)
theorem cP.old {x nx nx' : Nat} {o o' : oT} {h h' : hH} {cp : Nat → Nat} {A : aS} (hP : cP x o nx h cp A) (H : Old nx o o' h h') (hO : Own o' nx') : cP x o' nx' h' cp A := by
  have F : Fr (fun _ => False) o o' h h' := H.fr hP.1.1
  exact ⟨hP.1.fr F hO (fun _ _ => by simp) (fun _ _ _ => rfl) (fun _ _ => rfl) (fun _ _ => rfl) rfl, hP.2.1.fr F (by simp) rfl rfl, hP.2.2.1.fr F (by simp) (fun _ _ _ => by simp) (fun _ _ _ => rfl) (fun _ _ _ => rfl) (fun _ _ _ => rfl), hP.2.2.2.1.fr F (by simp) (by simp) rfl rfl rfl rfl, fun j hj => (F _ _ (hP.2.2.2.2 j hj)).1⟩
theorem c_goDef {n x nx : Nat} {t : Int32} {o : oT} {h : hH} {cp : Nat → Nat} {A : aS} (hP : cP x o nx h cp A) (hN : aNm A) (h3 : (A.2.1 3).length = (A.2.1 2).length) (hd : dOk A) (h0 : A.1 10 ≠ 0) (hroom : (A.2.1 0).length < 3000) (hn : 50 < n) : ∃ (dn ds : Nat) (cp' : Nat → Nat) (o' : oT) (h' : hH), f_Whole_goOnDefining n (x + 58) t nx h = some ((dGo A t).1, dn, ds, h') ∧ Fr cWw o o' h h' ∧ cAw cp cp' A (dGo A t).2 dn ds ∧ cP x o' (nx + dn) h' cp' (dGo A t).2 := by
  obtain ⟨k, hk, h13⟩ := id hd.1
  have eW := hP.2.2.2.1.1
  have eD := hP.2.2.1.1.obj
  obtain ⟨dn, ds, cp1, o1, h1, e1, O1, F1, D1, g1, g2, g3⟩ := c_accept (t := t) hP.2.2.1 hP.1.1 hk h13
  obtain ⟨kk1, kk2, kk3⟩ := dAcc_keep A t ⟨k, hk, h13⟩
  have P1 : cP x o1 (nx + dn) h1 cp1 (dAcc A t).2 := hP.d F1 O1 D1 g3 kk1 kk2 kk3
  obtain ⟨h2, e2, P2, F2⟩ := P1.n ((dAcc A t).2.1 12)
  have F12 : Fr cWw o o1 h h2 := (F1.mono (fun l q => cWd_w q)).tr (F2.mono (fun l q => by unfold cWw; omega))
  have eW1 := P1.2.2.2.1.1
  have eD1 := P1.2.2.1.1.obj
  have eW2 := P2.2.2.2.1.1
  have eD2 := P2.2.2.1.1.obj
  have hnum : ((dAcc A t).2.2.1 2).length = (A.2.1 2).length := by rw [kk2 2 (by omega)]
  have aw1 : ∀ B : aS, (B.2.1 2).length = (A.2.1 2).length → cAw cp cp1 A B dn ds := fun B hB => by
    unfold cAw
    rw [hB]
    omega
  unfold f_Whole_goOnDefining dGo dGoB
  rw [k11_g3 eW]
  simp only [Option.bind_some]
  rw [k4_o eD, Option.bind_some, e1]
  simp only [hbind]
  rw [k11_g2 eW1]
  simp only [Option.bind_some]
  rw [k11_g3 eW1]
  simp only [Option.bind_some]
  rw [k4_g4 eD1, Option.bind_some, e2, Option.bind_some]
  by_cases hz : (dAcc A t).1 = 0
  · rw [if_pos hz, if_pos hz, k11_g3 eW2]
    simp only [Option.bind_some]
    rw [k4_o eD2]
    simp only [Option.bind_some]
    obtain ⟨⟨k', hk', h13'⟩, hst, hnm⟩ := dAcc_ok hd h0 hz
    have hread : f_Definition_isRead (x + 59) h2 = some (if (dAcc A t).2.1 10 = 4 then 1 else 0) := by
      unfold f_Definition_isRead
      rw [k4_g2 eD2, Option.bind_some]
      show (if (dAcc A t).2.1 10 = 4 then some (1 : Int32) else some 0) = _
      split <;> rfl
    rw [hread, Option.bind_some]
    have h10 : (aPi (dAcc A t).2 2 ((dAcc A t).2.1 12)).1 10 = (dAcc A t).2.1 10 := rfl
    rw [h10]
    by_cases h4 : (dAcc A t).2.1 10 = 4
    · rw [if_pos h4, if_neg (show ¬ (1 : Int32) = 0 by decide), if_pos h4, k11_g1 eW2]
      simp only [Option.bind_some]
      obtain ⟨fsB, hoB⟩ := P2.1.2.2.2.2.2.2.1.obj
      have hN2 : aNm (aPi (dAcc A t).2 2 ((dAcc A t).2.1 12)) := by
        refine ⟨by show ((dAcc A t).2.2.1 2).length ≤ 100; rw [hnum]; exact hN.1, fun i hi => ?_⟩
        show (dAcc A t).2.2.2.1 0 i = -1 ∨ ∃ m, m < ((dAcc A t).2.2.1 2).length ∧ (dAcc A t).2.2.2.1 0 i = nI m
        rw [kk3, hnum]
        exact hN.2 i hi
      rw [hoB, Option.bind_some, P2.1.2.2.2.2.2.2.1.isFull hN2, Option.bind_some]
      have hl2 : ((aPi (dAcc A t).2 2 ((dAcc A t).2.1 12)).2.1 2).length = (A.2.1 2).length := hnum
      have hl3 : ((aPi (dAcc A t).2 2 ((dAcc A t).2.1 12)).2.1 3).length = ((aPi (dAcc A t).2 2 ((dAcc A t).2.1 12)).2.1 2).length := by
        rw [hl2]
        show ((dAcc A t).2.2.1 3).length = _
        rw [kk2 3 (by omega)]
        exact h3
      generalize hC : aPi (dAcc A t).2 2 ((dAcc A t).2.1 12) = C at P2 hN2 hl2 hl3 eW2 eD2
      have hC13 : C.1 13 = nI k' := by rw [← hC]; exact h13'
      have hC12 : tName (C.1 12) = true := by rw [← hC]; exact hnm
      have hC0 : C.2.1 0 = A.2.1 0 := by rw [← hC]; exact kk2 0 (by omega)
      by_cases hfull : (C.2.1 2).length = 100
      · rw [if_pos hfull, if_neg (show ¬ (1 : Int32) = 0 by decide), if_pos hfull]
        exact ⟨dn, ds, cp1, o1, h2, by simp, F12, aw1 C hl2, P2⟩
      · rw [if_neg hfull, if_pos (show (0 : Int32) = 0 from rfl), if_neg hfull]
        rw [k4_g4 eD2, k11_g5 eW2]
        simp only [Option.bind_some]
        obtain ⟨nm, hnm2, hnme, hnmc⟩ := tName_nI hC12
        obtain ⟨dn2, ds2, o3, h3', e3, b1, b2, O3, H3, M3⟩ := c_toMacro (n := n) (nm := nm) (mk := C.1 8) P2.2.2.1 P2.1.1 hk' hC13 hl3 (by omega)
        have P3 : cP x o3 (nx + dn + dn2) h3' cp1 C := P2.old H3 O3
        have F3 : Fr cWw o1 o3 h2 h3' := H3.fr P2.1.1
        have eW3 := P3.2.2.2.1.1
        obtain ⟨fsB3, hoB3⟩ := P3.1.2.2.2.2.2.2.1.obj
        have h100 := hN2.1
        obtain ⟨h4', e4, F4, B4⟩ := c_enter (n := n) (t := C.1 12) P3.1.2.2.2.2.2.2.1 hN2 hl3 (by omega) hnme hnm2 M3 (by omega)
        have P4 := P3.new F4 B4
        generalize hD : aNew C nm k' (C.1 8) (dRow C) = E at P4
        have eW4 := P4.2.2.2.1.1
        have eD4 := P4.2.2.1.1.obj
        -- the definition is left
        obtain ⟨OO5, F5⟩ := P4.2.2.1.1.up (aPi E 10 0) (v := k4 (x + 60) (x + 81) 0 (E.1 11) (E.1 12) (E.1 13) (E.1 14)) rfl
        have P5 : cP x o3 (nx + dn + dn2) _ cp1 (aPi E 10 0) := P4.d (F5.mono (fun l q => Or.inl q)) P4.1.1 ⟨OO5, (P4.2.2.1.2.fr F5 (fun l h1 h2 => by show ¬ l = 7; omega)).abs (fun _ _ _ => rfl) (fun _ _ _ => rfl)⟩ (fun _ _ => rfl) (fun j hj => (by simp only [aPi, aPl, aPt, rput, va_up, upd] <;> (repeat rw [if_neg (by omega)]))) (fun _ _ => rfl) rfl
        obtain ⟨h6, e6, P6, F6⟩ := P5.n 0
        obtain ⟨P7, F7⟩ := P6.w (aPi (aPi (aPi E 10 0) 2 0) 8 0) (v := k11 (x + 28) (x + 1) (x + 30) (x + 59) (x + 83) 0 (E.1 9)) rfl (fun j h1 _ => (by simp only [aPi, aPl, aPt, rput, va_up, upd] <;> (repeat rw [if_neg (by omega)]))) rfl
        have eW5 := P5.2.2.2.1.1
        have eW6 := P6.2.2.2.1.1
        have eW7 := P7.2.2.2.1.1
        have FF : Fr cWw o o3 h _ := ((((F12.tr F3).tr (F4.mono (fun l q => by unfold cWw; omega))).tr (F5.mono (fun l q => by unfold cWw; omega))).tr (F6.mono (fun l q => by unfold cWw; omega))).tr (F7.mono (fun l q => by unfold cWw; omega))
        have hE2 : (E.2.1 2).length = (A.2.1 2).length + 1 := by
          rw [← hD, aNew_2, List.length_append, hl2]
          rfl
        have hE9 : E.1 9 = C.1 9 := by rw [← hD]; rfl
        have hE0 : E.2.1 0 = A.2.1 0 := by
          rw [← hD, aNew_l (by decide) (by decide) (by omega)]
          exact hC0
        have aw7 : ∀ B : aS, (B.2.1 2).length = (A.2.1 2).length + 1 → cAw cp cp1 A B (dn + dn2) (ds + ds2) := fun B hB => by
          unfold cAw
          rw [hB]
          omega
        rw [e3]
        simp only []
        rw [k11_g5 eW3]
        simp only [Option.bind_some]
        rw [hoB3, Option.bind_some, e4]
        simp only [hbW]
        rw [k11_g3 eW4]
        simp only [Option.bind_some]
        rw [k4_o eD4, Option.bind_some]
        unfold f_Definition_leave
        rw [k4_p2 eD4, Option.bind_some]
        simp only [hbW]
        rw [k11_g2 eW5]
        simp only [Option.bind_some]
        rw [e6, Option.bind_some, k11_p5 eW6, Option.bind_some, k11_g6 (va_up_self _ _ _), Option.bind_some, show (aPi (aPi E 10 0) 2 0).1 9 = E.1 9 from rfl]
        have hent : dEnter C = dLater (aPi (aPi (aPi E 10 0) 2 0) 8 0) := by
          unfold dEnter
          rw [hnmc, hC13, nI_clamp (by omega), hD]
        rw [hent]
        unfold dLater
        have h9 : (aPi (aPi (aPi E 10 0) 2 0) 8 0).1 9 = E.1 9 := rfl
        rw [h9]
        by_cases hlat : E.1 9 = -1
        · rw [if_pos hlat, if_pos hlat]
          refine ⟨dn + dn2, ds + ds2, cp1, o3, _, by simp, FF, aw7 _ hE2, ?_⟩
          rw [← Nat.add_assoc]
          exact P7
        · rw [if_neg hlat, if_neg hlat, k11_g0 eW7]
          simp only [Option.bind_some]
          have I7 := P7.1.2.2.1
          obtain ⟨h8, e8, I8, F8⟩ := I7.put (E.1 9) (by show (E.2.1 0).length < 3000; rw [hE0]; exact hroom)
          have P8 := P7.i F8 I8
          obtain ⟨P9, F9⟩ := P8.w (aPi (aPl (aPi (aPi (aPi E 10 0) 2 0) 8 0) 0 (E.1 9 :: (aPi (aPi (aPi E 10 0) 2 0) 8 0).2.1 0)) 9 (-1)) (v := k11 (x + 28) (x + 1) (x + 30) (x + 59) (x + 83) 0 (-1)) rfl (fun j _ h2 => (by simp only [aPi, aPl, aPt, rput, va_up, upd] <;> (repeat rw [if_neg (by omega)]))) rfl
          refine ⟨dn + dn2, ds + ds2, cp1, o3, _, ?_, (FF.tr (F8.mono (fun l q => by unfold cWw; omega))).tr (F9.mono (fun l q => by unfold cWw; omega)), aw7 _ hE2, by rw [← Nat.add_assoc]; exact P9⟩
          rw [I7.obj, Option.bind_some, e8]
          simp only []
          rw [k11_p6 P8.2.2.2.1.1, Option.bind_some]
          rfl
    · rw [if_neg h4, if_pos (show (0 : Int32) = 0 from rfl), if_neg h4]
      refine ⟨dn, ds, cp1, o1, h2, ?_, F12, aw1 _ hnum, P2⟩
      simp
  · rw [if_neg hz, if_neg hz]
    exact ⟨dn, ds, cp1, o1, h2, by simp, F12, aw1 _ hnum, P2⟩
