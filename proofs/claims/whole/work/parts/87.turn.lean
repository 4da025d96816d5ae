/-! FRAMES END; THE FIRST TOKEN IS EXPANDED: the class -/
theorem getLast_of {xs : List Int32} (h : 0 < xs.length) : ∃ t, xs[xs.length - 1]? = some t ∧ xs.getLast? = some t := by
  refine ⟨xs[xs.length - 1]'(by omega), List.getElem?_eq_getElem (by omega), ?_⟩
  rw [List.getLast?_eq_getElem?, List.getElem?_eq_getElem (by omega)]
/-- a frame less -/
theorem cE.pop {x : Nat} {o : oT} {h : hH} {A : aS} (B : aS) {v : Option hC} (hE : cE x o h A) (h0 : 0 < (A.2.1 8).length) (h8 : B.2.1 8 = aFs A) (hs : ∀ j, 200 ≤ j → j < 250 → B.2.1 j = A.2.1 j) (hv : v = k5 (B.1 0) (x + 28) (x + 1) (x + 25) (x + 31) (x + 35) (x + 55) (x + 56) (x + 57) (nI ((A.2.1 8).length - 1)) (B.1 4) (B.1 3) (B.1 1) (B.1 2)) : cE x o (va_up h (x + 30) v) B ∧ Fr (fun b => b = 4) o o h (va_up h (x + 30) v) := by
  have F : Fr (fun b => b = 4) o o h (va_up h (x + 30) v) := Fr.u1 hE.eo.2
  obtain ⟨f, s, g, p0, p1, p2, p3, t1, t2, t3, hl, r⟩ := hE
  have hlen : (B.2.1 8).length = (A.2.1 8).length - 1 := by
    rw [h8]
    unfold aFs
    rw [List.length_dropLast]
  refine ⟨⟨f, s, g, ⟨by rw [va_up_self, hv, hlen], p0.2⟩, ((F _ _ t1).2 (by decide)).trans p1, ((F _ _ t2).2 (by decide)).trans p2, ((F _ _ t3).2 (by decide)).trans p3, t1, t2, t3, by omega, fun i t hi => ?_⟩, F⟩
  have hil := (List.getElem?_eq_some_iff.mp hi).1
  rw [hs (200 + i) (by omega) (by omega)]
  refine r i t ?_
  rw [h8] at hi
  unfold aFs at hi
  rw [List.getElem?_dropLast] at hi
  rw [← hi, if_pos (by omega)]
theorem c_putBack {x nx : Nat} {o : oT} {h : hH} {cp : Nat → Nat} {A : aS} (hQ : cQ x o nx h cp A) (h0 : 0 < (A.2.1 8).length) : ∃ h', f_Expander_putBack (x + 30) h = some ((eBack A).1, h') ∧ Fr cWf o o h h' ∧ cQr x o nx h' cp (eBack A) := by
  have hQ0 := hQ
  obtain ⟨ho, hS, hI, hE, hT, hA, hB, ar, hR⟩ := hQ
  have e := hE.eo.1
  have hlen := hE.len
  unfold f_Expander_putBack eBack
  rw [k5_g1 e, Option.bind_some, Option.bind_some, hI.obj, Option.bind_some, hI.isFull, Option.bind_some]
  by_cases hf : 3000 ≤ (A.2.1 0).length
  · rw [if_neg (show ¬ (if (A.2.1 0).length < 3000 then (0 : Int32) else 1) = 0 by rw [if_neg (by omega)]; decide), if_pos hf]
    exact ⟨h, rfl, Fr.rf _ _ _, cQr_of (r := (8, A)) hQ0⟩
  · rw [if_pos (show (if (A.2.1 0).length < 3000 then (0 : Int32) else 1) = 0 by rw [if_pos (by omega)]), if_neg hf]
    obtain ⟨t, ht, htl⟩ := getLast_of h0
    have htop : aTop A = t := by
      unfold aTop
      rw [htl]
      rfl
    obtain ⟨E1, F1⟩ := hE.pop (aPi (aPl (aPl A 8 (aFs A)) 0 (aTop A :: A.2.1 0)) 3 0) (v := k5 (A.1 0) (x + 28) (x + 1) (x + 25) (x + 31) (x + 35) (x + 55) (x + 56) (x + 57) (nI ((A.2.1 8).length - 1)) (A.1 4) 0 (A.1 1) (A.1 2)) h0 (by
        rfl) (fun j h1 h2 => by
        show va_up (va_up A.2.1 8 (aFs A)) 0 _ j = _
        rw [va_up_ne _ _ (by omega), va_up_ne _ _ (by omega)]) rfl
    have e1 : (va_up h (x + 30) (k5 (A.1 0) (x + 28) (x + 1) (x + 25) (x + 31) (x + 35) (x + 55) (x + 56) (x + 57) (nI ((A.2.1 8).length - 1)) (A.1 4) 0 (A.1 1) (A.1 2))) (x + 30) = k5 (A.1 0) (x + 28) (x + 1) (x + 25) (x + 31) (x + 35) (x + 55) (x + 56) (x + 57) (nI ((A.2.1 8).length - 1)) (A.1 4) 0 (A.1 1) (A.1 2) := va_up_self _ _ _
    have I1 := hI.fr F1 (by decide)
    obtain ⟨h2, e2, I2, F2⟩ := I1.put t (by omega)
    obtain ⟨f, s, g, p0, p1, p2, p3, t1, t2, t3, hl, r⟩ := hE
    have p1' : (va_up h (x + 30) (k5 (A.1 0) (x + 28) (x + 1) (x + 25) (x + 31) (x + 35) (x + 55) (x + 56) (x + 57) (nI ((A.2.1 8).length - 1)) (A.1 4) 0 (A.1 1) (A.1 2))) (x + 55) = kA 50 f := by rw [va_up_ne _ _ (by omega)]; exact p1
    have hlist : ∀ j, j ≠ 0 → j ≠ 8 → (aPi (aPl (aPl A 8 (aFs A)) 0 (aTop A :: A.2.1 0)) 3 0).2.1 j = A.2.1 j := fun j h1 h2 => by
      show va_up (va_up A.2.1 8 (aFs A)) 0 _ j = _
      rw [va_up_ne _ _ h1, va_up_ne _ _ h2]
    refine ⟨h2, ?_, (F1.mono (fun l q => Or.inr (Or.inr (Or.inr (Or.inl q))))).tr (F2.mono (fun l q => Or.inr (Or.inr (Or.inl q)))), cQr_of ⟨ho, ?_, ?_, E1.fr F2 (by decide) (by decide), ?_, ?_, ?_, ar, ?_⟩⟩
    · rw [k5_g9 e, Option.bind_some, show nI (A.2.1 8).length - 1 = nI ((A.2.1 8).length - 1) from pk_sub (b := 1) (by omega), k5_p9 e, Option.bind_some, k5_z11 (va_up_self _ _ _) 0 (Or.inl rfl), Option.bind_some, va_up_up, k5_g1 e1, Option.bind_some, k5_g6 e1, Option.bind_some, k5_g9 e1]
      simp only [Option.bind_some]
      rw [kA_get p1' (by omega) (by decide), Option.bind_some, I1.obj, Option.bind_some, (r _ _ ht).1, e2]
      rfl
    · exact ((hS.fr F1 (by decide)).fr F2 (by decide)).abs rfl (fun j h1 h2 => hlist j (by omega) (by omega))
    · show cI x o h2 (va_up (va_up A.2.1 8 (aFs A)) 0 (aTop A :: A.2.1 0) 0)
      rw [va_up_self, htop]
      exact I2
    · exact (hT.fr F1 (by decide)).fr F2 (by decide)
    · exact (hA.fr F1 (by decide)).fr F2 (by decide)
    · exact ((hB.fr F1 (by decide) (fun l _ => by show ¬ l = 4; omega)).fr F2 (by decide) (fun l _ => by show ¬ l = 3; omega)).abs (hlist 2 (by decide) (by decide)) (hlist 3 (by decide) (by decide)) (fun j h1 => hlist j (by omega) (by omega)) rfl rfl
    · exact (hR.fr F1 (fun a _ _ => by show ¬ 19 + a = 4; omega)).fr F2 (fun a _ _ => by show ¬ 19 + a = 3; omega)
theorem c_takeFirst {x nx : Nat} {o : oT} {h : hH} {cp : Nat → Nat} {A : aS} {t : Int32} {ts : List Int32} (hQ : cQ x o nx h cp A) (hx : A.2.1 0 = t :: ts) : ∃ h', f_Expander_takeFirst (x + 30) h = some (t, h') ∧ Fr (fun b => b = 3 ∨ b = 4) o o h h' ∧ cQ x o nx h' cp (aPi (aPl A 0 ts) 3 0) := by
  obtain ⟨ho, hS, hI, hE, hT, hA, hB, ar, hR⟩ := hQ
  have e := hE.eo.1
  have hlist : ∀ j, j ≠ 0 → (aPi (aPl A 0 ts) 3 0).2.1 j = A.2.1 j := fun j h1 => va_up_ne _ _ h1
  obtain ⟨E1, F1⟩ := hE.up (aPi (aPl A 0 ts) 3 0) (v := k5 (A.1 0) (x + 28) (x + 1) (x + 25) (x + 31) (x + 35) (x + 55) (x + 56) (x + 57) (nI (A.2.1 8).length) (A.1 4) 0 (A.1 1) (A.1 2)) (hlist 8 (by decide)) (fun j h1 h2 => hlist j (by omega)) rfl
  rw [hx] at hI
  have I1 := hI.fr F1 (by decide)
  obtain ⟨h2, e2, I2, F2⟩ := I1.take
  refine ⟨h2, ?_, (F1.mono (fun l q => Or.inr q)).tr (F2.mono (fun l q => Or.inl q)), ho, ?_, ?_, E1.fr F2 (by decide) (by decide), ?_, ?_, ?_, ar, ?_⟩
  · unfold f_Expander_takeFirst
    rw [k5_z11 e 0 (Or.inl rfl), Option.bind_some, k5_g1 (va_up_self _ _ _), Option.bind_some, Option.bind_some, I1.obj, Option.bind_some, e2]
    rfl
  · exact ((hS.fr F1 (by decide)).fr F2 (by decide)).abs rfl (fun j h1 h2 => hlist j (by omega))
  · exact I2
  · exact (hT.fr F1 (by decide)).fr F2 (by decide)
  · exact (hA.fr F1 (by decide)).fr F2 (by decide)
  · exact ((hB.fr F1 (by decide) (fun l _ => by show ¬ l = 4; omega)).fr F2 (by decide) (fun l _ => by show ¬ l = 3; omega)).abs (hlist 2 (by decide)) (hlist 3 (by decide)) (fun j h1 => hlist j (by omega)) rfl rfl
  · exact (hR.fr F1 (fun a _ _ => by show ¬ 19 + a = 4; omega)).fr F2 (fun a _ _ => by show ¬ 19 + a = 3; omega)
theorem c_endNaming {n x nx fr : Nat} {o : oT} {h : hH} {cp : Nat → Nat} {A : aS} (hQ : cQ x o nx h cp A) (h0 : (A.2.1 8).length = fr + 1) (hm : (A.2.1 8)[fr]? = some (-1)) (hroom : (A.2.1 0).length < 3000) (hn : 200 < n) : ∃ h', f_Expander_endNaming n (x + 30) (nI fr) (nI (A.2.1 (200 + fr)).length) h = some ((if (A.2.1 (200 + fr)).length = 0 then (4, A) else eEnd A (A.2.1 (200 + fr)) (A.1 16).toNatClampNeg).1, h') ∧ Fr cWf o o h h' ∧ cQr x o nx h' cp (if (A.2.1 (200 + fr)).length = 0 then (4, A) else eEnd A (A.2.1 (200 + fr)) (A.1 16).toNatClampNeg) := by
  have hQ0 := hQ
  obtain ⟨ho, hS, hI, hE, hT, hA, hB, ar, hR⟩ := hQ
  have e := hE.eo.1
  have hlen := hE.len
  have hE' := hE
  obtain ⟨f, s, g, p0, p1, p2, p3, t1, t2, t3, hl, r⟩ := hE
  obtain ⟨r1, r2, r3⟩ := (r fr (-1) hm).2 rfl
  unfold f_Expander_endNaming
  by_cases hs0 : (A.2.1 (200 + fr)).length = 0
  · rw [if_pos (by rw [hs0]; rfl), if_pos hs0]
    exact ⟨h, rfl, Fr.rf _ _ _, cQr_of (r := (4, A)) hQ0⟩
  · rw [if_neg (nI_ne0 (by omega) (by omega)), if_neg hs0]
    obtain ⟨fsS, hoS⟩ := hS.obj
    obtain ⟨code, h1, e1, F1, hres⟩ := c_numberOf (n := n) (p := 8 * fr) (ra := x + 56) (ss := A.2.1 (200 + fr)) hS p2 t2 (by omega) r2 r3 hn
    have hpre : (hgR h (x + 30) 5 3).bind (fun v7 => (hgR h (x + 30) 5 7).bind fun v11 => (v7).bind fun p19 => (v11).bind fun p19_0 => (hObj h p19 9).bind fun c19 => hbW (f_Spelling_numberOf n p19 p19_0 (nI fr * (8 : Int32)) (nI (A.2.1 (200 + fr)).length) h) fun v19 h19 => if v19 = (-1 : Int32) then some ((8 : Int32), h19) else (hgI h19 (x + 30) 5 9).bind fun v33 => (hpV h19 (x + 30) 5 9 (.int (v33 - (1 : Int32)))).bind fun h38 => (hgR h38 (x + 30) 5 1).bind fun v42 => (v42).bind fun p50 => (hObj h38 p50 6).bind fun c50 => hbW (f_Input_put p50 ((1100 : Int32) + v19) h38) fun _ h50 => some ((0 : Int32), h50)) = if code = (-1 : Int32) then some ((8 : Int32), h1) else (hgI h1 (x + 30) 5 9).bind fun v33 => (hpV h1 (x + 30) 5 9 (.int (v33 - (1 : Int32)))).bind fun h38 => (hgR h38 (x + 30) 5 1).bind fun v42 => (v42).bind fun p50 => (hObj h38 p50 6).bind fun c50 => hbW (f_Input_put p50 ((1100 : Int32) + code) h38) fun _ h50 => some ((0 : Int32), h50) := by
      rw [k5_g3 e, Option.bind_some, k5_g7 e, Option.bind_some, Option.bind_some, Option.bind_some, hoS, Option.bind_some, show nI fr * (8 : Int32) = nI (8 * fr) by rw [show (8 : Int32) = nI 8 from rfl, pk_mul, Nat.mul_comm], e1]
      rfl
    rw [hpre]
    have E1 := hE'.fr F1 (by decide) (by decide)
    have q1 := E1.eo.1
    have I1 := hI.fr F1 (by decide)
    have T1 := hT.fr F1 (by decide)
    have A1 := hA.fr F1 (by decide)
    have B1 := hB.fr F1 (by decide) (fun l _ => by show ¬ l = 2; omega)
    have R1 := hR.fr F1 (fun a _ _ => by show ¬ 19 + a = 2; omega)
    have F1m : Fr cWf o o h h1 := F1.mono (fun l q => Or.inl q)
    have hgood : ∀ (C : aS) (i : Nat), code = nI i → i < 101 → cS x o h1 C → C.1 = (C.1) → (∀ j, j < 100 ∨ 200 ≤ j → C.2.1 j = A.2.1 j) → C.2.2 = A.2.2 → (∀ j, j ≠ 16 → C.1 j = A.1 j) → ∃ h', (if code = (-1 : Int32) then some ((8 : Int32), h1) else (hgI h1 (x + 30) 5 9).bind fun v33 => (hpV h1 (x + 30) 5 9 (.int (v33 - (1 : Int32)))).bind fun h38 => (hgR h38 (x + 30) 5 1).bind fun v42 => (v42).bind fun p50 => (hObj h38 p50 6).bind fun c50 => hbW (f_Input_put p50 ((1100 : Int32) + code) h38) fun _ h50 => some ((0 : Int32), h50)) = some (0, h') ∧ Fr cWf o o h h' ∧ cQ x o nx h' cp (aPl (aPl C 8 (aFs A)) 0 (nI (1100 + i) :: A.2.1 0)) := by
      intro C i hc hi hSC _ hCl hC2 hCi
      have hlist : ∀ j, j ≠ 0 → j ≠ 8 → (j < 100 ∨ 200 ≤ j) → (aPl (aPl C 8 (aFs A)) 0 (nI (1100 + i) :: A.2.1 0)).2.1 j = A.2.1 j := fun j h1 h2 h3 => by
        show va_up (va_up C.2.1 8 (aFs A)) 0 _ j = _
        rw [va_up_ne _ _ h1, va_up_ne _ _ h2]
        exact hCl j h3
      obtain ⟨E2, F2⟩ := E1.pop (aPl (aPl C 8 (aFs A)) 0 (nI (1100 + i) :: A.2.1 0)) (v := k5 (A.1 0) (x + 28) (x + 1) (x + 25) (x + 31) (x + 35) (x + 55) (x + 56) (x + 57) (nI ((A.2.1 8).length - 1)) (A.1 4) (A.1 3) (A.1 1) (A.1 2)) (by omega) (by
          rfl) (fun j h1 h2 => hlist j (by omega) (by omega) (by omega)) (by
          show _ = k5 (C.1 0) (x + 28) (x + 1) (x + 25) (x + 31) (x + 35) (x + 55) (x + 56) (x + 57) (nI ((A.2.1 8).length - 1)) (C.1 4) (C.1 3) (C.1 1) (C.1 2)
          rw [hCi 0 (by decide), hCi 4 (by decide), hCi 3 (by decide), hCi 1 (by decide), hCi 2 (by decide)])
      have I2 := I1.fr F2 (by decide)
      obtain ⟨h3, e3, I3, F3⟩ := I2.put (nI (1100 + i)) hroom
      refine ⟨h3, ?_, (F1m.tr (F2.mono (fun l q => Or.inr (Or.inr (Or.inr (Or.inl q)))))).tr (F3.mono (fun l q => Or.inr (Or.inr (Or.inl q)))), ho, ?_, ?_, E2.fr F3 (by decide) (by decide), ?_, ?_, ?_, ar, ?_⟩
      · rw [hc, if_neg (fun q => nI_pos (n := i) (by omega) (by rw [q]; decide)), k5_g9 q1, Option.bind_some, show nI (A.2.1 8).length - 1 = nI ((A.2.1 8).length - 1) from pk_sub (b := 1) (by omega), k5_p9 q1, Option.bind_some, k5_g1 (va_up_self _ _ _), Option.bind_some, Option.bind_some, I2.obj, Option.bind_some, show (1100 : Int32) + nI i = nI (1100 + i) from nI_add 1100 i, e3]
        rfl
      · exact ((hSC.fr F2 (by decide)).fr F3 (by decide)).abs rfl (fun j h1 h2 => by
          show va_up (va_up C.2.1 8 (aFs A)) 0 _ j = _
          rw [va_up_ne _ _ (by omega), va_up_ne _ _ (by omega)])
      · exact I3
      · show cT x o h3 C.2.2.2
        rw [hC2]
        exact (T1.fr F2 (by decide)).fr F3 (by decide)
      · exact (A1.fr F2 (by decide)).fr F3 (by decide)
      · exact ((B1.fr F2 (by decide) (fun l _ => by show ¬ l = 4; omega)).fr F3 (by decide) (fun l _ => by show ¬ l = 3; omega)).abs (hlist 2 (by decide) (by decide) (by decide)) (hlist 3 (by decide) (by decide) (by decide)) (fun j h1 => hlist j (by omega) (by omega) (by omega)) (by show C.2.2.1 = A.2.2.1; rw [hC2]) (hCi 15 (by decide))
      · exact (R1.fr F2 (fun a _ _ => by show ¬ 19 + a = 4; omega)).fr F3 (fun a _ _ => by show ¬ 19 + a = 3; omega)
    unfold eEnd
    cases hsp : mSpell (fun i => A.2.1 (100 + i)) (A.2.1 (200 + fr)) (A.1 16).toNatClampNeg with
    | some i =>
      rw [hsp] at hres
      obtain ⟨hc, hi, hS1⟩ := hres
      obtain ⟨h', q2, q3, q4⟩ := hgood A i hc (by omega) hS1 rfl (fun _ _ => rfl) rfl (fun _ _ => rfl)
      exact ⟨h', q2, q3, cQr_of q4⟩
    | none =>
      rw [hsp] at hres
      dsimp only at hres ⊢
      by_cases h100 : (A.1 16).toNatClampNeg = 100
      · rw [if_pos h100] at hres ⊢
        obtain ⟨hc, hS1⟩ := hres
        refine ⟨h1, ?_, F1m, cQr_of (r := (8, A)) ⟨ho, hS1, I1, E1, T1, A1, B1, ar, R1⟩⟩
        rw [hc, if_pos rfl]
      · rw [if_neg h100] at hres ⊢
        obtain ⟨hc, hi, hS1⟩ := hres
        obtain ⟨h', q2, q3, q4⟩ := hgood _ _ hc (by omega) hS1 rfl (fun j hj => (by simp only [aPi, aPl, aPt, rput, va_up, upd] <;> (repeat rw [if_neg (by omega)]))) rfl (fun j hj => (by simp only [aPi, aPl, aPt, rput, va_up, upd] <;> (repeat rw [if_neg (by omega)])))
        exact ⟨h', q2, q3, cQr_of q4⟩
theorem c_goOn {n x nx : Nat} {o : oT} {h : hH} {cp : Nat → Nat} {A : aS} (hQ : cQ x o nx h cp A) (h0 : 0 < (A.2.1 8).length) (hm : aTop A = -1) (hn : 200 < n) : ∃ h', f_Expander_goOnNaming n (x + 30) h = some ((eGo A).1, h') ∧ Fr cWf o o h h' ∧ cQr x o nx h' cp (eGo A) := by
  have hQ0 := hQ
  obtain ⟨t0, ht0, htl⟩ := getLast_of h0
  have htop : t0 = -1 := by
    rw [← hm]
    unfold aTop
    rw [htl]
    rfl
  subst htop
  obtain ⟨fr, hfr⟩ : ∃ fr, (A.2.1 8).length = fr + 1 := ⟨(A.2.1 8).length - 1, by omega⟩
  rw [hfr, Nat.add_sub_cancel] at ht0
  have hE := hQ.2.2.2.1
  have hI := hQ.2.2.1
  have e := hE.eo.1
  have hlen := hE.len
  have hil := hI.le
  unfold f_Expander_goOnNaming eGo
  rw [k5_g1 e, Option.bind_some, Option.bind_some, hI.obj, Option.bind_some, hI.isEmpty, Option.bind_some]
  cases hx : A.2.1 0 with
  | nil => exact ⟨h, rfl, Fr.rf _ _ _, cQr_of (r := (1, A)) hQ0⟩
  | cons t ts =>
    rw [hx, List.length_cons] at hil
    rw [if_pos (by simp), k5_o e, Option.bind_some]
    obtain ⟨h1, e1, F1, Q1⟩ := c_takeFirst hQ hx
    rw [e1]
    simp only [hbW]
    have F1m : Fr cWf o o h h1 := F1.mono (fun l q => Or.inr (Or.inr (by unfold cWn; omega)))
    have hE1 := Q1.2.2.2.1
    have q1 := hE1.eo.1
    have hQ1' := Q1
    obtain ⟨o1, hS1, hI1, -, hT1, hA1, hB1, ar, hR1⟩ := Q1
    have hE1' := hE1
    obtain ⟨f, s, g, p0, p1, p2, p3, t1, t2, t3, hl, r⟩ := hE1
    have ht1 : ((aPi (aPl A 0 ts) 3 0).2.1 8)[fr]? = some (-1) := ht0
    obtain ⟨r1, r2, r3⟩ := (r fr (-1) ht1).2 rfl
    have hl8 : ((aPi (aPl A 0 ts) 3 0).2.1 8).length = fr + 1 := hfr
    have hsig : (aPi (aPl A 0 ts) 3 0).2.1 (200 + fr) = A.2.1 (200 + fr) := (by simp only [aPi, aPl, aPt, rput, va_up, upd] <;> (repeat rw [if_neg (by omega)]))
    rw [k5_g9 q1, Option.bind_some, k5_g8 q1]
    simp only [Option.bind_some]
    rw [hl8, nI_pred, kA_get p3 (by omega) (by decide), Option.bind_some, r1, hfr, Nat.add_sub_cancel]
    unfold eSign
    by_cases h263 : t = 263
    · rw [if_pos h263, if_pos h263, k5_o q1, Option.bind_some]
      obtain ⟨h2, e2, F2, Q2⟩ := c_endNaming (n := n) hQ1' hl8 ht1 (by show ts.length < 3000; omega) hn
      rw [e2]
      simp only [hbW]
      rw [hsig] at Q2 ⊢
      exact ⟨h2, rfl, F1m.tr F2, Q2⟩
    · rw [if_neg h263, if_neg h263, c_sign, Option.bind_some]
      rw [hsig] at r1 r2 r3 ⊢
      by_cases hsn : 0 ≤ t ∧ t ≤ 255
      · rw [decide_eq_true hsn, if_neg (by decide)]
        by_cases h8 : (A.2.1 (200 + fr)).length < 8
        · rw [if_pos (show _ < (8 : Int32) from nI_lt (b := 8) h8 (by decide)), if_pos ⟨hsn.1, hsn.2, h8⟩, k5_g7 q1]
          simp only [Option.bind_some]
          rw [show nI fr * (8 : Int32) + nI (A.2.1 (200 + fr)).length = nI (8 * fr + (A.2.1 (200 + fr)).length) by rw [show (8 : Int32) = nI 8 from rfl, pk_mul, nI_add, Nat.mul_comm], kA_set p2 (by omega) (by decide), Option.bind_some]
          have Fa : Fr (fun b => b = 10) o o h1 (va_up h1 (x + 56) (kA 400 (upd s (8 * fr + (A.2.1 (200 + fr)).length) t))) := Fr.u1 t2
          have qa := (p0.fr Fa (by decide)).1
          have p3a : (va_up h1 (x + 56) (kA 400 (upd s (8 * fr + (A.2.1 (200 + fr)).length) t))) (x + 57) = kA 50 g := by rw [va_up_ne _ _ (by omega)]; exact p3
          rw [k5_g8 qa, Option.bind_some, Option.bind_some, nI_1, kA_set p3a (by omega) (by decide), Option.bind_some]
          have Fb : Fr (fun b => b = 10) o o h1 (va_up (va_up h1 (x + 56) (kA 400 (upd s (8 * fr + (A.2.1 (200 + fr)).length) t))) (x + 57) (kA 50 (upd g fr (nI ((A.2.1 (200 + fr)).length + 1))))) := Fa.tr (Fr.u1 t3)
          have hl8' : ∀ j, j ≠ 200 + fr → (aPl (aPi (aPl A 0 ts) 3 0) (200 + fr) (A.2.1 (200 + fr) ++ [t])).2.1 j = (aPi (aPl A 0 ts) 3 0).2.1 j := fun j hj => va_up_ne _ _ hj
          refine ⟨_, rfl, F1m.tr (Fb.mono (fun l q => Or.inr (Or.inl q))), cQr_of ⟨o1, ?_, ?_, ⟨f, upd s (8 * fr + (A.2.1 (200 + fr)).length) t, upd g fr (nI ((A.2.1 (200 + fr)).length + 1)), ?_, ?_, ?_, va_up_self _ _ _, t1, t2, t3, ?_, ?_⟩, ?_, ?_, ?_, ar, ?_⟩⟩
          · exact (hS1.fr Fb (by decide)).abs rfl (fun j h1 h2 => hl8' j (by omega))
          · rw [hl8' 0 (by omega)]
            exact hI1.fr Fb (by decide)
          · rw [hl8' 8 (by omega)]
            exact p0.fr Fb (by decide)
          · rw [va_up_ne _ _ (by omega), va_up_ne _ _ (by omega)]
            exact p1
          · rw [va_up_ne _ _ (by omega), va_up_self]
          · rw [hl8' 8 (by omega)]
            exact hl
          · intro i u hi
            have hi' : ((aPi (aPl A 0 ts) 3 0).2.1 8)[i]? = some u := by rw [← hl8' 8 (by omega)]; exact hi
            have hil2 := (List.getElem?_eq_some_iff.mp hi').1
            rw [hl8] at hil2
            obtain ⟨w1, w2⟩ := r i u hi'
            refine ⟨w1, fun q => ?_⟩
            obtain ⟨w3, w4, w5⟩ := w2 q
            show upd g fr (nI ((A.2.1 (200 + fr)).length + 1)) i = nI ((va_up (aPi (aPl A 0 ts) 3 0).2.1 (200 + fr) (A.2.1 (200 + fr) ++ [t])) (200 + i)).length ∧ ((va_up (aPi (aPl A 0 ts) 3 0).2.1 (200 + fr) (A.2.1 (200 + fr) ++ [t])) (200 + i)).length ≤ 8 ∧ ∀ (j : Nat) (u : Int32), ((va_up (aPi (aPl A 0 ts) 3 0).2.1 (200 + fr) (A.2.1 (200 + fr) ++ [t])) (200 + i))[j]? = some u → upd s (8 * fr + (A.2.1 (200 + fr)).length) t (8 * i + j) = u
            by_cases hif : i = fr
            · subst hif
              rw [va_up_self, upd_same, List.length_append]
              refine ⟨rfl, h8, fun j u hj => ?_⟩
              by_cases hjl : j < (A.2.1 (200 + i)).length
              · rw [List.getElem?_append_left hjl] at hj
                rw [upd_other (by omega)]
                exact r3 j u hj
              · rw [List.getElem?_append_right (by omega)] at hj
                have hj0 : j = (A.2.1 (200 + i)).length := by
                  have := (List.getElem?_eq_some_iff.mp hj).1
                  simp at this
                  omega
                subst hj0
                simp at hj
                rw [upd_same]
                exact hj
            · rw [va_up_ne _ _ (by omega), upd_other hif]
              refine ⟨w3, w4, fun j u hj => ?_⟩
              have hjl := (List.getElem?_eq_some_iff.mp hj).1
              rw [upd_other (by omega)]
              exact w5 j u hj
          · exact hT1.fr Fb (by decide)
          · exact hA1.fr Fb (by decide)
          · exact (hB1.fr Fb (by decide) (fun l _ => by show ¬ l = 10; omega)).abs (hl8' 2 (by omega)) (hl8' 3 (by omega)) (fun j h1 => hl8' j (by omega)) rfl rfl
          · exact hR1.fr Fb (fun a _ _ => by show ¬ 19 + a = 10; omega)
        · rw [if_neg (show ¬ _ < (8 : Int32) from nI_nlt (b := 8) (by omega) (by omega)), if_neg (fun q => h8 q.2.2)]
          exact ⟨h1, rfl, F1m, cQr_of (r := (4, aPi (aPl A 0 ts) 3 0)) hQ1'⟩
      · rw [decide_eq_false hsn, if_pos (by decide), if_neg (fun q => hsn ⟨q.1, q.2.1⟩)]
        exact ⟨h1, rfl, F1m, cQr_of (r := (4, aPi (aPl A 0 ts) 3 0)) hQ1'⟩
