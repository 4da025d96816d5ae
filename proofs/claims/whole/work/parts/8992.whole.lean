/-! THE WHOLE EXPANSION: the class -/
def cX (x : Nat) (o : oT) (h : hH) (A : aS) : Prop := h x = k0 (x + 1) (x + 25) (x + 28) (x + 30) (x + 58) (A.1 6) (A.1 7) ∧ o x = some 0
def cW (x : Nat) (o : oT) (h : hH) (cp : Nat → Nat) (A : aS) : Prop := h (x + 58) = k11 (x + 28) (x + 1) (x + 30) (x + 59) (x + 83) (A.1 8) (A.1 9) ∧ o (x + 58) = some 8 ∧ Rf o h 41 (x + 83) 3000 (cp 21) (A.2.1 1)
def cP (x : Nat) (o : oT) (nx : Nat) (h : hH) (cp : Nat → Nat) (A : aS) : Prop := cQ x o nx h cp A ∧ cX x o h A ∧ cD x o h cp A ∧ cW x o h cp A ∧ ∀ j, j < 23 → o (x + 85 + j) = some 9
theorem cX.fr {W : Nat → Prop} {x : Nat} {o o' : oT} {h h' : hH} {A B : aS} (hX : cX x o h A) (F : Fr W o o' h h') (w : ¬ W 0) (h6 : B.1 6 = A.1 6) (h7 : B.1 7 = A.1 7) : cX x o' h' B := ⟨by rw [(F _ _ hX.2).2 w, h6, h7]; exact hX.1, (F _ _ hX.2).1⟩
theorem cW.fr {W : Nat → Prop} {x : Nat} {o o' : oT} {h h' : hH} {cp cp' : Nat → Nat} {A B : aS} (hW : cW x o h cp A) (F : Fr W o o' h h') (w : ¬ W 8) (w2 : ¬ W 41) (h8 : B.1 8 = A.1 8) (h9 : B.1 9 = A.1 9) (h1 : B.2.1 1 = A.2.1 1) (hc : cp' 21 = cp 21) : cW x o' h' cp' B := ⟨by rw [(F _ _ hW.2.1).2 w, h8, h9]; exact hW.1, (F _ _ hW.2.1).1, by rw [h1, hc]; exact hW.2.2.fr F w2⟩
theorem cD.fr {W : Nat → Prop} {x : Nat} {o o' : oT} {h h' : hH} {cp cp' : Nat → Nat} {A B : aS} (hD : cD x o h cp A) (F : Fr W o o' h h') (w : ¬ W 7) (w2 : ∀ l, 30 ≤ l → l ≤ 40 → ¬ W l) (hi : ∀ j, 10 ≤ j → j ≤ 14 → B.1 j = A.1 j) (hl : ∀ j, 400 ≤ j → j ≤ 410 → B.2.1 j = A.2.1 j) (hc : ∀ j, 10 ≤ j → j ≤ 20 → cp' j = cp j) : cD x o' h' cp' B := ⟨(hD.1.fr F w).abs hi, (hD.2.fr F w2).abs hl hc⟩
/-- the expander has worked, the rest stands -/
theorem cP.of {x nx nx' : Nat} {o o' : oT} {h h' : hH} {cp cp' : Nat → Nat} {A B : aS} (hP : cP x o nx h cp A) (F : Fr cWf o o' h h') (hQ : cQ x o' nx' h' cp' B) (hk : eKeep A B) (hc : ∀ j, 9 < j → cp' j = cp j) : cP x o' nx' h' cp' B := by
  have w : ∀ l, l = 0 ∨ l = 7 ∨ l = 8 ∨ l = 9 ∨ (30 ≤ l ∧ l ≤ 41) → ¬ cWf l := fun l hl => by unfold cWf cWn; omega
  exact ⟨hQ, hP.2.1.fr F (w 0 (by omega)) (hk.1 6 (by omega)) (hk.1 7 (by omega)), hP.2.2.1.fr F (w 7 (by omega)) (fun l h1 h2 => w l (by omega)) (fun j h1 h2 => hk.1 j (by omega)) (fun j h1 h2 => hk.2.1 j (by omega)) (fun j h1 h2 => hc j (by omega)), hP.2.2.2.1.fr F (w 8 (by omega)) (w 41 (by omega)) (hk.1 8 (by omega)) (hk.1 9 (by omega)) (hk.2.1 1 (by omega)) (hc 21 (by omega)), fun j hj => (F _ _ (hP.2.2.2.2 j hj)).1⟩
def cPr (x : Nat) (o : oT) (nx : Nat) (h : hH) (cp : Nat → Nat) (r : Int32 × aS) : Prop := (r.1 = 0 → cP x o nx h cp r.2) ∧ (r.1 ≠ 0 → ∃ zs, cP x o nx h cp (aPl r.2 0 zs))
theorem cPr_of {x nx : Nat} {o : oT} {h : hH} {cp : Nat → Nat} {r : Int32 × aS} (hQ : cP x o nx h cp r.2) : cPr x o nx h cp r := ⟨fun _ => hQ, fun _ => ⟨r.2.2.1 0, by rw [aPl_same]; exact hQ⟩⟩
/-- what the whole expansion costs: the rows' growth and the new macros -/
def cAw (cp cp' : Nat → Nat) (A B : aS) (dn ds : Nat) : Prop := dn + sumN cp 21 + 40 * (A.2.1 2).length ≤ sumN cp' 21 + 40 * (B.2.1 2).length ∧ ds + 4 * sumN cp 21 + 3000 * (A.2.1 2).length ≤ 4 * sumN cp' 21 + 3000 * (B.2.1 2).length
def cWw (b : Nat) : Prop := b ≠ 9
theorem c_dBegin {n x : Nat} {e : Int32} {o : oT} {h : hH} {cp : Nat → Nat} {A : aS} (hD : cD x o h cp A) (he : e = 0 ∨ e = 1) (hn : 20 < n) : ∃ h', f_Definition_begin n (x + 59) e h = some ((), h') ∧ Fr cWd o o h h' ∧ cD x o h' cp (dBegin A e) := by
  obtain ⟨hO, hR⟩ := id hD
  obtain ⟨b, h1, el, F1, hR1, hT1⟩ := hloopW_rule (body := f_Definition_begin_b2 n (x + 59) e) (fun q v hh => ∃ i, q = 10 - i ∧ i ≤ 10 ∧ v = nI i ∧ Fr (fun b => 30 ≤ b ∧ b ≤ 39) o o h hh ∧ (∀ r, r < 10 → Rf o hh (30 + r) (x + 61 + 2 * r) 200 (cp (10 + r)) (if r < i then [] else A.2.1 (400 + r))) ∧ Rf o hh 40 (x + 81) 200 (cp 20) (A.2.1 410)) (fun _ hh => Fr (fun b => 30 ≤ b ∧ b ≤ 39) o o h hh ∧ (∀ r, r < 10 → Rf o hh (30 + r) (x + 61 + 2 * r) 200 (cp (10 + r)) []) ∧ Rf o hh 40 (x + 81) 200 (cp 20) (A.2.1 410))
    (by
      rintro q v hh ⟨i, rfl, hi, rfl, FF, hrw, hT⟩
      have hO' := hO.fr FF (by decide)
      have eo := hO'.obj
      obtain ⟨ff, -, p2, -, -, pf⟩ := hO'
      by_cases hie : i = 10
      · refine Or.inr ⟨(), hh, ?_, FF, fun r hr => ?_, hT⟩
        · unfold f_Definition_begin_b2
          dsimp only
          rw [k4_g0 eo, Option.bind_some, Option.bind_some, kR_len p2, Option.bind_some, if_pos (nI_le (by omega) (by omega))]
        · have := hrw r hr
          rw [if_pos (by omega)] at this
          exact this
      · have hri := hrw i (by omega)
        obtain ⟨fsb, hob⟩ := hri.1.obj
        obtain ⟨h2, e2, R2, F2⟩ := hri.clear
        refine Or.inl ⟨nI (i + 1), 10 - (i + 1), h2, ?_, by omega, i + 1, rfl, by omega, rfl, FF.tr (F2.mono (fun l q => by show 30 ≤ l ∧ l ≤ 39; omega)), fun r hr => ?_, hT.fr F2 (by show ¬ 40 = 30 + i; omega)⟩
        · unfold f_Definition_begin_b2
          dsimp only
          rw [k4_g0 eo]
          simp only [Option.bind_some]
          rw [kR_len p2, Option.bind_some, if_neg (nI_ge (by omega) (by omega)), kR_get p2 (by omega) (by decide), Option.bind_some, pf i (by omega), Option.bind_some, hob, Option.bind_some, e2, nI_1]
          rfl
        · by_cases hir : r = i
          · subst hir
            rw [if_pos (by omega)]
            exact R2
          · have := (hrw r hr).fr F2 (by show ¬ 30 + r = 30 + i; omega)
            by_cases hlt : r < i
            · rw [if_pos hlt] at this
              rw [if_pos (by omega)]
              exact this
            · rw [if_neg hlt] at this
              rw [if_neg (by omega)]
              exact this)
    n 10 (nI 0) h (by omega) ⟨0, by omega, by omega, rfl, Fr.rf _ _ _, fun r hr => by rw [if_neg (by omega)]; exact hR.1 r hr, hR.2⟩
  have hO1 := hO.fr F1 (by decide)
  have e1 := hO1.obj
  obtain ⟨fsT, hoT⟩ := hT1.1.obj
  obtain ⟨h2, e2, R2, F2⟩ := hT1.clear
  have hO2 := hO1.fr F2 (by decide)
  have e3 := hO2.obj
  obtain ⟨O3, F3⟩ := hO2.up (dBegin A e) (v := k4 (x + 60) (x + 81) 1 e 0 0 1) rfl
  refine ⟨_, ?_, ((F1.mono (fun l q => Or.inr (by omega))).tr (F2.mono (fun l q => Or.inr (by omega)))).tr (F3.mono (fun l q => Or.inl q)), O3, fun r hr => ?_, ?_⟩
  · unfold f_Definition_begin
    rw [show (0 : Int32) = nI 0 from rfl, el]
    simp only [hbW]
    rw [k4_g1 e1, Option.bind_some, Option.bind_some, hoT, Option.bind_some, e2]
    simp only [hbW]
    rw [k4_p2 e3, Option.bind_some, k4_z3 (va_up_self _ _ _) e he, Option.bind_some, k4_p4 (va_up_self _ _ _), Option.bind_some, k4_p5 (va_up_self _ _ _), Option.bind_some, k4_p6 (va_up_self _ _ _), Option.bind_some, va_up_up, va_up_up, va_up_up, va_up_up]
  · show Rf o _ (30 + r) (x + 61 + 2 * r) 200 (cp (10 + r)) (if 400 ≤ 400 + r ∧ 400 + r ≤ 410 then [] else A.2.1 (400 + r))
    rw [if_pos (by omega)]
    exact ((hR1 r hr).fr F2 (by show ¬ 30 + r = 40; omega)).fr F3 (by show ¬ 30 + r = 7; omega)
  · show Rf o _ 40 (x + 81) 200 (cp 20) (if 400 ≤ 410 ∧ 410 ≤ 410 then [] else A.2.1 410)
    rw [if_pos (by omega)]
    exact R2.fr F3 (by show ¬ 40 = 7; omega)
/-- the output or the whole expansion's numbers change -/
theorem cQ.fr {W : Nat → Prop} {x nx nx' : Nat} {o o' : oT} {h h' : hH} {cp cp' : Nat → Nat} {A B : aS} (hQ : cQ x o nx h cp A) (F : Fr W o o' h h') (hO : Own o' nx') (hw : ∀ l, (1 ≤ l ∧ l ≤ 6) ∨ l = 10 ∨ (20 ≤ l ∧ l ≤ 28) ∨ 100 ≤ l → ¬ W l) (hc : ∀ j, 1 ≤ j → j ≤ 9 → cp' j = cp j) (hi : ∀ j, j ≤ 4 ∨ j = 15 ∨ j = 16 → B.1 j = A.1 j) (hl : ∀ j, j = 0 ∨ j = 2 ∨ j = 3 ∨ j = 8 ∨ (100 ≤ j ∧ j < 400) ∨ 1000 ≤ j → B.2.1 j = A.2.1 j) (hF : B.2.2 = A.2.2) : cQ x o' nx' h' cp' B := by
  obtain ⟨ho, hS, hI, hE, hT, hA, hB, ar, hR⟩ := hQ
  refine ⟨hO, (hS.fr F (hw 2 (by omega))).abs (hi 16 (by omega)) (fun j h1 h2 => hl j (by omega)), by rw [hl 0 (by omega)]; exact hI.fr F (hw 3 (by omega)), hE.to B F (hw 10 (by omega)) (hl 8 (by omega)) (fun j h1 h2 => hl j (by omega)) ?_, by rw [hF]; exact hT.fr F (hw 5 (by omega)), hA.fr F (hw 6 (by omega)), (hB.fr F (hw 1 (by omega)) (fun l h1 => hw l (by omega))).abs (hl 2 (by omega)) (hl 3 (by omega)) (fun j h1 => hl j (by omega)) (by rw [hF]) (hi 15 (by omega)), ar, fun a h1 h9 => by rw [hc a h1 h9]; exact (hR a h1 h9).fr F (hw _ (by omega))⟩
  have := hE.eo.fr F (hw 4 (by omega))
  rw [hi 0 (by omega), hi 4 (by omega), hi 3 (by omega), hi 1 (by omega), hi 2 (by omega), hl 8 (by omega)]
  exact this
/-- the marks or what comes later change -/
theorem cP.w {x nx : Nat} {o : oT} {h : hH} {cp : Nat → Nat} {A : aS} (B : aS) {v : Option hC} (hP : cP x o nx h cp A) (hv : v = k11 (x + 28) (x + 1) (x + 30) (x + 59) (x + 83) (B.1 8) (B.1 9)) (hi : ∀ j, j ≠ 8 → j ≠ 9 → B.1 j = A.1 j) (hl : B.2 = A.2) : cP x o nx (va_up h (x + 58) v) cp B ∧ Fr (fun b => b = 8) o o h (va_up h (x + 58) v) := by
  have F : Fr (fun b => b = 8) o o h (va_up h (x + 58) v) := Fr.u1 hP.2.2.2.1.2.1
  refine ⟨⟨hP.1.fr F hP.1.1 (fun l hl => by show ¬ l = 8; omega) (fun _ _ _ => rfl) (fun j hj => hi j (by omega) (by omega)) (fun j _ => by rw [hl]) (by rw [hl]), hP.2.1.fr F (by decide) (hi 6 (by decide) (by decide)) (hi 7 (by decide) (by decide)), hP.2.2.1.fr F (by decide) (fun l h1 h2 => by show ¬ l = 8; omega) (fun j h1 h2 => hi j (by omega) (by omega)) (fun j _ _ => by rw [hl]) (fun _ _ _ => rfl), ⟨by rw [va_up_self, hv], hP.2.2.2.1.2.1, by rw [hl]; exact hP.2.2.2.1.2.2.fr F (by decide)⟩, hP.2.2.2.2⟩, F⟩
/-- the input changes -/
theorem cP.i {x nx : Nat} {o : oT} {h h' : hH} {cp : Nat → Nat} {A : aS} {xs : List Int32} (hP : cP x o nx h cp A) (F : Fr (fun b => b = 3) o o h h') (hI : cI x o h' xs) : cP x o nx h' cp (aPl A 0 xs) := by
  have hl : ∀ j, j ≠ 0 → (aPl A 0 xs).2.1 j = A.2.1 j := fun j hj => va_up_ne _ _ hj
  obtain ⟨ho, hS, -, hE, hT, hA, hB, ar, hR⟩ := hP.1
  refine ⟨⟨ho, (hS.fr F (by decide)).abs rfl (fun j h1 h2 => hl j (by omega)), hI, hE.to _ F (by decide) (hl 8 (by decide)) (fun j h1 h2 => hl j (by omega)) (hE.eo.fr F (by decide)), hT.fr F (by decide), hA.fr F (by decide), (hB.fr F (by decide) (fun l _ => by show ¬ l = 3; omega)).abs (hl 2 (by decide)) (hl 3 (by decide)) (fun j h1 => hl j (by omega)) rfl rfl, ar, hR.fr F (fun a _ _ => by show ¬ 19 + a = 3; omega)⟩, hP.2.1.fr F (by decide) rfl rfl, hP.2.2.1.fr F (by decide) (fun l h1 h2 => by show ¬ l = 3; omega) (fun _ _ _ => rfl) (fun j h1 h2 => hl j (by omega)) (fun _ _ _ => rfl), hP.2.2.2.1.fr F (by decide) (by decide) rfl rfl (hl 1 (by decide)) rfl, hP.2.2.2.2⟩
/-- the definition changes -/
theorem cP.d {x nx nx' : Nat} {o o' : oT} {h h' : hH} {cp cp' : Nat → Nat} {A B : aS} (hP : cP x o nx h cp A) (F : Fr cWd o o' h h') (hO : Own o' nx') (hD : cD x o' h' cp' B) (hc : ∀ j, j < 10 ∨ 20 < j → cp' j = cp j) (hi : ∀ j, j < 10 ∨ 14 < j → B.1 j = A.1 j) (hl : ∀ j, j < 400 ∨ 410 < j → B.2.1 j = A.2.1 j) (hF : B.2.2 = A.2.2) : cP x o' nx' h' cp' B := by
  have w : ∀ l, (l < 7 ∨ l = 8 ∨ l = 9 ∨ l = 10 ∨ (20 ≤ l ∧ l ≤ 28) ∨ l = 41 ∨ 100 ≤ l) → ¬ cWd l := fun l hl => by unfold cWd; omega
  exact ⟨hP.1.fr F hO (fun l hl => w l (by omega)) (fun j h1 h2 => hc j (by omega)) (fun j hj => hi j (by omega)) (fun j hj => hl j (by omega)) hF, hP.2.1.fr F (w 0 (by omega)) (hi 6 (by omega)) (hi 7 (by omega)), hD, hP.2.2.2.1.fr F (w 8 (by omega)) (w 41 (by omega)) (hi 8 (by omega)) (hi 9 (by omega)) (hl 1 (by omega)) (hc 21 (by omega)), fun j hj => (F _ _ (hP.2.2.2.2 j hj)).1⟩
theorem cWd_w {l : Nat} (h : cWd l) : cWw l := by
  unfold cWd at h
  unfold cWw
  omega
theorem cWf_w {l : Nat} (h : cWf l) : cWw l := by
  unfold cWf cWn at h
  unfold cWw
  omega
theorem c_carry {n x nx : Nat} {t : Int32} {o : oT} {h : hH} {cp : Nat → Nat} {A : aS} (hP : cP x o nx h cp A) (hn : 20 < n) : ∃ (dn ds : Nat) (cp' : Nat → Nat) (o' : oT) (h' : hH), f_Whole_carryOut n (x + 58) t nx h = some ((wCarry A t).1, dn, ds, h') ∧ Fr cWw o o' h h' ∧ cAw cp cp' A (wCarry A t).2 dn ds ∧ cP x o' (nx + dn) h' cp' (wCarry A t).2 := by
  have eW := hP.2.2.2.1.1
  have eD := hP.2.2.1.1.obj
  have hI := hP.1.2.2.1
  have aw0 : ∀ B : aS, B.2.1 2 = A.2.1 2 → cAw cp cp A B 0 0 := fun B hB => by
    unfold cAw
    rw [hB]
    omega
  unfold f_Whole_carryOut wCarry
  rw [c_mark, Option.bind_some]
  by_cases hm : mMark t = 0
  · rw [if_pos hm, if_pos hm]
    have hj35 : ∀ e : Int32, (e = 0 ∨ e = 1) → (if t = 265 then (1 : Int32) else 0) = e → ∃ (dn ds : Nat) (cp' : Nat → Nat) (o' : oT) (h' : hH), f_Whole_carryOut_j35 n (x + 58) t nx h = some (0, dn, ds, h') ∧ Fr cWw o o' h h' ∧ cAw cp cp' A (dBegin A e) dn ds ∧ cP x o' (nx + dn) h' cp' (dBegin A e) := by
      intro e he hte
      obtain ⟨h1, e1, F1, D1⟩ := c_dBegin (n := n) (e := e) hP.2.2.1 he hn
      refine ⟨0, 0, cp, o, h1, ?_, F1.mono (fun l q => cWd_w q), aw0 _ rfl, hP.d F1 hP.1.1 D1 (fun _ _ => rfl) (fun j hj => ?_) (fun j hj => ?_) rfl⟩
      · unfold f_Whole_carryOut_j35 f_Whole_carryOut_j51
        rw [k11_g3 eW, Option.bind_some]
        simp only [Option.bind_some]
        rw [k4_o eD]
        simp only [Option.bind_some]
        by_cases h265 : t = 265
        · rw [if_pos h265]
          rw [if_pos h265] at hte
          rw [hte, e1]
          rfl
        · rw [if_neg h265]
          rw [if_neg h265] at hte
          rw [hte, e1]
          rfl
      · show upd (upd (upd (upd (upd A.1 10 1) 11 e) 12 0) 13 0) 14 1 j = A.1 j
        rw [upd_other (by omega), upd_other (by omega), upd_other (by omega), upd_other (by omega), upd_other (by omega)]
      · show (if 400 ≤ j ∧ j ≤ 410 then [] else A.2.1 j) = A.2.1 j
        rw [if_neg (by omega)]
    by_cases h264 : t = 264
    · rw [if_pos h264, if_pos h264]
      exact hj35 0 (Or.inl rfl) (by rw [h264]; rfl)
    · rw [if_neg h264, if_neg h264]
      by_cases h265 : t = 265
      · rw [if_pos h265, if_pos h265]
        exact hj35 1 (Or.inr rfl) (if_pos h265)
      · rw [if_neg h265, if_neg h265, k11_g5 eW, Option.bind_some]
        by_cases h8 : A.1 8 = 0
        · rw [if_pos h8, if_pos h8]
          by_cases h269 : t = 269
          · rw [if_pos h269, if_pos h269, k11_o eW, Option.bind_some]
            unfold f_Whole_takeLater wLate
            rw [k11_g0 eW]
            simp only [Option.bind_some]
            rw [hI.obj]
            simp only [Option.bind_some]
            rw [hI.isEmpty, Option.bind_some]
            cases hx : A.2.1 0 with
            | nil =>
              exact ⟨0, 0, cp, o, h, rfl, Fr.rf _ _ _, aw0 _ rfl, hP⟩
            | cons u us =>
              rw [hx] at hI
              obtain ⟨h1, e1, I1, F1⟩ := hI.take
              have P1 := hP.i F1 I1
              obtain ⟨P2, F2⟩ := P1.w (aPi (aPl A 0 us) 9 u) (v := k11 (x + 28) (x + 1) (x + 30) (x + 59) (x + 83) (A.1 8) u) rfl (fun j _ h2 => (by simp only [aPi, aPl, aPt, rput, va_up, upd] <;> (repeat rw [if_neg (by omega)]))) rfl
              refine ⟨0, 0, cp, o, _, ?_, (F1.mono (fun l q => by unfold cWw; omega)).tr (F2.mono (fun l q => by unfold cWw; omega)), aw0 _ rfl, P2⟩
              rw [if_pos (by simp), e1]
              simp only [hbW]
              rw [k11_p6 P1.2.2.2.1.1, Option.bind_some]
              rfl
          · rw [if_neg h269, if_neg h269, k11_g4 eW]
            simp only [Option.bind_some]
            have hR := hP.2.2.2.1.2.2
            obtain ⟨fs, ho⟩ := hR.1.obj
            rw [ho]
            simp only [Option.bind_some]
            rw [hR.1.full (by decide), Option.bind_some]
            by_cases hl : (A.2.1 1).length < 3000
            · rw [if_pos hl, if_pos rfl, if_pos hl]
              obtain ⟨c', dn, ds, o', h', e1, O1, R1, F1, g1, g2⟩ := hR.add t hP.1.1 hl
              rw [e1]
              have hsum := sumN_up cp (a := 21) (c := c') (by omega) 21 (by omega)
              have hli : ∀ j, j ≠ 1 → (aPl A 1 (A.2.1 1 ++ [t])).2.1 j = A.2.1 j := fun j hj => va_up_ne _ _ hj
              refine ⟨dn, ds, nUp cp 21 c', o', h', by simp [hbind], F1.mono (fun l q => by unfold cWw; omega), ?_, hP.1.fr F1 O1 (fun l hl => by show ¬ l = 41; omega) (fun j h1 h2 => nUp_ne _ _ (by omega)) (fun _ _ => rfl) (fun j hj => hli j (by omega)) rfl, hP.2.1.fr F1 (by decide) rfl rfl, hP.2.2.1.fr F1 (by decide) (fun l h1 h2 => by show ¬ l = 41; omega) (fun _ _ _ => rfl) (fun j h1 h2 => hli j (by omega)) (fun j h1 h2 => nUp_ne _ _ (by omega)), ⟨?_, ?_, ?_⟩, fun j hj => (F1 _ _ (hP.2.2.2.2 j hj)).1⟩
              · unfold cAw
                rw [hli 2 (by decide)]
                omega
              · rw [(F1 _ _ hP.2.2.2.1.2.1).2 (by decide)]
                exact eW
              · exact (F1 _ _ hP.2.2.2.1.2.1).1
              · rw [nUp_self]
                exact R1
            · rw [if_neg hl, if_neg (by decide), if_neg hl]
              exact ⟨0, 0, cp, o, h, rfl, Fr.rf _ _ _, aw0 _ rfl, hP⟩
        · rw [if_neg h8, if_neg h8]
          exact ⟨0, 0, cp, o, h, rfl, Fr.rf _ _ _, aw0 _ rfl, hP⟩
  · rw [if_neg hm, if_neg hm, k11_g5 eW, Option.bind_some]
    obtain ⟨P2, F2⟩ := hP.w (aPi A 8 (A.1 8 ||| mMark t)) (v := k11 (x + 28) (x + 1) (x + 30) (x + 59) (x + 83) (A.1 8 ||| mMark t) (A.1 9)) rfl (fun j h1 _ => (by simp only [aPi, aPl, aPt, rput, va_up, upd] <;> (repeat rw [if_neg (by omega)]))) rfl
    refine ⟨0, 0, cp, o, _, ?_, F2.mono (fun l q => by unfold cWw; omega), aw0 _ rfl, P2⟩
    rw [k11_p5 eW, Option.bind_some]
