/-! A WHOLE DEFINITION: the reference -/
theorem dEnter_10 (D : aS) : (dEnter D).1 10 = 0 := by
  unfold dEnter dLater
  split <;> rfl
theorem g_zeroRows {n : Nat} {x1 x2 : Int32} {st : rS} (hn : 20 < n) : ∃ st' : rS, gloopW (g_defines_b63 n x1 x2) n 0 st = some ((), st') ∧ st'.1 = st.1 ∧ (∀ j, j ≠ 20 → st'.2 j = st.2 j) ∧ ∀ r, r < 10 → st'.2 20 r = 0 := by
  obtain ⟨b, s, e, g1, g2, g3⟩ := gloopW_rule (body := g_defines_b63 n x1 x2) (fun e x s => ∃ i, e = 10 - i ∧ i ≤ 10 ∧ x = nI i ∧ s.1 = st.1 ∧ (∀ j, j ≠ 20 → s.2 j = st.2 j) ∧ ∀ r, r < i → s.2 20 r = 0) (fun _ s => s.1 = st.1 ∧ (∀ j, j ≠ 20 → s.2 j = st.2 j) ∧ ∀ r, r < 10 → s.2 20 r = 0)
    (by
      rintro e x s ⟨i, rfl, hi, rfl, g1, g2, g3⟩
      by_cases he : i = 10
      · refine Or.inr ⟨(), s, ?_, g1, g2, by rw [he] at g3; exact g3⟩
        unfold g_defines_b63
        dsimp only
        rw [if_pos (show (10 : Int32) ≤ nI i from nI_le (a := 10) (by omega) (by omega))]
      · refine Or.inl ⟨nI (i + 1), 10 - (i + 1), (s.1, fun q => if q = 20 then upd (s.2 20) i 0 else s.2 q), ?_, by omega, i + 1, rfl, by omega, rfl, g1, fun j hj => ?_, fun r hr => ?_⟩
        · unfold g_defines_b63
          dsimp only
          rw [if_neg (show ¬ (10 : Int32) ≤ nI i from nI_ge (b := 10) (by omega) (by decide)), rset_at (by omega) (by decide), Option.bind_some, nI_1]
        · show (if j = 20 then _ else s.2 j) = _
          rw [if_neg hj]
          exact g2 j hj
        · show upd (s.2 20) i 0 r = 0
          by_cases hri : r = i
          · rw [hri, upd_same]
          · rw [upd_other hri]
            exact g3 r (by omega))
    n 10 (nI 0) st (by omega) ⟨0, by omega, by omega, rfl, rfl, fun _ _ => rfl, fun r hr => by omega⟩
  exact ⟨s, e, g1, g2, g3⟩
/-- after a fault nothing more is done -/
theorem g_body_bad {n : Nat} {x1 x2 x3 x4 y : Int32} {s : rS} (hs : s.1 21 ≠ 0) (hn : 0 < n) : gloopW (g_defines_b278 n x1 x2 x3) n (x4, y) s = some (x4, s) := by
  obtain ⟨m, hm⟩ : ∃ m, n = m + 1 := ⟨n - 1, by omega⟩
  have h2 : g_defines_b278 n x1 x2 x3 (x4, y) s = some (.inr x4, s) := by
    unfold g_defines_b278
    dsimp only
    split
    · rfl
    · first
      | rfl
      | rw [if_neg hs]
  rw [show gloopW (g_defines_b278 n x1 x2 x3) n (x4, y) s = gloopW (g_defines_b278 n x1 x2 x3) (m + 1) (x4, y) s by rw [← hm]]
  simp [gloopW, gbW, h2]
theorem g_defines_at {n K : Nat} {e t : Int32} {ts : List Int32} {st : rS} {C : aS} {res : Int32 × aS} (hn : 300000 < n) (hK : K + 10 ≤ n) (he : e = 0 ∨ e = 1) (hX : RX st C) (hV : RV st (t :: ts)) (h24 : st.1 24 = 0) (h21 : st.1 21 = 0) (hC0 : C.2.1 0 = ts) (hC3 : C.1 3 = 0) (hw : wInv (dBegin C e)) (hL : wLoop 230000 K (0, dBegin C e) = some res) : ∃ st', g_defines n e st = some ((), st') ∧ dOut K res st' := by
  have hX0 : RX st (dBegin C e) := hX.to _ (rK.rf _) hX.2.1 hX.2.2.1 hX.2.2.2.1 (fun j hj => by
      show upd (upd (upd (upd (upd C.1 10 1) 11 e) 12 0) 13 0) 14 1 j = C.1 j
      rw [upd_other (by omega), upd_other (by omega), upd_other (by omega), upd_other (by omega), upd_other (by omega)]) (fun j hj => by
      show (if 400 ≤ j ∧ j ≤ 410 then [] else C.2.1 j) = C.2.1 j
      rw [if_neg (by omega)]) rfl
  obtain ⟨s1, t1, V1, X1, f1, q1⟩ := RW.take (n := n) hV hX0 (by omega)
  have h211 : s1.1 21 = 0 := (f1 21 (by decide) (by decide)).trans h21
  have hD2 : (dBegin C e).1 2 = 0 := (hw.2.2.2.2.2.2.2.2.2.1 rfl).1
  have hV1le := V1.le
  unfold g_defines
  rw [t1]
  simp only [gbW]
  have hTk : wTakes (dBegin C e) = true := rfl
  cases hts : ts with
  | nil =>
    rw [hts] at V1
    rw [V1.size, if_pos (show nI ([] : List Int32).length = 0 from rfl), show g_mark 1 s1 = some ((), rMarked 1 s1) from g_mark_at]
    have hr1 : res = (1, dBegin C e) := by
      rw [wLoop_end hL (by show C.2.1 0 = []; rw [hC0, hts])]
      unfold wEnd
      rw [if_neg (fun q => absurd (show (1 : Int32) = 0 from q.2) (by decide))]
    subst hr1
    exact ⟨rMarked 1 s1, rfl, Or.inr ⟨rMarked_0 h211, ne_0 (by decide), X1.mark 1⟩⟩
  | cons u us =>
    rw [hts] at V1
    rw [hts, List.length_cons] at hV1le
    have hget : g_get 0 s1 = some u := V1.get (k := 0) rfl
    have hx0 : (dBegin C e).2.1 0 = u :: us := by
      show C.2.1 0 = u :: us
      rw [hC0, hts]
    obtain ⟨K', rfl, hL'⟩ := wLoop_take hL hx0 (by rw [hTk]; rfl)
    obtain ⟨tk1, tk2, tk3, tk4⟩ := hw.take hx0
    have hwt : wTake (dBegin C e) = dGo (aPi (aPl (dBegin C e) 0 us) 3 0) u := by
      unfold wTake
      rw [hx0]
      dsimp only
      rw [if_neg (show ¬ (dBegin C e).1 10 = 0 from (by decide : ¬ (1 : Int32) = 0))]
    rw [hwt] at hL'
    have hinv : (dGo (aPi (aPl (dBegin C e) 0 us) 3 0) u).1 = 0 → wInv (dGo (aPi (aPl (dBegin C e) 0 us) 3 0) u).2 := fun hz => (dGo_inv tk1 (show ¬ (1 : Int32) = 0 by decide) tk2 tk4 hz).1
    have hdg : dGo (aPi (aPl (dBegin C e) 0 us) 3 0) u = dGoB ((dName (aPi (aPl (dBegin C e) 0 us) 3 0) u).1, aPi (dName (aPi (aPl (dBegin C e) 0 us) 3 0) u).2 2 ((dName (aPi (aPl (dBegin C e) 0 us) 3 0) u).2.1 12)) := by
      unfold dGo dAcc
      rw [if_pos (show (aPi (aPl (dBegin C e) 0 us) 3 0).1 10 = 1 from rfl)]
    rw [hdg] at hL' hinv
    unfold dName at hL' hinv
    have hXC : RX s1 (aPi (aPl (dBegin C e) 0 us) 3 0) := (X1.pl 0 us (by omega)).pi 3 0 (by decide)
    rw [V1.size, List.length_cons, if_neg (nI_ne0 (by omega) (by omega)), hget, Option.bind_some, g_isName_at, Option.bind_some, b01_if]
    cases htn : tName u with
    | false =>
      rw [htn, if_neg (by decide)] at hL'
      rw [if_neg (by decide), show g_mark 6 s1 = some ((), rMarked 6 s1) from g_mark_at]
      have hr : res = (6, aPi (aPi (aPl (dBegin C e) 0 us) 3 0) 2 0) := by
        have : dGoB (((6 : Int32), aPi (aPl (dBegin C e) 0 us) 3 0).1, aPi ((6 : Int32), aPi (aPl (dBegin C e) 0 us) 3 0).2 2 (((6 : Int32), aPi (aPl (dBegin C e) 0 us) 3 0).2.1 12)) = (6, aPi (aPi (aPl (dBegin C e) 0 us) 3 0) 2 0) := dGoB_bad (c := 6) (by decide)
        rw [this] at hL'
        exact wLoop_c hL' (by decide)
      subst hr
      refine ⟨rMarked 6 s1, rfl, Or.inr ⟨rMarked_0 h211, ne_0 (by decide), RX.mark 6 (hXC.to _ (rK.rf _) (by rw [hXC.2.1]; rfl) ?_ hXC.2.2.2.1 (fun j hj => by simp only [aPi, upd]; rw [if_neg (by omega)]) (fun _ _ => rfl) rfl)⟩⟩
      rw [hXC.2.2.1]
      exact hD2
    | true =>
      rw [htn, if_pos rfl] at hL' hinv
      rw [if_pos rfl, Option.bind_some]
      -- the state when the name is read
      have hGB : dGoB (((0 : Int32), aPi (aPi (aPi (aPl (dBegin C e) 0 us) 3 0) 12 u) 10 2).1, aPi ((0 : Int32), aPi (aPi (aPi (aPl (dBegin C e) 0 us) 3 0) 12 u) 10 2).2 2 (((0 : Int32), aPi (aPi (aPi (aPl (dBegin C e) 0 us) 3 0) 12 u) 10 2).2.1 12)) = (0, aPi (aPi (aPi (aPi (aPl (dBegin C e) 0 us) 3 0) 12 u) 10 2) 2 u) := dGoB_ok (show ¬ (2 : Int32) = 4 by decide)
      rw [hGB] at hL' hinv
      have hwE := hinv rfl
      clear hinv
      have hV2 : RV (rput s1 22 u) (u :: us) := V1.same rfl rfl rfl
      have hX2 : RX (rput s1 22 u) (aPi (aPi (aPi (aPi (aPl (dBegin C e) 0 us) 3 0) 12 u) 10 2) 2 u) := hXC.to _ (rK_put s1 22 u (by decide)) (by show s1.1 23 = _; rw [hXC.2.1]; rfl) rfl (hXC.2.2.2.1.same rfl rfl) (fun j hj => by simp only [aPi, upd]; rw [if_neg (by omega), if_neg (by omega), if_neg (by omega)]) (fun _ _ => rfl) rfl
      generalize hEE : aPi (aPi (aPi (aPi (aPl (dBegin C e) 0 us) 3 0) 12 u) 10 2) 2 u = E at hL' hwE hX2
      have E10 : E.1 10 = 2 := by rw [← hEE]; rfl
      have E12 : E.1 12 = u := by rw [← hEE]; rfl
      have E13 : E.1 13 = nI 0 := by rw [← hEE]; rfl
      have E14 : E.1 14 = nI 1 := by rw [← hEE]; rfl
      have E11 : E.1 11 = e := by rw [← hEE]; rfl
      have E3 : E.1 3 = 0 := by rw [← hEE]; rfl
      have E0 : E.2.1 0 = us := by rw [← hEE]; rfl
      have Er : ∀ j, 400 ≤ j → j ≤ 410 → E.2.1 j = [] := fun j h1 h2 => by
        rw [← hEE]
        show va_up (dBegin C e).2.1 0 us j = []
        rw [va_up_ne _ _ (by omega)]
        show (if 400 ≤ j ∧ j ≤ 410 then [] else C.2.1 j) = []
        rw [if_pos ⟨h1, h2⟩]
      obtain ⟨s3, t3, V3, X3, f3, q3⟩ := RW.take (n := n) hV2 hX2 (by omega)
      rw [show (rput s1 22 u).1 22 = u from rfl, t3]
      simp only [gbW]
      obtain ⟨s4, e4, f4, q4, z4⟩ := g_zeroRows (n := n) (x1 := e) (x2 := u - 1000) (st := s3) (by omega)
      rw [e4]
      simp only []
      have X4 : RX s4 E := X3.k ⟨fun j _ => by rw [f4], fun j _ h2 => q4 j (by omega)⟩ (by rw [f4]) (by rw [f4]) (by rw [f4]) (q4 14 (by decide))
      have V4 : RV s4 (E.2.1 0) := by
        rw [E0]
        exact V3.same (by rw [f4]) (by rw [f4]) (q4 0 (by decide))
      have h214 : s4.1 21 = 0 := by
        rw [f4, f3 21 (by decide) (by decide)]
        exact h211
      have D4 : RDf s4 E := fun r hr => by
        rw [Er (400 + r) (by omega) (by omega), z4 r hr]
        exact ⟨rfl, by decide, fun i t hi => by simp at hi⟩
      obtain ⟨x5, s5, e5, o5, i5⟩ := g_rows_loop (n := n) (x1 := e) (x2 := u - 1000) (by omega) (C0 := E) K' n 0 s4 E X4 V4 h214 E3 D4 hwE E10 E13 (by omega) rfl rfl rfl rfl (by omega) hL'
      rw [show (gloopW (g_defines_b90 n e (u - 1000) 0) n ((0 : Int32), (1 : Int32)) s4) = some (x5, s5) from e5]
      simp only []
      rw [rputZ_at (Or.inl rfl), Option.bind_some]
      have hbadend : ∀ (x : Int32) (s : rS), s.1 21 = res.1 → res.1 ≠ 0 → g_defines_j488 n (u - 1000) x5 x s = some ((), s) := by
        intro x s hs hne
        unfold g_defines_j488
        dsimp only
        rw [if_neg (by rw [hs]; exact hne)]
      rcases o5 with ⟨h215, C', k', K2, hK2, rfl, hk', X5, V5, C3, D5, wC, C10, C13, C11, C12, C410, C14, hL2⟩ | ⟨h215, hne5, X5⟩
      · -- the body
        have hl0 : C'.2.1 410 = [] := C410.trans (Er 410 (by omega) (by omega))
        obtain ⟨x6, s6, e6, o6⟩ := g_body_loop (n := n) (x2 := u - 1000) (nm := u) hn hk' K2 n 1 e (rput s5 24 0) C' (X5.k (rK_put s5 24 0 (by decide)) rfl rfl rfl rfl) (V5.same rfl rfl rfl) (by show (0 : Int32) = C'.1 3; exact C3.symm) h215 (D5.k (fun _ _ => rfl) (fun _ _ _ => rfl)) ⟨by rw [hl0]; decide, fun i t hi => by rw [hl0] at hi; simp at hi⟩ wC C10 C13 (C14.trans E14) (by omega) (by omega) (C11.trans E11) (C12.trans E12) (by omega) hL2
        rw [hl0] at e6
        rw [show (gloopW (g_defines_b278 n e (u - 1000) (nI k')) n ((0 : Int32), (1 : Int32)) (rput s5 24 0)) = some (x6, s6) from e6]
        simp only []
        rcases o6 with ⟨h216, D, K3, hK3, rfl, X6, V6, h246, Df6, Dt6, D13, D12, D3, D100, D9, Droom, Dw, hL3⟩ | ⟨h216, hne6, X6⟩
        · rw [if_pos h216]
          have h66 : s6.1 6 = nI (D.2.1 2).length := X6.2.2.2.2.1.1
          rw [h66]
          unfold bFin at Dw hL3
          by_cases hfull : (D.2.1 2).length = 100
          · rw [if_pos hfull] at hL3
            rw [if_pos (show nI (D.2.1 2).length = (100 : Int32) by rw [hfull]; rfl), show g_mark 8 s6 = some ((), rMarked 8 s6) from g_mark_at]
            have hr := wLoop_c hL3 (by decide)
            subst hr
            refine ⟨rMarked 8 s6, ?_, Or.inr ⟨rMarked_0 h216, ne_0 (by decide), X6.mark 8⟩⟩
            unfold g_defines_j488
            dsimp only
            rw [if_neg (by rw [rMarked_0 h216]; decide)]
          · rw [if_neg hfull] at hL3 Dw
            rw [if_neg (show ¬ nI (D.2.1 2).length = (100 : Int32) from fun q => hfull ((nI_eq (b := 100) (by omega) (by decide)).mp q))]
            obtain ⟨s7, e7, W7⟩ := g_def_end (n := n) X6 V6 h246 h216 Df6 Dt6 D13 hk' (by rw [D12]; exact htn) D3 (by omega) D9 Droom (by omega)
            rw [D12] at e7
            exact ⟨s7, e7, Or.inl ⟨W7.2.2.2, dEnter D, K3, by omega, W7, Dw rfl, dEnter_10 D, hL3⟩⟩
        · refine ⟨s6, ?_, Or.inr ⟨h216, hne6, X6⟩⟩
          rw [if_neg (by rw [h216]; exact hne6)]
          exact hbadend x6 s6 h216 hne6
      · have h215' : (rput s5 24 0).1 21 = res.1 := h215
        rw [g_body_bad (n := n) (by rw [h215']; exact hne5) (by omega)]
        simp only []
        refine ⟨rput s5 24 0, ?_, Or.inr ⟨h215', hne5, X5.k (rK_put s5 24 0 (by decide)) rfl rfl rfl rfl⟩⟩
        rw [if_neg (by rw [h215']; exact hne5)]
        exact hbadend 0 (rput s5 24 0) h215' hne5
