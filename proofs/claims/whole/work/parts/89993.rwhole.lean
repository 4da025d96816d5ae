/-! THE WHOLE EXPANSION: the reference -/
theorem mark_eq {t : Int32} : (decide (266 ≤ t ∧ t ≤ 268) = true → mMark t ≠ 0 ∧ (1 : Int32) <<< ((t - 266) &&& 31) = mMark t) ∧ (decide (266 ≤ t ∧ t ≤ 268) = false → mMark t = 0) := by
  constructor
  · intro h
    have h := of_decide_eq_true h
    obtain ⟨h1, h2⟩ := h
    obtain ⟨k, hk, rfl⟩ := nI_of (x := t) (Int32.not_lt.mpr (Int32.le_trans (by decide) h1))
    have h3 : 266 ≤ k := (nI_leI (a := 266) (by decide) hk).mp h1
    have h4 : k ≤ 268 := (nI_leI (b := 268) hk (by decide)).mp h2
    have h5 : k = 266 ∨ k = 267 ∨ k = 268 := by omega
    rcases h5 with rfl | rfl | rfl <;> exact ⟨by decide, by decide⟩
  · intro h
    have h := of_decide_eq_false h
    unfold mMark
    rw [if_neg (fun q => h (by rw [q]; decide)), if_neg (fun q => h (by rw [q]; decide)), if_neg (fun q => h (by rw [q]; decide))]
theorem g_carryOut_at {n K : Nat} {t : Int32} {ts : List Int32} {st : rS} {C : aS} {res : Int32 × aS} (hn : 300000 < n) (hK : K + 10 ≤ n) (hX : RX st C) (hV : RV st (t :: ts)) (h24 : st.1 24 = 0) (h21 : st.1 21 = 0) (hC0 : C.2.1 0 = ts) (hC3 : C.1 3 = 0) (h10 : C.1 10 = 0) (hw : wInv C) (hL : wLoop 230000 K (wCarry C t) = some res) : ∃ st', g_carryOut n st = some ((), st') ∧ dOut K res st' := by
  have hVle := hV.le
  rw [List.length_cons] at hVle
  have hget : g_get 0 st = some t := hV.get (k := 0) rfl
  have hinv : (wCarry C t).1 = 0 → wInv (wCarry C t).2 := fun hz => (wCarry_inv hw h10 hz).1
  unfold g_carryOut
  rw [hget, Option.bind_some, g_in_at, Option.bind_some, b01_if]
  unfold wCarry at hL hinv
  cases hmk : decide (266 ≤ t ∧ t ≤ 268) with
  | true =>
    obtain ⟨m1, m2⟩ := mark_eq.1 hmk
    rw [if_neg m1] at hL hinv
    rw [if_pos rfl, m2]
    dsimp only
    have hX1 : RX (rput st 32 (st.1 32 ||| mMark t)) (aPi C 8 (C.1 8 ||| mMark t)) := by
      obtain ⟨x0, x1, x2, x3, x4, x5, x6, x7, x8⟩ := hX
      refine ⟨x0, x1, x2, x3.same rfl rfl, (x4.k rfl rfl (fun _ _ _ => rfl)).abs rfl rfl (fun _ _ => rfl) rfl rfl, (x5.k rfl rfl rfl).abs rfl (fun _ _ _ => rfl), x6.same rfl rfl, ?_, x8⟩
      show st.1 32 ||| mMark t = C.1 8 ||| mMark t
      rw [x7]
    obtain ⟨s1, t1, V1, X1, f1, q1⟩ := RW.take (n := n) (hV.same (st' := rput st 32 (st.1 32 ||| mMark t)) rfl rfl rfl) hX1 (by omega)
    rw [t1]
    exact ⟨s1, rfl, Or.inl ⟨(f1 21 (by decide) (by decide)).trans h21, _, K, Nat.le_refl _, ⟨X1, by show RV s1 (C.2.1 0); rw [hC0]; exact V1, by rw [f1 24 (by decide) (by decide)]; show st.1 24 = C.1 3; rw [h24, hC3], (f1 21 (by decide) (by decide)).trans h21⟩, hinv rfl, h10, hL⟩⟩
  | false =>
    have m1 := mark_eq.2 hmk
    rw [if_pos m1] at hL hinv
    rw [if_neg (by decide)]
    have hdef : ∀ e : Int32, (e = 0 ∨ e = 1) → wLoop 230000 K (0, dBegin C e) = some res → wInv (dBegin C e) → ∃ st', g_carryOut_j71 n e st = some ((), st') ∧ dOut K res st' := by
      intro e he hLe hwe
      obtain ⟨s1, e1, o1⟩ := g_defines_at (n := n) (K := K) (e := e) hn hK he hX hV h24 h21 hC0 hC3 hwe hLe
      refine ⟨s1, ?_, o1⟩
      unfold g_carryOut_j71
      rw [e1]
      rfl
    unfold g_carryOut_j58
    by_cases h264 : t = 264
    · rw [if_pos h264] at hL hinv ⊢
      rw [if_neg (by rw [h264]; decide)]
      exact hdef 0 (Or.inl rfl) hL (hinv rfl)
    · rw [if_neg h264] at hL hinv ⊢
      by_cases h265 : t = 265
      · rw [if_pos h265] at hL hinv ⊢
        rw [if_pos h265]
        exact hdef 1 (Or.inr rfl) hL (hinv rfl)
      · rw [if_neg h265] at hL hinv ⊢
        dsimp only
        rw [hX.2.2.2.2.2.2.2.1]
        by_cases h8 : C.1 8 = 0
        · rw [if_pos h8] at hL hinv ⊢
          by_cases h269 : t = 269
          · rw [if_pos h269] at hL hinv ⊢
            unfold wLate at hL hinv
            rw [hC0] at hL hinv
            rw [hV.size]
            cases ts with
            | nil =>
              rw [if_neg (show ¬ (2 : Int32) ≤ nI [t].length from (by decide : ¬ (2 : Int32) ≤ nI 1)), show g_mark 1 st = some ((), rMarked 1 st) from g_mark_at]
              have hr := wLoop_c hL (by decide)
              subst hr
              exact ⟨rMarked 1 st, rfl, Or.inr ⟨rMarked_0 h21, ne_0 (by decide), hX.mark 1⟩⟩
            | cons u us =>
              dsimp only at hL hinv
              rw [List.length_cons] at hVle
              rw [if_pos (show (2 : Int32) ≤ nI (t :: u :: us).length from nI_le (a := 2) (by simp) (by simp only [List.length_cons]; omega)), show g_get 1 st = some u from hV.get (k := 1) rfl, Option.bind_some]
              have hX1 : RX (rput st 33 u) (aPi (aPl C 0 us) 9 u) := by
                obtain ⟨x0, x1, x2, x3, x4, x5, x6, x7, x8⟩ := hX
                exact ⟨x0, x1, x2, x3.same rfl rfl, (x4.k rfl rfl (fun _ _ _ => rfl)).abs rfl rfl (fun j hj => by
                  show va_up C.2.1 0 us j = C.2.1 j
                  rw [va_up_ne _ _ (by omega)]) rfl rfl, (x5.k rfl rfl rfl).abs rfl (fun j h1 h2 => by
                  show va_up C.2.1 0 us j = C.2.1 j
                  rw [va_up_ne _ _ (by omega)]), x6.same rfl rfl, x7, rfl⟩
              obtain ⟨s1, t1, V1, f1, q1⟩ := RV.take (n := n) (st := rput st 33 u) (as := []) (bs := [t, u]) (cs := us) (hV.same rfl rfl rfl) (by omega)
              rw [show g_take n 0 2 (rput st 33 u) = some ((), s1) from t1]
              have X1 : RX s1 (aPi (aPl C 0 us) 9 u) := hX1.k (rK_ring f1 q1) (f1 23 (by decide) (by decide)) (f1 22 (by decide) (by decide)) (f1 25 (by decide) (by decide)) (q1 14 (by decide))
              exact ⟨s1, rfl, Or.inl ⟨(f1 21 (by decide) (by decide)).trans h21, _, K, Nat.le_refl _, ⟨X1, V1, by rw [f1 24 (by decide) (by decide)]; show st.1 24 = C.1 3; rw [h24, hC3], (f1 21 (by decide) (by decide)).trans h21⟩, hinv rfl, h10, hL⟩⟩
          · rw [if_neg h269] at hL hinv ⊢
            have hO := hX.2.2.2.2.2.2.1
            have hol := hO.2.1
            rw [hO.1]
            by_cases hl : (C.2.1 1).length < 3000
            · rw [if_pos hl] at hL hinv
              rw [if_neg (show ¬ nI (C.2.1 1).length = (3000 : Int32) from fun q => by
                have := (nI_eq (b := 3000) (by omega) (by decide)).mp q
                omega), rset_at (by omega) (by decide), Option.bind_some]
              dsimp only
              rw [hO.1, nI_1]
              generalize hs0 : rput (st.1, fun q => if q = 1 then upd (st.2 1) (C.2.1 1).length t else st.2 q) 4 (nI ((C.2.1 1).length + 1)) = s0
              have i0 : ∀ j, j ≠ 4 → s0.1 j = st.1 j := fun j hj => by
                rw [← hs0]
                show upd st.1 4 _ j = _
                rw [upd_other hj]
              have a0 : ∀ j, j ≠ 1 → s0.2 j = st.2 j := fun j hj => by
                rw [← hs0]
                show (if j = 1 then _ else st.2 j) = _
                rw [if_neg hj]
              have hX1 : RX s0 (aPl C 1 (C.2.1 1 ++ [t])) := by
                obtain ⟨x0, x1, x2, x3, x4, x5, x6, x7, x8⟩ := hX
                refine ⟨(i0 0 (by decide)).trans x0, (i0 23 (by decide)).trans x1, (i0 22 (by decide)).trans x2, x3.same (i0 25 (by decide)) (a0 14 (by decide)), (x4.k (i0 6 (by decide)) (i0 14 (by decide)) (fun j h1 h2 => a0 j (by omega))).abs rfl rfl (fun j hj => by
                  show va_up C.2.1 1 _ j = C.2.1 j
                  rw [va_up_ne _ _ (by omega)]) rfl rfl, (x5.k (i0 16 (by decide)) (a0 10 (by decide)) (a0 11 (by decide))).abs rfl (fun j h1 h2 => by
                  show va_up C.2.1 1 _ j = C.2.1 j
                  rw [va_up_ne _ _ (by omega)]), ?_, (i0 32 (by decide)).trans x7, (i0 33 (by decide)).trans x8⟩
                show RO s0 (C.2.1 1 ++ [t])
                refine ⟨?_, ?_, fun i u hi => ?_⟩
                · rw [← hs0, List.length_append]
                  rfl
                · rw [List.length_append]
                  exact hl
                · rw [← hs0]
                  show upd (st.2 1) (C.2.1 1).length t i = u
                  by_cases hil : i < (C.2.1 1).length
                  · rw [List.getElem?_append_left hil] at hi
                    rw [upd_other (by omega)]
                    exact hO.2.2 i u hi
                  · rw [List.getElem?_append_right (by omega)] at hi
                    have hi0 : i = (C.2.1 1).length := by
                      have := (List.getElem?_eq_some_iff.mp hi).1
                      simp at this
                      omega
                    rw [hi0, upd_same]
                    exact (List.mem_singleton.mp (List.mem_of_getElem? hi)).symm
              obtain ⟨s1, t1, V1, X1, f1, q1⟩ := RW.take (n := n) (hV.same (i0 2 (by decide)) (i0 3 (by decide)) (a0 0 (by decide))) hX1 (by omega)
              rw [t1]
              exact ⟨s1, rfl, Or.inl ⟨(f1 21 (by decide) (by decide)).trans ((i0 21 (by decide)).trans h21), _, K, Nat.le_refl _, ⟨X1, by show RV s1 (C.2.1 0); rw [hC0]; exact V1, by rw [f1 24 (by decide) (by decide), i0 24 (by decide)]; show st.1 24 = C.1 3; rw [h24, hC3], (f1 21 (by decide) (by decide)).trans ((i0 21 (by decide)).trans h21)⟩, hinv rfl, h10, hL⟩⟩
            · rw [if_neg hl] at hL
              rw [if_pos (show nI (C.2.1 1).length = (3000 : Int32) by rw [show (C.2.1 1).length = 3000 by omega]; rfl), show g_mark 8 st = some ((), rMarked 8 st) from g_mark_at]
              have hr := wLoop_c hL (by decide)
              subst hr
              exact ⟨rMarked 8 st, rfl, Or.inr ⟨rMarked_0 h21, ne_0 (by decide), hX.mark 8⟩⟩
        · rw [if_neg h8] at hL ⊢
          rw [show g_mark 6 st = some ((), rMarked 6 st) from g_mark_at]
          have hr := wLoop_c hL (by decide)
          subst hr
          exact ⟨rMarked 6 st, rfl, Or.inr ⟨rMarked_0 h21, ne_0 (by decide), hX.mark 6⟩⟩
theorem g_wloop {n : Nat} (hn : 300000 < n) {res : Int32 × aS} : ∀ (K n' : Nat) (st : rS) (A : aS), RW st A → wInv A → A.1 10 = 0 → K + 2 ≤ n' → K + 10 ≤ n → wLoop 230000 K (0, A) = some res → ∃ st', gloopW (g_expand_b42 n) n' () st = some ((), st') ∧ ((st'.1 21 = 0 ∧ ∃ B, res = wEnd B ∧ RX st' B ∧ RV st' [] ∧ B.2.1 0 = [] ∧ B.1 10 = 0 ∧ wInv B) ∨ (st'.1 21 = res.1 ∧ res.1 ≠ 0 ∧ RX st' res.2)) := by
  intro K
  induction K using Nat.strongRecOn with
  | ind K ih =>
  intro n' st A hW hw h10 hn' hKn hL
  obtain ⟨hX, hV, h24, h21⟩ := hW
  obtain ⟨m, rfl⟩ : ∃ m, n' = m + 1 := ⟨n' - 1, by omega⟩
  obtain ⟨m2, rfl⟩ : ∃ m2, m = m2 + 1 := ⟨m - 1, by omega⟩
  have hbad : ∀ (s : rS), s.1 21 ≠ 0 → g_expand_b42 n () st = some (.inl (), s) → gloopW (g_expand_b42 n) (m2 + 1 + 1) () st = some ((), s) := by
    intro s hs hb
    have h2 : g_expand_b42 n () s = some (.inr (), s) := by
      unfold g_expand_b42
      dsimp only
      split
      · rfl
      · first
        | rfl
        | rw [if_neg hs]
    simp [gloopW, gbW, hb, h2]
  cases hx : A.2.1 0 with
  | nil =>
    rw [hx] at hV
    have hr := wLoop_end hL hx
    refine ⟨st, ?_, Or.inl ⟨h21, A, hr, hX, hV, hx, h10, hw⟩⟩
    have hb : g_expand_b42 n () st = some (.inr (), st) := by
      unfold g_expand_b42
      dsimp only
      rw [hV.size, if_pos (show nI ([] : List Int32).length ≤ 0 by decide)]
    simp [gloopW, gbW, hb]
  | cons t ts =>
    rw [hx] at hV
    have hVle := hV.le
    rw [List.length_cons] at hVle
    have hV7 : RV (rput st 24 0) (t :: ts) := hV.same rfl rfl rfl
    have hX7 : RX (rput st 24 0) A := hX.k (rK_put st 24 0 (by decide)) rfl rfl rfl rfl
    have hget : g_get 0 (rput st 24 0) = some t := hV7.get (k := 0) rfl
    have hcb : g_canBeExpanded 0 (rput st 24 0) = some (b01 (aHas A t)) := RQ.can (k := 0) hX7.2.2.2.2.1 hget
    have hhead : g_expand_b42 n () st = if A.1 3 = 0 then (if aHas A t = true then gbW (g_expandAt n 0 (rput st 24 0)) fun _ h80 => g_expand_j90 n h80 else g_expand_j86 n (rput st 24 0)) else g_expand_j86 n (rput st 24 0) := by
      unfold g_expand_b42
      dsimp only
      rw [hV.size, List.length_cons, if_neg (nI_nle (by omega) (by omega)), if_pos h21, rputZ_at (Or.inl rfl), Option.bind_some, h24, hcb, Option.bind_some, b01_if]
    have hTk : wTakes A = false := by
      unfold wTakes
      rw [h10]
      rfl
    have hcan : aCan A = (decide (A.1 3 = 0) && aHas A t) := by
      unfold aCan
      rw [hx]
    by_cases hexp : aCan A = true
    · have hcc := hexp
      rw [hcan, Bool.and_eq_true, decide_eq_true_eq] at hcc
      rw [if_pos hcc.1, if_pos hcc.2] at hhead
      cases K with
      | zero => simp [wLoop] at hL
      | succ K' =>
        simp only [wLoop] at hL
        rw [if_pos trivial, if_neg (by rw [hx]; simp)] at hL
        obtain ⟨r, hr⟩ := wTurn_ends hw
        rw [hr, Option.bind_some] at hL
        have hrO : eOnce 230000 A = some r := by
          unfold wTurn at hr
          rw [hTk, hexp] at hr
          exact hr
        obtain ⟨s1, e1, ho1, -⟩ := g_expandAt_at (n := n) (N := 230000) (st := rput st 24 0) (by omega) (by omega) hX7 (by rw [hx]; exact hV7) (by show (0 : Int32) = A.1 3; exact hcc.1.symm) h21 hw.1 hexp hw.2.2.2.1 hw.2.2.1 hrO
        rw [e1] at hhead
        have hb : g_expand_b42 n () st = some (.inl (), s1) := hhead
        rcases ho1 with ⟨hz, hQ1, -, -, hf8⟩ | ⟨h211, hne, hX1⟩
        · obtain ⟨w1, -, -⟩ := wOnce_inv hw hrO hz
          obtain ⟨hkp, -⟩ := eOnce_inv hw.1 hw.2.2.2.1 hrO
          have hr0 : r = (0, r.2) := by rw [← hz]
          rw [hr0] at hL
          have hV1 : RV s1 (r.2.2.1 0) := by
            have := hQ1.2.1.2.2.1
            rw [hf8] at this
            exact this
          obtain ⟨st', eg, ho⟩ := ih K' (by omega) (m2 + 1) s1 r.2 ⟨hQ1.1, hV1, hQ1.2.2.1, hQ1.2.2.2⟩ w1 ((hkp.1 10 (by omega)).trans h10) (by omega) (by omega) hL
          exact ⟨st', by simp only [gloopW, gbW, hb]; exact eg, ho⟩
        · have hres : res = r := by
            have : (r.1, r.2) = r := rfl
            rw [← this] at hL
            exact wLoop_c hL hne
          subst hres
          exact ⟨s1, hbad _ (by rw [h211]; exact hne) hb, Or.inr ⟨h211, hne, hX1⟩⟩
    · have hexpf : aCan A = false := by
        cases hq : aCan A
        · rfl
        · exact absurd hq hexp
      have hb0 : g_expand_b42 n () st = g_expand_j86 n (rput st 24 0) := by
        rw [hhead]
        by_cases h3 : A.1 3 = 0
        · rw [if_pos h3]
          rw [hcan, decide_eq_true h3, Bool.true_and] at hexpf
          rw [hexpf, if_neg (by decide)]
        · rw [if_neg h3]
      obtain ⟨K', rfl, hL'⟩ := wLoop_take hL hx (by rw [hexpf, Bool.and_false])
      have hwt : wTake A = wCarry (aPi (aPl A 0 ts) 3 0) t := by
        unfold wTake
        rw [hx]
        dsimp only
        rw [if_pos h10]
      rw [hwt] at hL'
      obtain ⟨tk1, tk2, tk3, tk4⟩ := hw.take hx
      obtain ⟨s1, e1, o1⟩ := g_carryOut_at (n := n) (K := K') (C := aPi (aPl A 0 ts) 3 0) hn (by omega) ((hX7.pl 0 ts (by omega)).pi 3 0 (by decide)) hV7 rfl h21 rfl rfl h10 tk1 hL'
      have hb : g_expand_b42 n () st = some (.inl (), s1) := by
        rw [hb0]
        unfold g_expand_j86 g_expand_j90
        rw [e1]
        rfl
      rcases o1 with ⟨h211, B, K2, hK2, W2, w2, b10, hL2⟩ | ⟨h211, hne, hX1⟩
      · obtain ⟨st', eg, ho⟩ := ih K2 (by omega) (m2 + 1) s1 B W2 w2 b10 (by omega) (by omega) hL2
        exact ⟨st', by simp only [gloopW, gbW, hb]; exact eg, ho⟩
      · exact ⟨s1, hbad _ (by rw [h211]; exact hne) hb, Or.inr ⟨h211, hne, hX1⟩⟩
