/-! THE BODY OF A DEFINITION IS READ: the reference -/
def bFin (D : aS) : Int32 × aS := if (D.2.1 2).length = 100 then (8, D) else (0, dEnter D)
theorem dGoB_fin {D : aS} (h : D.1 10 = 4) : dGoB (0, D) = bFin D := by
  unfold dGoB bFin
  dsimp only
  rw [if_pos rfl, if_pos h]
def bOut (K k : Nat) (nm : Int32) (res : Int32 × aS) (x : Int32) (st' : rS) : Prop := (st'.1 21 = 0 ∧ ∃ D K', K' ≤ K ∧ x = nI (D.2.1 410).length ∧ RX st' D ∧ RV st' (D.2.1 0) ∧ st'.1 24 = D.1 3 ∧ RDf st' D ∧ RDt st' D ∧ D.1 13 = nI k ∧ D.1 12 = nm ∧ (D.2.1 3).length = (D.2.1 2).length ∧ (D.2.1 2).length ≤ 100 ∧ (D.1 9 = -1 ∨ 0 ≤ D.1 9) ∧ (D.2.1 0).length < 3000 ∧ ((bFin D).1 = 0 → wInv (bFin D).2) ∧ wLoop 230000 K' (bFin D) = some res) ∨ (st'.1 21 = res.1 ∧ res.1 ≠ 0 ∧ RX st' res.2)
theorem RDf.k {st st' : rS} {C D : aS} (h : RDf st C) (hf : ∀ j, 19 ≤ j → st'.2 j = st.2 j) (hl : ∀ j, 400 ≤ j → j < 410 → D.2.1 j = C.2.1 j) : RDf st' D := fun r hr => by
  rw [hf 20 (by omega), hf 19 (by omega), hl (400 + r) (by omega) (by omega)]
  exact h r hr
theorem RDt.k {st st' : rS} {C D : aS} (h : RDt st C) (hf : ∀ j, 19 ≤ j → st'.2 j = st.2 j) (hl : D.2.1 410 = C.2.1 410) : RDt st' D := by
  unfold RDt
  rw [hl, hf 21 (by omega)]
  exact h
theorem g_body_loop {n k : Nat} {x2 nm : Int32} (hn : 300000 < n) (hk : k ≤ 9) {res : Int32 × aS} : ∀ (K n' d : Nat) (x1 : Int32) (st : rS) (C : aS), RX st C → RV st (C.2.1 0) → st.1 24 = C.1 3 → st.1 21 = 0 → RDf st C → RDt st C → wInv C → C.1 10 = 3 → C.1 13 = nI k → C.1 14 = nI d → 1 ≤ d → d ≤ 1 + (C.2.1 410).length → C.1 11 = x1 → C.1 12 = nm → K + 2 ≤ n' → wLoop 230000 K (0, C) = some res → ∃ x st', gloopW (g_defines_b278 n x1 x2 (nI k)) n' (nI (C.2.1 410).length, nI d) st = some (x, st') ∧ bOut K k nm res x st' := by
  intro K
  induction K using Nat.strongRecOn with
  | ind K ih =>
  intro n' d x1 st C hX hV h24 h21 hDf hDt hw h10 h13 h14 hd1 hd2 h11 h12 hn' hL
  obtain ⟨m, rfl⟩ : ∃ m, n' = m + 1 := ⟨n' - 1, by omega⟩
  obtain ⟨m2, rfl⟩ : ∃ m2, m = m2 + 1 := ⟨m - 1, by omega⟩
  have hbl := hDt.1
  have hX7 : RX (rput st 24 0) C := hX.k (rK_put st 24 0 (by decide)) rfl rfl rfl rfl
  have h217 : (rput st 24 0).1 21 = 0 := h21
  have hbad : ∀ (x y : Int32) (s : rS), s.1 21 ≠ 0 → g_defines_b278 n x1 x2 (nI k) (nI (C.2.1 410).length, nI d) st = some (.inl (x, y), s) → gloopW (g_defines_b278 n x1 x2 (nI k)) (m2 + 1 + 1) (nI (C.2.1 410).length, nI d) st = some (x, s) := by
    intro x y s hs hb
    have h2 : g_defines_b278 n x1 x2 (nI k) (x, y) s = some (.inr x, s) := by
      unfold g_defines_b278
      dsimp only
      split
      · rfl
      · first
        | rfl
        | rw [if_neg hs]
    simp [gloopW, gbW, hb, h2]
  have hd0 : ¬ nI d ≤ 0 := nI_nle (by omega) (by omega)
  cases hx : C.2.1 0 with
  | nil =>
    rw [hx] at hV
    have hV7 : RV (rput st 24 0) [] := hV.same rfl rfl rfl
    have hr1 : res = (1, C) := by
      rw [wLoop_end hL hx]
      unfold wEnd
      rw [if_neg (fun q => by rw [h10] at q; exact absurd q.2 (by decide))]
    subst hr1
    have hb : g_defines_b278 n x1 x2 (nI k) (nI (C.2.1 410).length, nI d) st = some (.inl (nI (C.2.1 410).length, nI d), rMarked 1 (rput st 24 0)) := by
      unfold g_defines_b278 g_defines_j463
      dsimp only
      rw [if_neg hd0, if_pos h21, rputZ_at (Or.inl rfl), Option.bind_some, hV7.size, if_pos (show nI ([] : List Int32).length = 0 from rfl), show g_mark 1 (rput st 24 0) = some ((), rMarked 1 (rput st 24 0)) from g_mark_at]
      rfl
    exact ⟨_, _, hbad _ _ _ (by rw [rMarked_0 h217]; decide) hb, Or.inr ⟨rMarked_0 h217, ne_0 (by decide), hX7.mark 1⟩⟩
  | cons t ts =>
    rw [hx] at hV
    have hV7 : RV (rput st 24 0) (t :: ts) := hV.same rfl rfl rfl
    have hVle := hV.le
    rw [List.length_cons] at hVle
    have hget : g_get 0 (rput st 24 0) = some t := hV7.get (k := 0) rfl
    have hcb : g_canBeExpanded 0 (rput st 24 0) = some (b01 (aHas C t)) := RQ.can (k := 0) hX7.2.2.2.2.1 hget
    have hsz : (rput st 24 0).1 3 = nI (ts.length + 1) := by rw [hV7.size, List.length_cons]
    have hhead : g_defines_b278 n x1 x2 (nI k) (nI (C.2.1 410).length, nI d) st = if x1 = 0 then g_defines_j341 n x1 x2 (nI k) (nI (C.2.1 410).length) (nI d) (rput st 24 0) else if C.1 3 = 0 then (if aHas C t = true then gbW (g_expandAt n 0 (rput st 24 0)) fun _ h335 => g_defines_j463 n x1 x2 (nI k) (nI (C.2.1 410).length) (nI d) h335 else g_defines_j341 n x1 x2 (nI k) (nI (C.2.1 410).length) (nI d) (rput st 24 0)) else g_defines_j341 n x1 x2 (nI k) (nI (C.2.1 410).length) (nI d) (rput st 24 0) := by
      unfold g_defines_b278
      dsimp only
      rw [if_neg hd0, if_pos h21, rputZ_at (Or.inl rfl), Option.bind_some, hsz, if_neg (nI_ne0 (by omega) (by omega)), h24, hcb, Option.bind_some, b01_if]
    have hTk : wTakes C = decide (x1 = 0) := by
      unfold wTakes
      rw [h10, h11]
      cases decide (x1 = 0) <;> rfl
    have hcan : aCan C = (decide (C.1 3 = 0) && aHas C t) := by
      unfold aCan
      rw [hx]
    by_cases hexp : (!(wTakes C) && aCan C) = true
    · -- the first token is expanded
      rw [Bool.and_eq_true, Bool.not_eq_true', hTk] at hexp
      have hx1 : ¬ x1 = 0 := of_decide_eq_false hexp.1
      have hcc := hexp.2
      rw [hcan, Bool.and_eq_true, decide_eq_true_eq] at hcc
      rw [if_neg hx1, if_pos hcc.1, if_pos hcc.2] at hhead
      cases K with
      | zero => simp [wLoop] at hL
      | succ K' =>
        simp only [wLoop] at hL
        rw [if_pos trivial, if_neg (by rw [hx]; simp)] at hL
        obtain ⟨r, hr⟩ := wTurn_ends hw
        rw [hr, Option.bind_some] at hL
        have hrO : eOnce 230000 C = some r := by
          unfold wTurn at hr
          rw [hTk, hexp.2, decide_eq_false hx1] at hr
          exact hr
        obtain ⟨s1, e1, ho1, fr1⟩ := g_expandAt_at (n := n) (N := 230000) (st := rput st 24 0) (by omega) (by omega) hX7 (by rw [hx]; exact hV7) (by show (0 : Int32) = C.1 3; exact hcc.1.symm) h217 hw.1 hexp.2 hw.2.2.2.1 hw.2.2.1 hrO
        rw [e1] at hhead
        have hb : g_defines_b278 n x1 x2 (nI k) (nI (C.2.1 410).length, nI d) st = some (.inl (nI (C.2.1 410).length, nI d), s1) := hhead
        rcases ho1 with ⟨hz, hQ1, -, -, hf8⟩ | ⟨h211, hne, hX1⟩
        · obtain ⟨w1, -, -⟩ := wOnce_inv hw hrO hz
          obtain ⟨hkp, -⟩ := eOnce_inv hw.1 hw.2.2.2.1 hrO
          have e410 : r.2.2.1 410 = C.2.1 410 := hkp.2.1 410 (by omega)
          have hr0 : r = (0, r.2) := by rw [← hz]
          rw [hr0] at hL
          have hV1 : RV s1 (r.2.2.1 0) := by
            have := hQ1.2.1.2.2.1
            rw [hf8] at this
            exact this
          obtain ⟨x, st', eg, ho⟩ := ih K' (by omega) (m2 + 1) d x1 s1 r.2 hQ1.1 hV1 hQ1.2.2.1 hQ1.2.2.2 (hDf.k (fun j hj => fr1 j hj) (fun j h1 h2 => hkp.2.1 j (by omega))) (hDt.k (fun j hj => fr1 j hj) e410) w1 ((hkp.1 10 (by omega)).trans h10) ((hkp.1 13 (by omega)).trans h13) ((hkp.1 14 (by omega)).trans h14) hd1 (by rw [e410]; exact hd2) ((hkp.1 11 (by omega)).trans h11) ((hkp.1 12 (by omega)).trans h12) (by omega) hL
          rw [e410] at eg
          refine ⟨x, st', by simp only [gloopW, gbW, hb]; exact eg, ?_⟩
          rcases ho with ⟨w1, D, K2, w2, w3⟩ | w
          · exact Or.inl ⟨w1, D, K2, by omega, w3⟩
          · exact Or.inr w
        · have hres : res = r := by
            have : (r.1, r.2) = r := rfl
            rw [← this] at hL
            exact wLoop_c hL hne
          subst hres
          exact ⟨_, _, hbad _ _ _ (by rw [h211]; exact hne) hb, Or.inr ⟨h211, hne, hX1⟩⟩
    · -- a token is taken
      have hexpf : (!(wTakes C) && aCan C) = false := by
        cases hq : (!(wTakes C) && aCan C)
        · rfl
        · exact absurd hq hexp
      have hb0 : g_defines_b278 n x1 x2 (nI k) (nI (C.2.1 410).length, nI d) st = g_defines_j341 n x1 x2 (nI k) (nI (C.2.1 410).length) (nI d) (rput st 24 0) := by
        rw [hhead]
        by_cases hx1 : x1 = 0
        · rw [if_pos hx1]
        · rw [if_neg hx1]
          by_cases h3 : C.1 3 = 0
          · rw [if_pos h3]
            rw [hTk, decide_eq_false hx1, hcan, decide_eq_true h3] at hexpf
            have hh : aHas C t = false := by simpa using hexpf
            rw [hh, if_neg (by decide)]
          · rw [if_neg h3]
      obtain ⟨K', rfl, hL'⟩ := wLoop_take hL hx hexpf
      have hwt : wTake C = dGo (aPi (aPl C 0 ts) 3 0) t := by
        unfold wTake
        rw [hx]
        dsimp only
        rw [if_neg (by rw [h10]; decide)]
      rw [hwt] at hL'
      obtain ⟨tk1, tk2, tk3, tk4⟩ := hw.take hx
      have hinv : (dGo (aPi (aPl C 0 ts) 3 0) t).1 = 0 → wInv (dGo (aPi (aPl C 0 ts) 3 0) t).2 := fun hz => (dGo_inv tk1 (by show C.1 10 ≠ 0; rw [h10]; decide) tk2 tk4 hz).1
      have hdg : dGo (aPi (aPl C 0 ts) 3 0) t = dGoB ((dText (aPi (aPl C 0 ts) 3 0) t).1, aPi (dText (aPi (aPl C 0 ts) 3 0) t).2 2 ((dText (aPi (aPl C 0 ts) 3 0) t).2.1 12)) := by
        unfold dGo dAcc
        rw [if_neg (show ¬ (aPi (aPl C 0 ts) 3 0).1 10 = 1 by show ¬ C.1 10 = 1; rw [h10]; decide), if_neg (show ¬ (aPi (aPl C 0 ts) 3 0).1 10 = 2 by show ¬ C.1 10 = 2; rw [h10]; decide)]
      rw [hdg] at hL' hinv
      have hnm : C.1 2 = C.1 12 := hw.2.2.2.2.2.2.2.2.2.2.1 (Or.inr h10)
      have hXC : RX (rput st 24 0) (aPi (aPl C 0 ts) 3 0) := (hX7.pl 0 ts (by omega)).pi 3 0 (by decide)
      have hX2 : ∀ (st' : rS) (B : aS), RX st' B → B.1 2 = B.1 12 → RX st' (aPi B 2 (B.1 12)) := fun st' B h hb => h.to _ (rK.rf _) (by rw [h.2.1]; rfl) (by rw [h.2.2.1, hb]; rfl) h.2.2.2.1 (fun j hj => by simp only [aPi, upd]; rw [if_neg (by omega)]) (fun _ _ => rfl) rfl
      have hdd : nI d + mNest t = nI (mDep t d) := mNest_nat (fun _ => by omega) (by omega)
      have hdl := mDep_le (t := t) (d := d)
      have hj375 : g_defines_j341 n x1 x2 (nI k) (nI (C.2.1 410).length) (nI d) (rput st 24 0) = if nI (tArg t) ≤ nI k then g_defines_j411 n x1 x2 (nI k) (nI (C.2.1 410).length) (nI (mDep t d)) t (rput st 24 0) else some (.inl (nI (C.2.1 410).length, nI (mDep t d)), rMarked 6 (rput st 24 0)) := by
        have h375 : ∀ y : Int32, y = mNest t → g_defines_j375 n x1 x2 (nI k) (nI (C.2.1 410).length) t (nI d) y (rput st 24 0) = if nI (tArg t) ≤ nI k then g_defines_j411 n x1 x2 (nI k) (nI (C.2.1 410).length) (nI (mDep t d)) t (rput st 24 0) else some (.inl (nI (C.2.1 410).length, nI (mDep t d)), rMarked 6 (rput st 24 0)) := by
          intro y hy
          rw [hy]
          unfold g_defines_j375 g_defines_j450 g_defines_j463
          rw [g_in_at, Option.bind_some, b01_if, hdd]
          by_cases hin : 311 ≤ t ∧ t ≤ 319
          · obtain ⟨a, ha1, ha2, ha3, ha4⟩ := tArg_of hin
            rw [decide_eq_true hin, if_pos rfl, ha4, ha3]
            by_cases hle : nI a ≤ nI k
            · rw [if_pos hle, if_pos hle]
            · rw [if_neg hle, if_neg hle, show g_mark 6 (rput st 24 0) = some ((), rMarked 6 (rput st 24 0)) from g_mark_at]
              simp only [gbW]
              rw [if_neg (by rw [rMarked_0 h217]; decide)]
          · have hta : tArg t = 0 := by
              unfold tArg
              rw [if_neg hin]
            rw [decide_eq_false hin, if_neg (by decide), hta, if_pos (nI_le (by omega) (by omega))]
        unfold g_defines_j341
        rw [hget, Option.bind_some]
        by_cases h257 : t = 257
        · rw [if_pos h257]
          exact h375 1 (by simp [mNest, h257])
        · rw [if_neg h257]
          by_cases h258 : t = 258
          · rw [if_pos h258]
            exact h375 (-1) (by simp [mNest, h258])
          · rw [if_neg h258]
            exact h375 0 (by simp [mNest, h257, h258])
      rw [hj375] at hb0
      unfold dText at hL' hinv
      have e14 : (aPi (aPl C 0 ts) 3 0).1 14 = nI d := h14
      have e13 : (aPi (aPl C 0 ts) 3 0).1 13 = nI k := h13
      rw [e14, e13, hdd] at hL' hinv
      have hlist : ∀ j, j ≠ 0 → (aPi (aPl C 0 ts) 3 0).2.1 j = C.2.1 j := fun j hj => va_up_ne _ _ hj
      have e410 : (aPi (aPl C 0 ts) 3 0).2.1 410 = C.2.1 410 := hlist 410 (by decide)
      obtain ⟨s2, t2, V2, X2, f2, q2⟩ := RW.take (n := n) (A := aPi (aPl C 0 ts) 3 0) hV7 hXC (by omega)
      have h21s : s2.1 21 = 0 := (f2 21 (by decide) (by decide)).trans h217
      have h24s : s2.1 24 = 0 := (f2 24 (by decide) (by decide)).trans rfl
      by_cases hz0 : mDep t d = 0
      · -- the body ends
        rw [hz0, if_pos (show nI 0 = 0 from rfl)] at hL' hinv
        have ht258 : t = 258 ∧ d = 1 := by
          unfold mDep at hz0
          split at hz0
          · omega
          · split at hz0
            · rename_i h
              exact ⟨h, by omega⟩
            · omega
        have hta : tArg t = 0 := by rw [ht258.1]; rfl
        rw [hz0, hta, if_pos (nI_le (by omega) (by omega))] at hb0
        have hb1 : g_defines_b278 n x1 x2 (nI k) (nI (C.2.1 410).length, nI d) st = some (.inl (nI (C.2.1 410).length, nI 0), s2) := by
          rw [hb0]
          unfold g_defines_j411 g_defines_j433 g_defines_j450 g_defines_j463
          dsimp only
          rw [if_pos (show nI 0 ≤ 0 by decide), if_pos (show nI 0 ≤ 0 by decide), if_pos h217, t2]
          rfl
        have hb2 : g_defines_b278 n x1 x2 (nI k) (nI (C.2.1 410).length, nI 0) s2 = some (.inr (nI (C.2.1 410).length), s2) := by
          unfold g_defines_b278
          dsimp only
          rw [if_pos (show nI 0 ≤ 0 by decide)]
        have hD : dGoB (((0 : Int32), aPi (aPi (aPi (aPl C 0 ts) 3 0) 14 (nI 0)) 10 4).1, aPi ((0 : Int32), aPi (aPi (aPi (aPl C 0 ts) 3 0) 14 (nI 0)) 10 4).2 2 (((0 : Int32), aPi (aPi (aPi (aPl C 0 ts) 3 0) 14 (nI 0)) 10 4).2.1 12)) = bFin (aPi (aPi (aPi (aPi (aPl C 0 ts) 3 0) 14 (nI 0)) 10 4) 2 (C.1 12)) := dGoB_fin rfl
        rw [hD] at hL' hinv
        refine ⟨nI (C.2.1 410).length, s2, by simp [gloopW, gbW, hb1, hb2], Or.inl ⟨h21s, aPi (aPi (aPi (aPi (aPl C 0 ts) 3 0) 14 (nI 0)) 10 4) 2 (C.1 12), K', by omega, rfl, ?_, V2, h24s, hDf.k (fun j hj => q2 j (by omega)) (fun j h1 h2 => hlist j (by omega)), hDt.k (fun j hj => q2 j (by omega)) e410, h13, h12, hw.2.1, hw.1.1.1, hw.2.2.2.2.2.1, tk4, hinv, hL'⟩⟩
        have := hX2 s2 _ ((X2.pi 14 (nI 0) (by decide)).pi 10 4 (by decide)) hnm
        exact this
      · rw [if_neg (nI_ne0 (by omega) (by omega))] at hL' hinv
        by_cases hle : nI (tArg t) ≤ nI k
        · rw [if_pos hle] at hL' hinv hb0
          unfold dAdd at hL' hinv
          rw [show (aPi (aPi (aPl C 0 ts) 3 0) 14 (nI (mDep t d))).2.1 410 = C.2.1 410 from e410] at hL' hinv
          by_cases hfl : (C.2.1 410).length < 200
          · rw [if_pos hfl] at hL' hinv
            have hGB : dGoB (((0 : Int32), aPl (aPi (aPi (aPl C 0 ts) 3 0) 14 (nI (mDep t d))) 410 (C.2.1 410 ++ [t])).1, aPi ((0 : Int32), aPl (aPi (aPi (aPl C 0 ts) 3 0) 14 (nI (mDep t d))) 410 (C.2.1 410 ++ [t])).2 2 (((0 : Int32), aPl (aPi (aPi (aPl C 0 ts) 3 0) 14 (nI (mDep t d))) 410 (C.2.1 410 ++ [t])).2.1 12)) = (0, aPi (aPl (aPi (aPi (aPl C 0 ts) 3 0) 14 (nI (mDep t d))) 410 (C.2.1 410 ++ [t])) 2 (C.1 12)) := dGoB_ok (show ¬ C.1 10 = 4 by rw [h10]; decide)
            rw [hGB] at hL' hinv
            have hV9 : RV ((rput st 24 0).1, fun q => if q = 21 then upd ((rput st 24 0).2 21) (C.2.1 410).length t else (rput st 24 0).2 q) (t :: ts) := hV7.same rfl rfl rfl
            have hX9 : RX ((rput st 24 0).1, fun q => if q = 21 then upd ((rput st 24 0).2 21) (C.2.1 410).length t else (rput st 24 0).2 q) (aPi (aPl C 0 ts) 3 0) := hXC.k ⟨fun _ _ => rfl, fun j h1 h2 => by show (if j = 21 then _ else (rput st 24 0).2 j) = (rput st 24 0).2 j; rw [if_neg (by omega)]⟩ rfl rfl rfl rfl
            obtain ⟨s3, t3, V3, X3, f3, q3⟩ := RW.take (n := n) (A := aPi (aPl C 0 ts) 3 0) hV9 hX9 (by omega)
            have q3' : ∀ j, j ≠ 0 → j ≠ 21 → s3.2 j = st.2 j := fun j h0 h21 => by
              rw [q3 j h0]
              show (if j = 21 then _ else (rput st 24 0).2 j) = st.2 j
              rw [if_neg h21]
              rfl
            have q321 : s3.2 21 = upd (st.2 21) (C.2.1 410).length t := q3 21 (by decide)
            have hb1 : g_defines_b278 n x1 x2 (nI k) (nI (C.2.1 410).length, nI d) st = some (.inl (nI ((C.2.1 410).length + 1), nI (mDep t d)), s3) := by
              rw [hb0]
              unfold g_defines_j411 g_defines_j433 g_defines_j450 g_defines_j463
              dsimp only
              rw [if_neg (nI_nle (by omega) (by omega)), if_neg (show ¬ nI (C.2.1 410).length = (200 : Int32) from fun q => by
                have := (nI_eq (b := 200) (by omega) (by decide)).mp q
                omega), if_neg (nI_nle (by omega) (by omega)), rset_at (by omega) (by decide), Option.bind_some, if_pos (show ((rput st 24 0).1, fun q => if q = 21 then upd ((rput st 24 0).2 21) (C.2.1 410).length t else (rput st 24 0).2 q).1 21 = 0 from h217), t3, nI_1]
              rfl
            have hl410 : (aPi (aPl (aPi (aPi (aPl C 0 ts) 3 0) 14 (nI (mDep t d))) 410 (C.2.1 410 ++ [t])) 2 (C.1 12)).2.1 410 = C.2.1 410 ++ [t] := rfl
            have hlen : (C.2.1 410 ++ [t]).length = (C.2.1 410).length + 1 := by
              rw [List.length_append]
              rfl
            obtain ⟨x, st', eg, ho⟩ := ih K' (by omega) (m2 + 1) (mDep t d) x1 s3 (aPi (aPl (aPi (aPi (aPl C 0 ts) 3 0) 14 (nI (mDep t d))) 410 (C.2.1 410 ++ [t])) 2 (C.1 12)) (hX2 s3 _ ((X3.pi 14 _ (by decide)).pl 410 _ (by omega)) hnm) V3 ((f3 24 (by decide) (by decide)).trans rfl) ((f3 21 (by decide) (by decide)).trans h217) (fun r hr => by
                rw [q3' 20 (by decide) (by decide), q3' 19 (by decide) (by decide), show (aPi (aPl (aPi (aPi (aPl C 0 ts) 3 0) 14 (nI (mDep t d))) 410 (C.2.1 410 ++ [t])) 2 (C.1 12)).2.1 (400 + r) = C.2.1 (400 + r) from by
                  show va_up (aPi (aPl C 0 ts) 3 0).2.1 410 _ (400 + r) = _
                  rw [va_up_ne _ _ (by omega)]
                  exact hlist _ (by omega)]
                exact hDf r hr) ⟨by rw [hl410, hlen]; omega, fun i u hi => by
                rw [hl410] at hi
                rw [q321]
                by_cases hil : i < (C.2.1 410).length
                · rw [List.getElem?_append_left hil] at hi
                  rw [upd_other (by omega)]
                  exact hDt.2 i u hi
                · rw [List.getElem?_append_right (by omega)] at hi
                  have hi0 : i = (C.2.1 410).length := by
                    have := (List.getElem?_eq_some_iff.mp hi).1
                    simp at this
                    omega
                  rw [hi0, upd_same]
                  exact (List.mem_singleton.mp (List.mem_of_getElem? hi)).symm⟩ (hinv rfl) h10 h13 rfl (by omega) (by rw [hl410, hlen]; omega) h11 h12 (by omega) hL'
            rw [hl410, hlen] at eg
            refine ⟨x, st', by simp only [gloopW, gbW, hb1]; exact eg, ?_⟩
            rcases ho with ⟨w1, D, K2, w2, w3⟩ | w
            · exact Or.inl ⟨w1, D, K2, by omega, w3⟩
            · exact Or.inr w
          · rw [if_neg hfl] at hL'
            have hr : res = (8, aPi (aPi (aPi (aPl C 0 ts) 3 0) 14 (nI (mDep t d))) 2 (C.1 12)) := by
              have : dGoB (((8 : Int32), aPi (aPi (aPl C 0 ts) 3 0) 14 (nI (mDep t d))).1, aPi ((8 : Int32), aPi (aPi (aPl C 0 ts) 3 0) 14 (nI (mDep t d))).2 2 (((8 : Int32), aPi (aPi (aPl C 0 ts) 3 0) 14 (nI (mDep t d))).2.1 12)) = (8, aPi (aPi (aPi (aPl C 0 ts) 3 0) 14 (nI (mDep t d))) 2 (C.1 12)) := dGoB_bad (c := 8) (by decide)
              rw [this] at hL'
              exact wLoop_c hL' (by decide)
            subst hr
            have hb1 : g_defines_b278 n x1 x2 (nI k) (nI (C.2.1 410).length, nI d) st = some (.inl (nI (C.2.1 410).length, nI (mDep t d)), rMarked 8 (rput st 24 0)) := by
              rw [hb0]
              unfold g_defines_j411 g_defines_j450 g_defines_j463
              rw [if_neg (nI_nle (by omega) (by omega)), if_pos (show nI (C.2.1 410).length = (200 : Int32) by rw [show (C.2.1 410).length = 200 by omega]; rfl), show g_mark 8 (rput st 24 0) = some ((), rMarked 8 (rput st 24 0)) from g_mark_at]
              simp only [gbW]
              rw [if_neg (by rw [rMarked_0 h217]; decide)]
            exact ⟨_, _, hbad _ _ _ (by rw [rMarked_0 h217]; decide) hb1, Or.inr ⟨rMarked_0 h217, ne_0 (by decide), (hX2 _ _ (hXC.pi 14 _ (by decide)) hnm).mark 8⟩⟩
        · rw [if_neg hle] at hL' hb0
          have hr : res = (6, aPi (aPi (aPi (aPl C 0 ts) 3 0) 14 (nI (mDep t d))) 2 (C.1 12)) := by
            have : dGoB (((6 : Int32), aPi (aPi (aPl C 0 ts) 3 0) 14 (nI (mDep t d))).1, aPi ((6 : Int32), aPi (aPi (aPl C 0 ts) 3 0) 14 (nI (mDep t d))).2 2 (((6 : Int32), aPi (aPi (aPl C 0 ts) 3 0) 14 (nI (mDep t d))).2.1 12)) = (6, aPi (aPi (aPi (aPl C 0 ts) 3 0) 14 (nI (mDep t d))) 2 (C.1 12)) := dGoB_bad (c := 6) (by decide)
            rw [this] at hL'
            exact wLoop_c hL' (by decide)
          subst hr
          exact ⟨_, _, hbad _ _ _ (by rw [rMarked_0 h217]; decide) hb0, Or.inr ⟨rMarked_0 h217, ne_0 (by decide), (hX2 _ _ (hXC.pi 14 _ (by decide)) hnm).mark 6⟩⟩
