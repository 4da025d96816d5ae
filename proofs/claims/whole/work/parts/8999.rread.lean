/-! THE ROWS OF A DEFINITION ARE READ: the reference -/
theorem wLoop_c {N K : Nat} {c : Int32} {A : aS} {res : Int32 × aS} (hL : wLoop N K (c, A) = some res) (hc : c ≠ 0) : res = (c, A) := by
  cases K with
  | zero => simp [wLoop] at hL
  | succ K =>
    simp only [wLoop] at hL
    rw [if_neg hc] at hL
    exact (Option.some.inj hL).symm
/-- a turn that takes a token -/
theorem wLoop_take {N K : Nat} {A : aS} {t : Int32} {ts : List Int32} {res : Int32 × aS} (hL : wLoop N K (0, A) = some res) (hx : A.2.1 0 = t :: ts) (hT : (!(wTakes A) && aCan A) = false) : ∃ K', K = K' + 1 ∧ wLoop N K' (wTake A) = some res := by
  cases K with
  | zero => simp [wLoop] at hL
  | succ K =>
    simp only [wLoop] at hL
    rw [if_pos trivial, if_neg (by rw [hx]; simp)] at hL
    unfold wTurn at hL
    rw [hT, if_neg (by decide), Option.bind_some] at hL
    exact ⟨K, rfl, hL⟩
theorem wLoop_end {N K : Nat} {A : aS} {res : Int32 × aS} (hL : wLoop N K (0, A) = some res) (hx : A.2.1 0 = []) : res = wEnd A := by
  cases K with
  | zero => simp [wLoop] at hL
  | succ K =>
    simp only [wLoop] at hL
    rw [if_pos trivial, if_pos (by rw [hx]; rfl)] at hL
    exact (Option.some.inj hL).symm
/-- the first token goes -/
theorem RW.take {n : Nat} {st : rS} {A : aS} {t : Int32} {ts : List Int32} (h : RV st (t :: ts)) (hX : RX st A) (hn : 7000 < n) : ∃ st', g_take n 0 1 st = some ((), st') ∧ RV st' ts ∧ RX st' A ∧ (∀ k, k ≠ 2 → k ≠ 3 → st'.1 k = st.1 k) ∧ ∀ j, j ≠ 0 → st'.2 j = st.2 j := by
  obtain ⟨s, e, V, f, q⟩ := RV.take (n := n) (st := st) (as := []) (bs := [t]) (cs := ts) h (by omega)
  exact ⟨s, e, V, hX.k (rK_ring f q) (f 23 (by decide) (by decide)) (f 22 (by decide) (by decide)) (f 25 (by decide) (by decide)) (q 14 (by decide)), f, q⟩
theorem par_next {t : Int32} {k : Nat} (hk : k ≤ 9) (ht : tPar t = true) : nI (tArg t) = nI k + 1 ↔ (t = 311 + nI k ∧ nI k ≠ 9) := by
  have h311 : (311 : Int32) + nI k = nI (311 + k) := nI_add 311 k
  rw [h311, nI_1]
  have hta := tArg_le t
  constructor
  · intro h
    have h1 : tArg t = k + 1 := (nI_eq (by omega) (by omega)).mp h
    have hin : 311 ≤ t ∧ t ≤ 319 := by
      by_cases q : 311 ≤ t ∧ t ≤ 319
      · exact q
      · exfalso
        unfold tArg at h1
        rw [if_neg q] at h1
        omega
    obtain ⟨a, ha1, ha2, ha3, ha4⟩ := tArg_of hin
    refine ⟨?_, fun q => ?_⟩
    · rw [← Int32.sub_add_cancel t 310, ha4, show (310 : Int32) = nI 310 from rfl, nI_add, show a + 310 = 311 + k by omega]
    · have := (nI_eq (b := 9) (by omega) (by decide)).mp q
      omega
  · rintro ⟨h1, h2⟩
    have hk9 : k ≠ 9 := fun q => h2 (by rw [q]; rfl)
    have hin : 311 ≤ t ∧ t ≤ 319 := by
      rw [h1]
      exact ⟨nI_le (a := 311) (by omega) (by omega), nI_le (b := 319) (by omega) (by omega)⟩
    obtain ⟨a, ha1, ha2, ha3, ha4⟩ := tArg_of hin
    rw [ha3, ← ha4, h1, show (310 : Int32) = nI 310 from rfl, pk_sub (by omega), show 311 + k - 310 = k + 1 by omega]
theorem dGoB_ok {A : aS} (h : A.1 10 ≠ 4) : dGoB (0, A) = (0, A) := by
  unfold dGoB
  dsimp only
  rw [if_pos rfl, if_neg h]
theorem dGoB_bad {c : Int32} {A : aS} (h : c ≠ 0) : dGoB (c, A) = (c, A) := by
  unfold dGoB
  dsimp only
  rw [if_neg h]
/-- how the rows' loop ends -/
def rOutR (K k0 : Nat) (C0 : aS) (res : Int32 × aS) (x : Int32) (st' : rS) : Prop := (st'.1 21 = 0 ∧ ∃ C k K', K' ≤ K ∧ x = nI k ∧ k ≤ 9 ∧ RX st' C ∧ RV st' (C.2.1 0) ∧ C.1 3 = 0 ∧ RDf st' C ∧ wInv C ∧ C.1 10 = 3 ∧ C.1 13 = nI k ∧ C.1 11 = C0.1 11 ∧ C.1 12 = C0.1 12 ∧ C.2.1 410 = C0.2.1 410 ∧ C.1 14 = C0.1 14 ∧ wLoop 230000 K' (0, C) = some res) ∨ (st'.1 21 = res.1 ∧ res.1 ≠ 0 ∧ RX st' res.2)
theorem g_rows_loop {n : Nat} {x1 x2 : Int32} (hn : 7000 < n) {res : Int32 × aS} {C0 : aS} : ∀ (K n' k : Nat) (st : rS) (C : aS), RX st C → RV st (C.2.1 0) → st.1 21 = 0 → C.1 3 = 0 → RDf st C → wInv C → C.1 10 = 2 → C.1 13 = nI k → k ≤ 9 → C.1 11 = C0.1 11 → C.1 12 = C0.1 12 → C.2.1 410 = C0.2.1 410 → C.1 14 = C0.1 14 → K + 2 ≤ n' → wLoop 230000 K (0, C) = some res → ∃ x st', gloopW (g_defines_b90 n x1 x2 0) n' (nI k, 1) st = some (x, st') ∧ rOutR K k C0 res x st' ∧ (∀ j, j ≠ 2 → j ≠ 3 → j ≠ 21 → st'.1 j = st.1 j) := by
  intro K
  induction K using Nat.strongRecOn with
  | ind K ih =>
  intro n' k st C hX hV h21 hC3 hD hw h10 h13 hk c11 c12 c410 c14 hn' hL
  obtain ⟨m, rfl⟩ : ∃ m, n' = m + 1 := ⟨n' - 1, by omega⟩
  obtain ⟨m2, rfl⟩ : ∃ m2, m = m2 + 1 := ⟨m - 1, by omega⟩
  have hTk : wTakes C = true := by
    unfold wTakes
    rw [h10]
    rfl
  -- a fault ends the loop
  have hbad : ∀ (x : Int32) (s : rS), s.1 21 ≠ 0 → g_defines_b90 n x1 x2 0 (nI k, 1) st = some (.inl (x, 1), s) → gloopW (g_defines_b90 n x1 x2 0) (m2 + 1 + 1) (nI k, 1) st = some (x, s) := by
    intro x s hs hb
    have h2 : g_defines_b90 n x1 x2 0 (x, 1) s = some (.inr x, s) := by
      unfold g_defines_b90
      dsimp only
      rw [if_neg (by decide), if_neg hs]
    simp [gloopW, gbW, hb, h2]
  cases hx : C.2.1 0 with
  | nil =>
    rw [hx] at hV
    have hr := wLoop_end hL hx
    have hr1 : res = (1, C) := by
      rw [hr]
      unfold wEnd
      rw [if_neg (fun q => by rw [h10] at q; exact absurd q.2 (by decide))]
    subst hr1
    have hb : g_defines_b90 n x1 x2 0 (nI k, 1) st = some (.inl (nI k, 1), rMarked 1 st) := by
      unfold g_defines_b90 g_defines_j118 g_defines_j254 g_defines_j267
      dsimp only
      rw [if_neg (by decide), if_pos h21, hV.size, if_pos (show nI ([] : List Int32).length ≤ 0 by decide), if_pos (show nI ([] : List Int32).length = 0 from rfl), show g_mark 1 st = some ((), rMarked 1 st) from g_mark_at]
      simp only [gbW]
      rw [if_neg (by rw [rMarked_0 h21]; decide)]
    refine ⟨nI k, rMarked 1 st, hbad _ _ (by rw [rMarked_0 h21]; decide) hb, Or.inr ⟨rMarked_0 h21, ne_0 (by decide), hX.mark 1⟩, fun j _ _ h => (rRd.mark st 1).1 j h⟩
  | cons t ts =>
    rw [hx] at hV
    have hVle := hV.le
    rw [List.length_cons] at hVle
    obtain ⟨K', rfl, hL'⟩ := wLoop_take hL hx (by rw [hTk]; rfl)
    have hwt : wTake C = dGo (aPi (aPl C 0 ts) 3 0) t := by
      unfold wTake
      rw [hx]
      dsimp only
      rw [if_neg (by rw [h10]; decide)]
    rw [hwt] at hL'
    have hinv : (dGo (aPi (aPl C 0 ts) 3 0) t).1 = 0 → wInv (dGo (aPi (aPl C 0 ts) 3 0) t).2 := fun hz => by
      obtain ⟨w1, w2, w3, w4⟩ := hw.take hx
      exact (dGo_inv w1 (by show C.1 10 ≠ 0; rw [h10]; decide) w2 w4 hz).1
    have hdg : dGo (aPi (aPl C 0 ts) 3 0) t = dGoB ((dRows (aPi (aPl C 0 ts) 3 0) t).1, aPi (dRows (aPi (aPl C 0 ts) 3 0) t).2 2 ((dRows (aPi (aPl C 0 ts) 3 0) t).2.1 12)) := by
      unfold dGo dAcc
      rw [if_neg (show ¬ (aPi (aPl C 0 ts) 3 0).1 10 = 1 by show ¬ C.1 10 = 1; rw [h10]; decide), if_pos (show (aPi (aPl C 0 ts) 3 0).1 10 = 2 from h10)]
    have hnm : C.1 2 = C.1 12 := hw.2.2.2.2.2.2.2.2.2.2.1 (Or.inl h10)
    have hXC : RX st (aPi (aPl C 0 ts) 3 0) := (hX.pl 0 ts (by omega)).pi 3 0 (by decide)
    have hX2 : ∀ (st' : rS) (B : aS), RX st' B → B.1 2 = B.1 12 → RX st' (aPi B 2 (B.1 12)) := fun st' B h hb => h.to _ (rK.rf _) (by rw [h.2.1]; rfl) (by rw [h.2.2.1, hb]; rfl) h.2.2.2.1 (fun j hj => by simp only [aPi, upd]; rw [if_neg (by omega)]) (fun _ _ => rfl) rfl
    have hget : g_get 0 st = some t := hV.get (k := 0) rfl
    have hhead : g_defines_b90 n x1 x2 0 (nI k, 1) st = if t = 258 then g_defines_j167 n x1 x2 (nI k) 0 1 st else if tPar t = true then (if t = 311 + nI k then (if nI k = 9 then g_defines_j167 n x1 x2 (nI k) 0 1 st else g_defines_j176 n x1 x2 (nI k) 0 1 t st) else g_defines_j167 n x1 x2 (nI k) 0 1 st) else g_defines_j176 n x1 x2 (nI k) 0 1 t st := by
      unfold g_defines_b90 g_defines_j118
      dsimp only
      rw [if_neg (by decide), if_pos h21, hV.size, List.length_cons, if_neg (nI_nle (by omega) (by omega)), hget, Option.bind_some, if_neg (nI_ne0 (by omega) (by omega)), g_isParameter_at, Option.bind_some, b01_if]
    have h167 : g_defines_j167 n x1 x2 (nI k) 0 1 st = some (.inl (nI k, 1), rMarked 6 st) := by
      unfold g_defines_j167 g_defines_j254 g_defines_j267
      rw [show g_mark 6 st = some ((), rMarked 6 st) from g_mark_at]
      simp only [gbW]
      rw [if_neg (by rw [rMarked_0 h21]; decide)]
    have hfault6 : res = (6, aPi (aPi (aPl C 0 ts) 3 0) 2 (C.1 12)) → g_defines_b90 n x1 x2 0 (nI k, 1) st = some (.inl (nI k, 1), rMarked 6 st) → ∃ x st', gloopW (g_defines_b90 n x1 x2 0) (m2 + 1 + 1) (nI k, 1) st = some (x, st') ∧ rOutR (K' + 1) k C0 res x st' ∧ (∀ j, j ≠ 2 → j ≠ 3 → j ≠ 21 → st'.1 j = st.1 j) := by
      intro hr hb
      subst hr
      exact ⟨nI k, rMarked 6 st, hbad _ _ (by rw [rMarked_0 h21]; decide) hb, Or.inr ⟨rMarked_0 h21, ne_0 (by decide), (hX2 st _ hXC hnm).mark 6⟩, fun j _ _ h => (rRd.mark st 6).1 j h⟩
    -- a token is taken and the loop goes on
    have hgo : ∀ (k2 : Nat) (s : rS) (B : aS) (y : Int32), k2 ≤ 9 → RX s B → RV s (t :: ts) → s.1 21 = 0 → RDf s B → (∀ j, j ≠ 21 → s.1 j = st.1 j) → B.2.1 0 = ts → B.1 3 = 0 → B.1 2 = B.1 12 → B.1 13 = nI k2 → B.1 11 = C0.1 11 → B.1 12 = C0.1 12 → B.2.1 410 = C0.2.1 410 → B.1 14 = C0.1 14 → wInv (aPi B 2 (B.1 12)) → wLoop 230000 K' (0, aPi B 2 (B.1 12)) = some res → g_defines_b90 n x1 x2 0 (nI k, 1) st = g_defines_j254 n x1 x2 (nI k2) 0 y s → ((y = 1 ∧ B.1 10 = 2) ∨ (y = 0 ∧ B.1 10 = 3)) → ∃ x st', gloopW (g_defines_b90 n x1 x2 0) (m2 + 1 + 1) (nI k, 1) st = some (x, st') ∧ rOutR (K' + 1) k C0 res x st' ∧ (∀ j, j ≠ 2 → j ≠ 3 → j ≠ 21 → st'.1 j = st.1 j) := by
      intro k2 s B y hk2 hXs hVs hs21 hDs hsi hB0 hB3 hB2 hB13 hB11 hB12 hB410 hB14 hwB hLB hb hy
      obtain ⟨s2, e2, V2, X2, f2, q2⟩ := RW.take (n := n) hVs hXs hn
      have hb2 : g_defines_b90 n x1 x2 0 (nI k, 1) st = some (.inl (nI k2, y), s2) := by
        rw [hb]
        unfold g_defines_j254 g_defines_j267
        dsimp only
        rw [if_pos hs21, e2]
        rfl
      have X3 : RX s2 (aPi B 2 (B.1 12)) := hX2 s2 B X2 hB2
      have D3 : RDf s2 (aPi B 2 (B.1 12)) := fun r hr => by
        rw [q2 20 (by decide), q2 19 (by decide)]
        exact hDs r hr
      have h21' : s2.1 21 = 0 := (f2 21 (by decide) (by decide)).trans hs21
      have hfi : ∀ j, j ≠ 2 → j ≠ 3 → j ≠ 21 → s2.1 j = st.1 j := fun j h2 h3 h4 => (f2 j h2 h3).trans (hsi j h4)
      rcases hy with ⟨rfl, hst⟩ | ⟨rfl, hst⟩
      · obtain ⟨x, st', eg, ho, hf⟩ := ih K' (by omega) (m2 + 1) k2 s2 (aPi B 2 (B.1 12)) X3 (by rw [show (aPi B 2 (B.1 12)).2.1 0 = ts from hB0]; exact V2) h21' hB3 D3 hwB hst hB13 hk2 hB11 hB12 hB410 hB14 (by omega) hLB
        refine ⟨x, st', by simp only [gloopW, gbW, hb2]; exact eg, ?_, fun j h2 h3 h4 => (hf j h2 h3 h4).trans (hfi j h2 h3 h4)⟩
        rcases ho with ⟨w1, C', k', K2, w2, w3⟩ | w
        · exact Or.inl ⟨w1, C', k', K2, by omega, w3⟩
        · exact Or.inr w
      · have h3' : g_defines_b90 n x1 x2 0 (nI k2, 0) s2 = some (.inr (nI k2), s2) := by
          unfold g_defines_b90
          dsimp only
          rw [if_pos rfl]
        refine ⟨nI k2, s2, by simp [gloopW, gbW, hb2, h3'], Or.inl ⟨h21', aPi B 2 (B.1 12), k2, K', by omega, rfl, hk2, X3, by rw [show (aPi B 2 (B.1 12)).2.1 0 = ts from hB0]; exact V2, hB3, D3, hwB, hst, hB13, hB11, hB12, hB410, hB14, hLB⟩, hfi⟩
    have hDC : RDf st (aPi (aPl C 0 ts) 3 0) := fun r hr => by
      rw [show (aPi (aPl C 0 ts) 3 0).2.1 (400 + r) = C.2.1 (400 + r) from va_up_ne _ _ (show 400 + r ≠ 0 by omega)]
      exact hD r hr
    rw [hdg] at hL' hinv
    unfold dRows at hL' hinv
    have e13 : (aPi (aPl C 0 ts) 3 0).1 13 = nI k := h13
    rw [e13] at hL' hinv
    by_cases h257 : t = 257
    · rw [if_pos h257] at hL' hinv
      have hGB : dGoB (((0 : Int32), aPi (aPi (aPl C 0 ts) 3 0) 10 3).1, aPi ((0 : Int32), aPi (aPi (aPl C 0 ts) 3 0) 10 3).2 2 (((0 : Int32), aPi (aPi (aPl C 0 ts) 3 0) 10 3).2.1 12)) = (0, aPi (aPi (aPi (aPl C 0 ts) 3 0) 10 3) 2 ((aPi (aPi (aPl C 0 ts) 3 0) 10 3).1 12)) := dGoB_ok (show ¬ (3 : Int32) = 4 by decide)
      rw [hGB] at hL' hinv
      refine hgo k st (aPi (aPi (aPl C 0 ts) 3 0) 10 3) 0 hk (hXC.pi 10 3 (by decide)) hV h21 hDC (fun _ _ => rfl) rfl rfl hnm h13 c11 c12 c410 c14 (hinv rfl) hL' ?_ (Or.inr ⟨rfl, rfl⟩)
      rw [hhead, if_neg (by rw [h257]; decide), if_neg (by rw [h257]; decide)]
      unfold g_defines_j176
      rw [if_pos h257]
    · rw [if_neg h257] at hL' hinv
      by_cases h258 : t = 258
      · rw [if_pos h258] at hL'
        refine hfault6 ?_ (by rw [hhead, if_pos h258, h167])
        have : dGoB (((6 : Int32), aPi (aPl C 0 ts) 3 0).1, aPi ((6 : Int32), aPi (aPl C 0 ts) 3 0).2 2 (((6 : Int32), aPi (aPl C 0 ts) 3 0).2.1 12)) = (6, aPi (aPi (aPl C 0 ts) 3 0) 2 (C.1 12)) := dGoB_bad (c := 6) (by decide)
        rw [this] at hL'
        exact wLoop_c hL' (by decide)
      · rw [if_neg h258] at hL' hinv
        rw [if_neg h258] at hhead
        cases htp : tPar t with
        | true =>
          rw [htp, if_pos rfl] at hL' hinv hhead
          by_cases hna : nI (tArg t) = nI k + 1
          · rw [if_pos hna] at hL' hinv
            have hpn := (par_next hk htp).mp hna
            rw [if_pos hpn.1, if_neg hpn.2] at hhead
            have hk8 : k + 1 ≤ 9 := by
              have := (nI_eq (by have := tArg_le t; omega) (by omega)).mp (hna.trans (nI_1 k))
              have := tArg_le t
              omega
            have hGB : dGoB (((0 : Int32), aPi (aPi (aPl C 0 ts) 3 0) 13 (nI k + 1)).1, aPi ((0 : Int32), aPi (aPi (aPl C 0 ts) 3 0) 13 (nI k + 1)).2 2 (((0 : Int32), aPi (aPi (aPl C 0 ts) 3 0) 13 (nI k + 1)).2.1 12)) = (0, aPi (aPi (aPi (aPl C 0 ts) 3 0) 13 (nI k + 1)) 2 ((aPi (aPi (aPl C 0 ts) 3 0) 13 (nI k + 1)).1 12)) := dGoB_ok (show ¬ C.1 10 = 4 by rw [h10]; decide)
            rw [hGB] at hL' hinv
            refine hgo (k + 1) st (aPi (aPi (aPl C 0 ts) 3 0) 13 (nI k + 1)) 1 hk8 (hXC.pi 13 _ (by decide)) hV h21 hDC (fun _ _ => rfl) rfl rfl hnm (nI_1 k) c11 c12 c410 c14 (hinv rfl) hL' ?_ (Or.inl ⟨rfl, h10⟩)
            rw [hhead]
            unfold g_defines_j176
            rw [if_neg h257, g_isParameter_at, htp, Option.bind_some, if_neg (by decide), nI_1]
          · rw [if_neg hna] at hL'
            have hpn : ¬ (t = 311 + nI k ∧ nI k ≠ 9) := fun q => hna ((par_next hk htp).mpr q)
            refine hfault6 ?_ ?_
            · have : dGoB (((6 : Int32), aPi (aPl C 0 ts) 3 0).1, aPi ((6 : Int32), aPi (aPl C 0 ts) 3 0).2 2 (((6 : Int32), aPi (aPl C 0 ts) 3 0).2.1 12)) = (6, aPi (aPi (aPl C 0 ts) 3 0) 2 (C.1 12)) := dGoB_bad (c := 6) (by decide)
              rw [this] at hL'
              exact wLoop_c hL' (by decide)
            · rw [hhead]
              by_cases hq : t = 311 + nI k
              · rw [if_pos hq, if_pos (by
                  by_cases h9 : nI k = 9
                  · exact h9
                  · exact absurd ⟨hq, h9⟩ hpn), h167]
              · rw [if_neg hq, h167]
        | false =>
          rw [htp, if_neg (by decide)] at hL' hinv hhead
          rw [nI_clamp (show k < 2 ^ 31 by omega)] at hL' hinv
          unfold dAdd at hL' hinv
          have e40 : (aPi (aPl C 0 ts) 3 0).2.1 (400 + k) = C.2.1 (400 + k) := va_up_ne _ _ (show 400 + k ≠ 0 by omega)
          rw [e40] at hL' hinv
          obtain ⟨d1, d2, d3⟩ := hD k (by omega)
          have h176 : g_defines_b90 n x1 x2 0 (nI k, 1) st = if nI (C.2.1 (400 + k)).length = 200 then gbW (g_mark 8 st) fun _ h219 => g_defines_j254 n x1 x2 (nI k) 0 1 h219 else (rset st 19 2000 (((200 : Int32) * nI k) + nI (C.2.1 (400 + k)).length) t).bind fun h243 => (rget h243 20 10 (nI k)).bind fun v250 => (rset h243 20 10 (nI k) (v250 + (1 : Int32))).bind fun h253 => g_defines_j254 n x1 x2 (nI k) 0 1 h253 := by
            rw [hhead]
            unfold g_defines_j176
            rw [if_neg h257, g_isParameter_at, htp, Option.bind_some, if_pos (by decide), rget_at (by omega) (by decide), Option.bind_some, d1, Option.bind_some]
          by_cases hfl : (C.2.1 (400 + k)).length < 200
          · rw [if_pos hfl] at hL' hinv
            have hGB : dGoB (((0 : Int32), aPl (aPi (aPl C 0 ts) 3 0) (400 + k) (C.2.1 (400 + k) ++ [t])).1, aPi ((0 : Int32), aPl (aPi (aPl C 0 ts) 3 0) (400 + k) (C.2.1 (400 + k) ++ [t])).2 2 (((0 : Int32), aPl (aPi (aPl C 0 ts) 3 0) (400 + k) (C.2.1 (400 + k) ++ [t])).2.1 12)) = (0, aPi (aPl (aPi (aPl C 0 ts) 3 0) (400 + k) (C.2.1 (400 + k) ++ [t])) 2 ((aPl (aPi (aPl C 0 ts) 3 0) (400 + k) (C.2.1 (400 + k) ++ [t])).1 12)) := dGoB_ok (show ¬ C.1 10 = 4 by rw [h10]; decide)
            rw [hGB] at hL' hinv
            rw [if_neg (show ¬ nI (C.2.1 (400 + k)).length = (200 : Int32) from fun q => by
              have := (nI_eq (b := 200) (by omega) (by decide)).mp q
              omega), show (200 : Int32) = nI 200 from rfl, pk_mul, nI_add, rset_at (by omega) (by decide), Option.bind_some, rget_at (by omega) (by decide), Option.bind_some, show ((st.1, fun q => if q = 19 then upd (st.2 19) (200 * k + (C.2.1 (400 + k)).length) t else st.2 q) : rS).2 20 k = nI (C.2.1 (400 + k)).length from d1, nI_1, rset_at (by omega) (by decide), Option.bind_some] at h176
            refine hgo k (st.1, fun q => if q = 20 then upd (st.2 20) k (nI ((C.2.1 (400 + k)).length + 1)) else if q = 19 then upd (st.2 19) (200 * k + (C.2.1 (400 + k)).length) t else st.2 q) (aPl (aPi (aPl C 0 ts) 3 0) (400 + k) (C.2.1 (400 + k) ++ [t])) 1 hk (((hXC.pl (400 + k) _ (by omega)).k ⟨fun _ _ => rfl, fun j h1 h2 => ?_⟩ rfl rfl rfl rfl)) (hV.same rfl rfl rfl) h21 (fun r hr => ?_) (fun _ _ => rfl) ?_ rfl hnm h13 c11 c12 ?_ c14 (hinv rfl) hL' h176 (Or.inl ⟨rfl, h10⟩)
            · show (if j = 20 then _ else if j = 19 then _ else st.2 j) = st.2 j
              rw [if_neg (by omega), if_neg (by omega)]
            · show upd (st.2 20) k (nI ((C.2.1 (400 + k)).length + 1)) r = nI ((va_up (aPi (aPl C 0 ts) 3 0).2.1 (400 + k) (C.2.1 (400 + k) ++ [t])) (400 + r)).length ∧ ((va_up (aPi (aPl C 0 ts) 3 0).2.1 (400 + k) (C.2.1 (400 + k) ++ [t])) (400 + r)).length ≤ 200 ∧ ∀ (i : Nat) (u : Int32), ((va_up (aPi (aPl C 0 ts) 3 0).2.1 (400 + k) (C.2.1 (400 + k) ++ [t])) (400 + r))[i]? = some u → upd (st.2 19) (200 * k + (C.2.1 (400 + k)).length) t (200 * r + i) = u
              by_cases hrk : r = k
              · subst hrk
                rw [upd_same, va_up_self, List.length_append]
                refine ⟨rfl, hfl, fun i u hi => ?_⟩
                by_cases hil : i < (C.2.1 (400 + r)).length
                · rw [List.getElem?_append_left hil] at hi
                  rw [upd_other (by omega)]
                  exact d3 i u hi
                · rw [List.getElem?_append_right (by omega)] at hi
                  have hi0 : i = (C.2.1 (400 + r)).length := by
                    have := (List.getElem?_eq_some_iff.mp hi).1
                    simp at this
                    omega
                  rw [hi0, upd_same]
                  exact (List.mem_singleton.mp (List.mem_of_getElem? hi)).symm
              · rw [upd_other hrk, va_up_ne _ _ (by omega)]
                obtain ⟨y1, y2, y3⟩ := hDC r hr
                refine ⟨y1, y2, fun i u hi => ?_⟩
                have hil := (List.getElem?_eq_some_iff.mp hi).1
                rw [upd_other (by omega)]
                exact y3 i u hi
            · show va_up (aPi (aPl C 0 ts) 3 0).2.1 (400 + k) _ 0 = ts
              rw [va_up_ne _ _ (by omega)]
              rfl
            · show va_up (aPi (aPl C 0 ts) 3 0).2.1 (400 + k) _ 410 = _
              rw [va_up_ne _ _ (by omega)]
              exact c410
          · rw [if_neg hfl] at hL'
            have hr : res = (8, aPi (aPi (aPl C 0 ts) 3 0) 2 (C.1 12)) := by
              have : dGoB (((8 : Int32), aPi (aPl C 0 ts) 3 0).1, aPi ((8 : Int32), aPi (aPl C 0 ts) 3 0).2 2 (((8 : Int32), aPi (aPl C 0 ts) 3 0).2.1 12)) = (8, aPi (aPi (aPl C 0 ts) 3 0) 2 (C.1 12)) := dGoB_bad (c := 8) (by decide)
              rw [this] at hL'
              exact wLoop_c hL' (by decide)
            subst hr
            rw [if_pos (show nI (C.2.1 (400 + k)).length = (200 : Int32) by rw [show (C.2.1 (400 + k)).length = 200 by omega]; rfl), show g_mark 8 st = some ((), rMarked 8 st) from g_mark_at] at h176
            simp only [gbW] at h176
            have hb : g_defines_b90 n x1 x2 0 (nI k, 1) st = some (.inl (nI k, 1), rMarked 8 st) := by
              rw [h176]
              unfold g_defines_j254 g_defines_j267
              dsimp only
              rw [if_neg (by rw [rMarked_0 h21]; decide)]
            exact ⟨nI k, rMarked 8 st, hbad _ _ (by rw [rMarked_0 h21]; decide) hb, Or.inr ⟨rMarked_0 h21, ne_0 (by decide), (hX2 st _ hXC hnm).mark 8⟩, fun j _ _ h => (rRd.mark st 8).1 j h⟩
