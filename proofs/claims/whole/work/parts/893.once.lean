/-! THE CLASS'S TURNS ARE THE MACHINE'S -/
theorem c_turn {n x nx i : Nat} {o : oT} {h : hH} {cp : Nat → Nat} {A : aS} (hQ : cQ x o nx h cp A) (hi : aInv A) (h0 : 0 < (A.2.1 8).length) (hb : i < 1000000) (hn : 7000 < n) : ∃ (dn ds : Nat) (cp' : Nat → Nat) (o' : oT) (h' : hH), f_Expander_expandOnce_b7 n (x + 30) (0, nI i) nx h = some (.inl ((eTurn A).1, nI (i + 1)), dn, ds, h') ∧ Fr cWf o o' h h' ∧ cAcc cp cp' dn ds ∧ cQr x o' (nx + dn) h' cp' (eTurn A) := by
  have hE := hQ.2.2.2.1
  have e := hE.eo.1
  have hlen := hE.len
  obtain ⟨t, ht, htl⟩ := getLast_of h0
  have htop : aTop A = t := by
    unfold aTop
    rw [htl]
    rfl
  have hasd : haI h (x + 55) 0 (nI ((A.2.1 8).length - 1)) = some t := by
    obtain ⟨f, s, g, p0, p1, p2, p3, t1, t2, t3, hl, r⟩ := hE
    rw [kA_get p1 (by omega) (by decide), (r _ _ ht).1]
  obtain ⟨E1, F1⟩ := hE.up (aPi A 4 0) (v := k5 (A.1 0) (x + 28) (x + 1) (x + 25) (x + 31) (x + 35) (x + 55) (x + 56) (x + 57) (nI (A.2.1 8).length) 0 (A.1 3) (A.1 1) (A.1 2)) rfl (fun _ _ _ => rfl) rfl
  have Q1 : cQ x o nx _ cp (aPi A 4 0) := hQ.mk F1 (fun l hl => by show ¬ l = 4; omega) (fun _ _ => rfl) rfl rfl rfl (hQ.2.2.1.fr F1 (by decide)) E1 (hQ.2.2.2.2.1.fr F1 (by decide))
  have F1m : Fr cWf o o h _ := F1.mono (fun l q => Or.inr (Or.inr (Or.inr (Or.inl q))))
  generalize hh1 : va_up h (x + 30) (k5 (A.1 0) (x + 28) (x + 1) (x + 25) (x + 31) (x + 35) (x + 55) (x + 56) (x + 57) (nI (A.2.1 8).length) 0 (A.1 3) (A.1 1) (A.1 2)) = h1 at E1 F1 Q1 F1m
  have e1 := E1.eo.1
  have hj88 : ∀ (y : Int32), (y = 0 ↔ t ≠ -1) → ∃ (h' : hH), f_Expander_expandOnce_j88 n (x + 30) (nI i) y nx h1 = some (.inl ((if decide (aTop A = -1) = true then eGo (aPi A 4 0) else eBack (aPi A 4 0)).1, nI (i + 1)), 0, 0, h') ∧ Fr cWf o o h h' ∧ cQr x o nx h' cp (if decide (aTop A = -1) = true then eGo (aPi A 4 0) else eBack (aPi A 4 0)) := by
    intro y hy
    unfold f_Expander_expandOnce_j88 f_Expander_expandOnce_j103 f_Expander_expandOnce_j104
    by_cases hm : t = -1
    · rw [if_neg (fun q => (hy.mp q) hm), k5_o e1, Option.bind_some, if_pos (decide_eq_true (htop.trans hm))]
      obtain ⟨h2, e2, F2, Q2⟩ := c_goOn (n := n) Q1 h0 (htop.trans hm) (by omega)
      rw [e2]
      simp only [hbW]
      rw [nI_1]
      exact ⟨h2, rfl, F1m.tr F2, Q2⟩
    · rw [if_pos (hy.mpr hm), k5_o e1, Option.bind_some, if_neg (fun q => hm (htop.symm.trans (of_decide_eq_true q)))]
      obtain ⟨h2, e2, F2, Q2⟩ := c_putBack Q1 h0
      rw [e2]
      simp only [hbW]
      rw [nI_1]
      exact ⟨h2, rfl, F1m.tr F2, Q2⟩
  have hj61 : ∀ (y z : Int32), (y = 0 ↔ t ≠ -1) → (z = 0 ↔ ¬ (decide (aTop A = -1) || !(decide (A.1 4 = 0))) = true) → ∃ (dn ds : Nat) (cp' : Nat → Nat) (o' : oT) (h' : hH), f_Expander_expandOnce_j61 n (x + 30) (nI i) y z nx h = some (.inl ((eTurn A).1, nI (i + 1)), dn, ds, h') ∧ Fr cWf o o' h h' ∧ cAcc cp cp' dn ds ∧ cQr x o' (nx + dn) h' cp' (eTurn A) := by
    intro y z hy hz
    unfold f_Expander_expandOnce_j61 eTurn eTurnB
    rw [k5_z10 e 0 (Or.inl rfl), Option.bind_some, hh1]
    by_cases hw : (decide (aTop A = -1) || !(decide (A.1 4 = 0))) = true
    · rw [if_neg (fun q => (hz.mp q) hw), hw, Bool.true_and, k5_o e1, Option.bind_some, c_can Q1 hi.1, Option.bind_some]
      cases hcan : aCan (aPi A 4 0) with
      | true =>
        have hne : (aPi A 4 0).2.1 0 ≠ [] := by
          intro q
          unfold aCan at hcan
          rw [q] at hcan
          simp at hcan
        rw [if_neg (by decide), if_pos rfl, Option.bind_some]
        obtain ⟨dn, ds, cp', o', h2, e2, F2, C2, Q2⟩ := c_first (n := n) Q1 hi.1 hi.2.1 hi.2.2.1 hne hn
        refine ⟨dn, ds, cp', o', h2, ?_, F1m.tr F2, C2, Q2⟩
        rw [e2]
        unfold f_Expander_expandOnce_j104
        simp only [hbind]
        rw [nI_1]
        simp
      | false =>
        rw [if_pos (by decide), if_neg (by decide)]
        obtain ⟨h2, e2, F2, Q2⟩ := hj88 y hy
        exact ⟨0, 0, cp, o, h2, e2, F2, cAcc.rf _, Q2⟩
    · have hw' : (decide (aTop A = -1) || !(decide (A.1 4 = 0))) = false := by
        cases hq : (decide (aTop A = -1) || !(decide (A.1 4 = 0)))
        · rfl
        · exact absurd hq hw
      rw [if_pos (hz.mpr hw), hw', Bool.false_and, if_neg (by decide)]
      obtain ⟨h2, e2, F2, Q2⟩ := hj88 y hy
      exact ⟨0, 0, cp, o, h2, e2, F2, cAcc.rf _, Q2⟩
  unfold f_Expander_expandOnce_b7
  dsimp only
  rw [if_neg (show ¬ (1000000 : Int32) ≤ _ from nI_ge (b := 1000000) hb (by decide)), if_pos rfl, k5_g9 e, Option.bind_some, if_neg (nI_nle h0 (by omega)), k5_g6 e]
  simp only [Option.bind_some]
  rw [show nI (A.2.1 8).length - 1 = nI ((A.2.1 8).length - 1) from pk_sub (b := 1) (by omega), hasd, Option.bind_some]
  unfold f_Expander_expandOnce_j44 f_Expander_expandOnce_j56
  by_cases hm : t = -1
  · rw [if_pos hm, if_neg (by decide)]
    exact hj61 1 1 ⟨fun q => absurd q (by decide), fun q => absurd hm q⟩ ⟨fun q => absurd q (by decide), fun q => absurd (by rw [decide_eq_true (htop.trans hm)]; rfl) q⟩
  · rw [if_neg hm, if_pos rfl, k5_g10 e, Option.bind_some]
    have hd : decide (aTop A = -1) = false := decide_eq_false (fun q => hm (htop.symm.trans q))
    by_cases h4 : A.1 4 = 0
    · rw [if_pos h4]
      exact hj61 0 0 ⟨fun _ => hm, fun _ => rfl⟩ ⟨fun _ => by rw [hd, decide_eq_true h4]; decide, fun _ => rfl⟩
    · rw [if_neg h4]
      exact hj61 0 1 ⟨fun _ => hm, fun _ => rfl⟩ ⟨fun q => absurd q (by decide), fun q => absurd (by rw [decide_eq_false h4]; simp) q⟩
theorem c_loop {n x : Nat} (hn : 7000 < n) {res : Int32 × aS} : ∀ (N n' i nx : Nat) (o : oT) (h : hH) (cp : Nat → Nat) (r : Int32 × aS), cQr x o nx h cp r → (r.1 = 0 → aInv r.2) → i + N ≤ 1000000 → N ≤ n' → eLoop N r = some res → ∃ (dn ds : Nat) (cp' : Nat → Nat) (o' : oT) (h' : hH), hloopA (f_Expander_expandOnce_b7 n (x + 30)) n' (r.1, nI i) nx h = some (res.1, dn, ds, h') ∧ Fr cWf o o' h h' ∧ cAcc cp cp' dn ds ∧ cQr x o' (nx + dn) h' cp' res
  | 0, _, _, _, _, _, _, _, _, _, _, _, h => by simp [eLoop] at h
  | N + 1, n', i, nx, o, h, cp, r, hQ, hi, hb, hn', hL => by
    obtain ⟨n2, rfl⟩ : ∃ n2, n' = n2 + 1 := ⟨n' - 1, by omega⟩
    simp only [eLoop] at hL
    by_cases h1 : r.1 = 0
    · rw [if_pos h1] at hL
      have hQ0 := hQ.1 h1
      have hE := hQ0.2.2.2.1
      have e := hE.eo.1
      by_cases h8 : (r.2.2.1 8).length = 0
      · rw [if_pos h8] at hL
        cases hL
        refine ⟨0, 0, cp, o, h, ?_, Fr.rf _ _ _, cAcc.rf _, hQ⟩
        have hbd : f_Expander_expandOnce_b7 n (x + 30) (res.1, nI i) nx h = some (.inr res.1, 0, 0, h) := by
          unfold f_Expander_expandOnce_b7
          dsimp only
          rw [if_neg (show ¬ (1000000 : Int32) ≤ _ from nI_ge (b := 1000000) (by omega) (by decide)), if_pos h1, k5_g9 e, Option.bind_some, h8, if_pos (by decide)]
        simp [hloopA, hbind, hbd]
      · rw [if_neg h8] at hL
        obtain ⟨dn, ds, cp1, o1, h2, e2, F2, C2, Q2⟩ := c_turn (n := n) hQ0 (hi h1) (by omega) (show i < 1000000 by omega) hn
        obtain ⟨dn2, ds2, cp2, o2, h3, e3, F3, C3, Q3⟩ := c_loop hn N n2 (i + 1) (nx + dn) o1 h2 cp1 (eTurn r.2) Q2 (fun hz => (eTurn_inv (hi h1) (by omega) hz).1) (by omega) (by omega) hL
        refine ⟨dn + dn2, ds + ds2, cp2, o2, h3, ?_, F2.tr F3, C2.tr C3, by rw [← Nat.add_assoc]; exact Q3⟩
        rw [h1]
        simp [hloopA, hbind, e2, e3]
    · rw [if_neg h1] at hL
      cases hL
      refine ⟨0, 0, cp, o, h, ?_, Fr.rf _ _ _, cAcc.rf _, hQ⟩
      have hbd : f_Expander_expandOnce_b7 n (x + 30) (res.1, nI i) nx h = some (.inr res.1, 0, 0, h) := by
        unfold f_Expander_expandOnce_b7
        dsimp only
        rw [if_neg (show ¬ (1000000 : Int32) ≤ _ from nI_ge (b := 1000000) (by omega) (by decide)), if_neg h1]
      simp [hloopA, hbind, hbd]
theorem c_once {n x nx N : Nat} {o : oT} {h : hH} {cp : Nat → Nat} {A : aS} {res : Int32 × aS} (hQ : cQ x o nx h cp A) (hi : aInv A) (hne : A.2.1 0 ≠ []) (hN : N ≤ 1000000) (hn : 1000000 < n) (hL : eOnce N A = some res) : ∃ (dn ds : Nat) (cp' : Nat → Nat) (o' : oT) (h' : hH), f_Expander_expandOnce n (x + 30) nx h = some (res.1, dn, ds, h') ∧ Fr cWf o o' h h' ∧ cAcc cp cp' dn ds ∧ cQr x o' (nx + dn) h' cp' res := by
  have e := hQ.2.2.2.1.eo.1
  obtain ⟨dn, ds, cp1, o1, h1, e1, F1, C1, Q1⟩ := c_first (n := n) hQ hi.1 hi.2.1 hi.2.2.1 hne (by omega)
  obtain ⟨dn2, ds2, cp2, o2, h2, e2, F2, C2, Q2⟩ := c_loop (n := n) (by omega) N n 0 (nx + dn) o1 h1 cp1 (eFirst A) Q1 (fun hz => (eFirst_inv hi hz).1) (by omega) (by omega) hL
  refine ⟨dn + dn2, ds + ds2, cp2, o2, h2, ?_, F1.tr F2, C1.tr C2, by rw [← Nat.add_assoc]; exact Q2⟩
  unfold f_Expander_expandOnce
  rw [k5_o e, Option.bind_some, e1]
  simp only [hbind]
  rw [show (0 : Int32) = nI 0 from rfl, e2]
  simp
