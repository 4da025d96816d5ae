/-! THE WHOLE EXPANSION'S TURNS: the class -/
theorem c_takes {x : Nat} {o : oT} {h : hH} {A : aS} (hD : cDo x o h A) : f_Definition_takesTokensAsTheyAre (x + 59) h = some (b01 (wTakes A)) := by
  have e := hD.obj
  unfold f_Definition_takesTokensAsTheyAre f_Definition_isUnderWay wTakes
  rw [k4_o e, Option.bind_some, k4_g2 e, Option.bind_some]
  by_cases h0 : A.1 10 = 0
  · rw [if_pos h0, decide_eq_true h0]
    rfl
  · rw [if_neg h0, decide_eq_false h0, Option.bind_some, if_neg (by decide), Option.bind_some]
    by_cases h3 : A.1 10 = 3
    · rw [if_pos h3, decide_eq_true h3, k4_g3 e, Option.bind_some]
      by_cases h11 : A.1 11 = 0
      · rw [if_pos h11, decide_eq_true h11]
        rfl
      · rw [if_neg h11, decide_eq_false h11]
        rfl
    · rw [if_neg h3, decide_eq_false h3]
      rfl
theorem c_under {x : Nat} {o : oT} {h : hH} {A : aS} (hD : cDo x o h A) : f_Definition_isUnderWay (x + 59) h = some (if A.1 10 = 0 then 0 else 1) := by
  unfold f_Definition_isUnderWay
  rw [k4_g2 hD.obj, Option.bind_some]
  split <;> rfl
theorem c_takeP {x nx : Nat} {o : oT} {h : hH} {cp : Nat → Nat} {A : aS} {t : Int32} {ts : List Int32} (hP : cP x o nx h cp A) (hx : A.2.1 0 = t :: ts) : ∃ h', f_Expander_takeFirst (x + 30) h = some (t, h') ∧ Fr cWw o o h h' ∧ cP x o nx h' cp (aPi (aPl A 0 ts) 3 0) := by
  obtain ⟨h1, e1, F1, Q1⟩ := c_takeFirst hP.1 hx
  exact ⟨h1, e1, F1.mono (fun l q => by unfold cWw; omega), hP.of (F1.mono (fun l q => Or.inr (Or.inr (by unfold cWn; omega)))) Q1 ((eKeep.l A 0 ts (by omega)).tr (eKeep.i _ 3 0 (by omega))) (fun _ _ => rfl)⟩
theorem cAw.of {cp cp' : Nat → Nat} {A B : aS} {dn ds : Nat} (h : cAcc cp cp' dn ds) (h2 : B.2.1 2 = A.2.1 2) : cAw cp cp' A B dn ds := by
  unfold cAw
  rw [h2]
  have h1 := h.1
  have h3 := h.2.1
  omega
theorem cAw.tr {c1 c2 c3 : Nat → Nat} {A B C : aS} {a b d e : Nat} (h : cAw c1 c2 A B a b) (g : cAw c2 c3 B C d e) : cAw c1 c3 A C (a + d) (b + e) := by
  unfold cAw at *
  omega
/-- one turn -/
theorem c_wturn {n x nx i : Nat} {o : oT} {h : hH} {cp : Nat → Nat} {A : aS} {r : Int32 × aS} (hP : cP x o nx h cp A) (hw : wInv A) (hne : (A.2.1 0).length ≠ 0) (hb : i < 100000000) (hn : 1000000 < n) (hT : wTurn 230000 A = some r) : ∃ (dn ds : Nat) (cp' : Nat → Nat) (o' : oT) (h' : hH), f_Whole_run_b26 n (x + 58) (nI i) nx h = some (if r.1 = 0 then .inl (nI (i + 1)) else .inr (.inl r.1), dn, ds, h') ∧ Fr cWw o o' h h' ∧ cAw cp cp' A r.2 dn ds ∧ cPr x o' (nx + dn) h' cp' r := by
  have eW := hP.2.2.2.1.1
  have hI := hP.1.2.2.1
  have hE := hP.1.2.2.2.1.eo.1
  have eD := hP.2.2.1.1.obj
  have h110 : ∀ (c : Int32) (nx2 : Nat) (h2 : hH), f_Whole_run_j110 n (x + 58) (nI i) c nx2 h2 = some (if c = 0 then .inl (nI (i + 1)) else .inr (.inl c), 0, 0, h2) := by
    intro c nx2 h2
    unfold f_Whole_run_j110
    rw [nI_1]
    split <;> rfl
  have hhead : f_Whole_run_b26 n (x + 58) (nI i) nx h = if b01 (wTakes A) = 0 then (if b01 (aCan A) = 0 then f_Whole_run_j73 n (x + 58) (nI i) nx h else hbind (f_Expander_expandOnce n (x + 30) nx h) nx fun v66 nx66 h66 => f_Whole_run_j110 n (x + 58) (nI i) v66 nx66 h66) else f_Whole_run_j73 n (x + 58) (nI i) nx h := by
    unfold f_Whole_run_b26
    dsimp only
    rw [if_neg (show ¬ (100000000 : Int32) ≤ _ from nI_ge (b := 100000000) hb (by decide)), k11_g0 eW]
    simp only [Option.bind_some]
    rw [hI.obj, Option.bind_some, hI.isEmpty, Option.bind_some, if_neg hne, if_pos rfl, k11_g3 eW]
    simp only [Option.bind_some]
    rw [k4_o eD, Option.bind_some, c_takes hP.2.2.1.1, Option.bind_some, k11_g2 eW]
    simp only [Option.bind_some]
    rw [k5_o hE]
    simp only [Option.bind_some]
    rw [c_can hP.1 hw.1.1, Option.bind_some]
  unfold wTurn at hT
  by_cases hc : (!(wTakes A) && aCan A) = true
  · rw [if_pos hc] at hT
    rw [Bool.and_eq_true, Bool.not_eq_true'] at hc
    rw [hhead, hc.1, hc.2, if_pos (by decide), if_neg (by decide)]
    obtain ⟨dn, ds, cp', o', h', e1, F1, C1, Q1⟩ := c_once (n := n) (N := 230000) hP.1 hw.1 (fun q => hne (by rw [q]; rfl)) (by omega) hn hT
    obtain ⟨hk, -⟩ := eOnce_inv hw.1 hw.2.2.2.1 hT
    refine ⟨dn, ds, cp', o', h', ?_, F1.mono (fun l q => cWf_w q), cAw.of C1 (hk.2.1 2 (by omega)), fun hz => hP.of F1 (Q1.1 hz) hk C1.2.2, fun hz => ?_⟩
    · rw [e1]
      simp only [hbind]
      rw [h110]
      simp
    · obtain ⟨zs, Q2⟩ := Q1.2 hz
      exact ⟨zs, hP.of F1 Q2 (hk.tr (eKeep.l _ 0 zs (by omega))) C1.2.2⟩
  · rw [if_neg hc] at hT
    have hr := (Option.some.inj hT).symm
    subst hr
    have hj73 : f_Whole_run_b26 n (x + 58) (nI i) nx h = f_Whole_run_j73 n (x + 58) (nI i) nx h := by
      rw [hhead]
      cases ht : wTakes A with
      | true => rfl
      | false =>
        rw [if_pos (by decide)]
        cases hca : aCan A with
        | true =>
          rw [ht, hca] at hc
          exact absurd rfl hc
        | false => rfl
    rw [hj73]
    obtain ⟨t, ts, hx⟩ : ∃ t ts, A.2.1 0 = t :: ts := by
      cases hxx : A.2.1 0 with
      | nil =>
        rw [hxx] at hne
        exact absurd rfl hne
      | cons t ts => exact ⟨t, ts, rfl⟩
    obtain ⟨h1, e1, F1, P1⟩ := c_takeP hP hx
    obtain ⟨w1, w2, w3, w4⟩ := hw.take hx
    have eW1 := P1.2.2.2.1.1
    unfold f_Whole_run_j73 wTake
    rw [hx, k11_g3 eW]
    simp only [Option.bind_some]
    rw [k4_o eD, Option.bind_some, c_under hP.2.2.1.1, Option.bind_some, k11_g2 eW]
    simp only [Option.bind_some]
    rw [k5_o hE]
    simp only [Option.bind_some]
    rw [e1]
    simp only [hbW]
    rw [k11_o eW1]
    simp only [Option.bind_some]
    by_cases h0 : A.1 10 = 0
    · rw [if_pos h0, if_pos rfl, if_pos h0]
      obtain ⟨dn, ds, cp', o', h', e2, F2, C2, P2⟩ := c_carry (n := n) (t := t) P1 (by omega)
      refine ⟨dn, ds, cp', o', h', ?_, F1.tr F2, C2, cPr_of P2⟩
      rw [e2]
      simp only [hbind]
      rw [h110]
      simp
    · rw [if_neg h0, if_neg (by decide), if_neg h0]
      obtain ⟨dn, ds, cp', o', h', e2, F2, C2, P2⟩ := c_goDef (n := n) (t := t) P1 w1.1.1 w1.2.1 w1.2.2.2.2.1 h0 w4 (by omega)
      refine ⟨dn, ds, cp', o', h', ?_, F1.tr F2, C2, cPr_of P2⟩
      rw [e2]
      simp only [hbind]
      rw [h110]
      simp
theorem c_wloop {n x : Nat} (hn : 1000000 < n) {res : Int32 × aS} : ∀ (K n' i nx : Nat) (o : oT) (h : hH) (cp : Nat → Nat) (A : aS), cP x o nx h cp A → wInv A → i + K ≤ 100000000 → K ≤ n' → wLoop 230000 K (0, A) = some res → ∃ (b : Int32 ⊕ Unit) (dn ds : Nat) (cp' : Nat → Nat) (o' : oT) (h' : hH), hloopA (f_Whole_run_b26 n (x + 58)) n' (nI i) nx h = some (b, dn, ds, h') ∧ Fr cWw o o' h h' ∧ cAw cp cp' A res.2 dn ds ∧ ((b = .inl res.1 ∧ res.1 ≠ 0 ∧ cPr x o' (nx + dn) h' cp' res) ∨ (b = .inr () ∧ ∃ B, res = wEnd B ∧ cP x o' (nx + dn) h' cp' B ∧ wInv B))
  | 0, _, _, _, _, _, _, _, _, _, _, _, hL => by simp [wLoop] at hL
  | K + 1, n', i, nx, o, h, cp, A, hP, hw, hb, hn', hL => by
    obtain ⟨n2, rfl⟩ : ∃ n2, n' = n2 + 1 := ⟨n' - 1, by omega⟩
    simp only [wLoop] at hL
    rw [if_pos trivial] at hL
    have eW := hP.2.2.2.1.1
    have hI := hP.1.2.2.1
    by_cases h0 : (A.2.1 0).length = 0
    · rw [if_pos h0] at hL
      have hr := (Option.some.inj hL).symm
      subst hr
      refine ⟨.inr (), 0, 0, cp, o, h, ?_, Fr.rf _ _ _, ?_, Or.inr ⟨rfl, A, rfl, hP, hw⟩⟩
      · have hbd : f_Whole_run_b26 n (x + 58) (nI i) nx h = some (.inr (.inr ()), 0, 0, h) := by
          unfold f_Whole_run_b26
          dsimp only
          rw [if_neg (show ¬ (100000000 : Int32) ≤ _ from nI_ge (b := 100000000) (by omega) (by decide)), k11_g0 eW]
          simp only [Option.bind_some]
          rw [hI.obj, Option.bind_some, hI.isEmpty, Option.bind_some, if_pos h0, if_neg (by decide)]
        simp [hloopA, hbind, hbd]
      · unfold cAw
        show 0 + sumN cp 21 + 40 * (A.2.1 2).length ≤ sumN cp 21 + 40 * (A.2.1 2).length ∧ 0 + 4 * sumN cp 21 + 3000 * (A.2.1 2).length ≤ 4 * sumN cp 21 + 3000 * (A.2.1 2).length
        omega
    · rw [if_neg h0] at hL
      obtain ⟨r, hr⟩ := wTurn_ends hw
      rw [hr, Option.bind_some] at hL
      obtain ⟨dn, ds, cp1, o1, h1, e1, F1, C1, P1⟩ := c_wturn (n := n) hP hw h0 (show i < 100000000 by omega) hn hr
      by_cases hz : r.1 = 0
      · rw [if_pos hz] at e1
        have hr0 : r = (0, r.2) := by rw [← hz]
        rw [hr0] at hL
        obtain ⟨b, dn2, ds2, cp2, o2, h2, e2, F2, C2, hres⟩ := c_wloop hn K n2 (i + 1) (nx + dn) o1 h1 cp1 r.2 (P1.1 hz) (wTurn_inv hw h0 hr hz).1 (by omega) (by omega) hL
        refine ⟨b, dn + dn2, ds + ds2, cp2, o2, h2, by simp [hloopA, hbind, e1, e2], F1.tr F2, C1.tr C2, ?_⟩
        rw [← Nat.add_assoc]
        exact hres
      · rw [if_neg hz] at e1
        have hres : res = r := by
          cases K with
          | zero => simp [wLoop] at hL
          | succ K =>
            simp only [wLoop] at hL
            rw [if_neg hz] at hL
            exact (Option.some.inj hL).symm
        subst hres
        exact ⟨.inl res.1, dn, ds, cp1, o1, h1, by simp [hloopA, hbind, e1], F1, C1, Or.inl ⟨rfl, hz, P1⟩⟩
theorem c_run {n x nx K : Nat} {o : oT} {h : hH} {cp : Nat → Nat} {A : aS} {res : Int32 × aS} (hP : cP x o nx h cp A) (hw : wInv (wBegin A)) (hK : K ≤ 100000000) (hn : 100000000 < n) (hL : wLoop 230000 K (0, wBegin A) = some res) : ∃ (dn ds : Nat) (cp' : Nat → Nat) (o' : oT) (h' : hH), f_Whole_run n (x + 58) nx h = some (res.1, dn, ds, h') ∧ Fr cWw o o' h h' ∧ cAw cp cp' A res.2 dn ds ∧ cPr x o' (nx + dn) h' cp' res := by
  have eW := hP.2.2.2.1.1
  obtain ⟨hQ, hX, hD, hW, ht⟩ := id hP
  obtain ⟨fs, ho⟩ := hW.2.2.1.obj
  obtain ⟨h1, e1, R1, F1⟩ := hW.2.2.clear
  have hl1 : ∀ j, j ≠ 1 → (aPl A 1 []).2.1 j = A.2.1 j := fun j hj => va_up_ne _ _ hj
  have P1 : cP x o nx h1 cp (aPl A 1 []) := ⟨hQ.fr F1 hQ.1 (fun l hl => by show ¬ l = 41; omega) (fun _ _ _ => rfl) (fun _ _ => rfl) (fun j hj => hl1 j (by omega)) rfl, hX.fr F1 (by decide) rfl rfl, hD.fr F1 (by decide) (fun l h1 h2 => by show ¬ l = 41; omega) (fun _ _ _ => rfl) (fun j h1 h2 => hl1 j (by omega)) (fun _ _ _ => rfl), ⟨((F1 _ _ hW.2.1).2 (by decide)).trans hW.1, hW.2.1, R1⟩, ht⟩
  have eW1 := P1.2.2.2.1.1
  have eD1 : h1 (x + 59) = k4 (x + 60) (x + 81) (A.1 10) (A.1 11) (A.1 12) (A.1 13) (A.1 14) := P1.2.2.1.1.obj
  obtain ⟨OO2, F2⟩ := P1.2.2.1.1.up (aPi (aPl A 1 []) 10 0) (v := k4 (x + 60) (x + 81) 0 (A.1 11) (A.1 12) (A.1 13) (A.1 14)) rfl
  have P2 : cP x o nx _ cp (aPi (aPl A 1 []) 10 0) := P1.d (F2.mono (fun l q => Or.inl q)) P1.1.1 ⟨OO2, (P1.2.2.1.2.fr F2 (fun l h1 h2 => by show ¬ l = 7; omega)).abs (fun _ _ _ => rfl) (fun _ _ _ => rfl)⟩ (fun _ _ => rfl) (fun j hj => (by simp only [aPi, aPl, aPt, rput, va_up, upd] <;> (repeat rw [if_neg (by omega)]))) (fun _ _ => rfl) rfl
  have eW2 := P2.2.2.2.1.1
  obtain ⟨P3, F3⟩ := P2.w (wBegin A) (v := k11 (x + 28) (x + 1) (x + 30) (x + 59) (x + 83) 0 (-1)) rfl (fun j h1 h2 => by
      show upd (upd (upd A.1 10 0) 8 0) 9 (-1) j = upd A.1 10 0 j
      rw [upd_other h2, upd_other h1]) rfl
  obtain ⟨b, dn, ds, cp', o', h', e4, F4, C4, hres⟩ := c_wloop (n := n) (by omega) K n 0 nx o _ cp (wBegin A) P3 hw (by omega) (by omega) hL
  have hpre : f_Whole_run n (x + 58) nx h = hbind (some (b, dn, ds, h')) nx fun b26 _ h26l => match b26 with
      | .inl z26 => some (z26, 0, 0, h26l)
      | .inr (_) =>
        (hgI h26l (x + 58) 11 5).bind fun v123 =>
        if v123 = 0 then
          (hgR h26l (x + 58) 11 3).bind fun v130 =>
          (v130).bind fun p133 =>
          (hObj h26l p133 4).bind fun c133 =>
          (f_Definition_isUnderWay p133 h26l).bind fun v133 =>
          if v133 = 0 then some ((0 : Int32), 0, 0, h26l) else some ((1 : Int32), 0, 0, h26l)
        else
          some ((1 : Int32), 0, 0, h26l) := by
    unfold f_Whole_run
    rw [k11_g4 eW]
    simp only [Option.bind_some]
    rw [ho, Option.bind_some, e1]
    simp only [hbW]
    rw [k11_g3 eW1]
    simp only [Option.bind_some]
    rw [k4_o eD1, Option.bind_some]
    unfold f_Definition_leave
    rw [k4_p2 eD1, Option.bind_some]
    simp only [hbW]
    rw [k11_p5 eW2, Option.bind_some, k11_p6 (va_up_self _ _ _), Option.bind_some, va_up_up]
    rw [show (hloopA (f_Whole_run_b26 n (x + 58)) n (0 : Int32) nx _) = _ from e4]
    all_goals rfl
  rw [hpre]
  have FF : Fr cWw o o' h h' := (((F1.mono (fun l q => by unfold cWw; omega)).tr (F2.mono (fun l q => by unfold cWw; omega))).tr (F3.mono (fun l q => by unfold cWw; omega))).tr F4
  have CC : cAw cp cp' A res.2 dn ds := C4
  rcases hres with ⟨rfl, hz, P5⟩ | ⟨rfl, B, rfl, P5, -⟩
  · exact ⟨dn, ds, cp', o', h', by simp [hbind], FF, CC, P5⟩
  · have eW5 := P5.2.2.2.1.1
    have eD5 := P5.2.2.1.1.obj
    refine ⟨dn, ds, cp', o', h', ?_, FF, CC, cPr_of P5⟩
    simp only [hbind]
    rw [k11_g5 eW5, Option.bind_some]
    unfold wEnd
    by_cases h8 : B.1 8 = 0
    · rw [if_pos h8, k11_g3 eW5]
      simp only [Option.bind_some]
      rw [k4_o eD5, Option.bind_some, c_under P5.2.2.1.1, Option.bind_some]
      by_cases h10 : B.1 10 = 0
      · rw [if_pos h10, if_pos rfl, if_pos ⟨h8, h10⟩]
        simp
      · rw [if_neg h10, if_neg (by decide), if_neg (fun q => h10 q.2)]
        simp
    · rw [if_neg h8, if_neg (fun q => h8 q.1)]
      simp
