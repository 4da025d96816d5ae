/-! THE LAW'S LOOP -/
theorem hSc_at {L k : Nat} {xs : Nat → Int32} (hk : k < L) (hL : L ≤ 2049) : hSc L xs (nI k) = some (xs k) := by
  unfold hSc
  rw [if_pos (hIn_nI hk (by omega)), nI_clamp (by omega)]
theorem law_end {L i : Nat} (hL : L ≤ 2049) (hi : i ≤ 600) : (nI L - (4 : Int32) < nI (1 + 4 * i)) ↔ L < 5 + 4 * i := by
  rw [Int32.lt_iff_toInt_lt, show (4 : Int32) = nI 4 from rfl, pk_sub_toInt (by omega) (by decide), nI_toInt (by omega)]
  omega
/-- what a call may cost -/
def lAc (cp cp' : Nat → Nat) (A A' : aS) (dn ds : Nat) : Prop := dn + sumN cp 21 + 40 * (A.2.1 2).length ≤ 40 + sumN cp' 21 + 40 * (A'.2.1 2).length ∧ ds + 4 * sumN cp 21 + 3000 * (A.2.1 2).length ≤ 200 + 4 * sumN cp' 21 + 3000 * (A'.2.1 2).length
theorem law_step {n L x nx i : Nat} {xs : Nat → Int32} {st : rS} {o : oT} {h : hH} {cp : Nat → Nat} {A : aS} (hn : 100000000 < n) (hL : L ≤ 2049) (hi : 5 + 4 * i ≤ L) (hp : Pub x nx st o h cp A) : ∃ (dn ds : Nat) (h2 : hH) (st' : rS) (o' : oT) (cp' : Nat → Nat) (A' : aS), f_MacroExpandLaw_law_b30 n L xs (some x) (some (x + 85)) (nI (1 + 4 * i)) nx h = some (.inl (nI (1 + 4 * (i + 1))), dn, ds, h2) ∧ Pub x (nx + dn) st' o' h2 cp' A' ∧ lAc cp cp' A A' dn ds := by
  have s0 : hSc L xs (nI (1 + 4 * i)) = some (xs (1 + 4 * i)) := hSc_at (by omega) hL
  have s1 : hSc L xs (nI (1 + 4 * i) + 1) = some (xs (1 + 4 * i + 1)) := by
    rw [show (1 : Int32) = nI 1 from rfl, nI_add]
    exact hSc_at (by omega) hL
  have s2 : hSc L xs (nI (1 + 4 * i) + 2) = some (xs (1 + 4 * i + 2)) := by
    rw [show (2 : Int32) = nI 2 from rfl, nI_add]
    exact hSc_at (by omega) hL
  have s3 : hSc L xs (nI (1 + 4 * i) + 3) = some (xs (1 + 4 * i + 3)) := by
    rw [show (3 : Int32) = nI 3 from rfl, nI_add]
    exact hSc_at (by omega) hL
  have s4 : nI (1 + 4 * i) + (4 : Int32) = nI (1 + 4 * (i + 1)) := by
    rw [show (4 : Int32) = nI 4 from rfl, nI_add, show 1 + 4 * i + 4 = 1 + 4 * (i + 1) by omega]
  have hne : ¬ nI L - (4 : Int32) < nI (1 + 4 * i) := fun q => by
    have := (law_end hL (by omega)).mp q
    omega
  obtain ⟨cx, hx⟩ := hp.obj
  obtain ⟨cr, hrr⟩ := ref_obj hp.2.1
  have hsame : lAc cp cp A A 0 0 := by
    unfold lAc
    omega
  generalize nI (1 + 4 * i) = y at s0 s1 s2 s3 s4 hne ⊢
  generalize xs (1 + 4 * i) = op at s0
  generalize xs (1 + 4 * i + 1) = a1 at s1
  generalize xs (1 + 4 * i + 2) = a2 at s2
  generalize xs (1 + 4 * i + 3) = a3 at s3
  unfold f_MacroExpandLaw_law_b30
  dsimp only
  rw [if_neg hne, s0, Option.bind_some]
  by_cases o0 : op &&& 15 = 0
  · rw [if_pos o0]
    obtain ⟨v, dn, ds, h1, h2, st', o', cp', A', e1, ⟨c1, hc1⟩, e2, hp', a1', a2'⟩ := pub_define (n := n) (i1 := a1) (i2 := a2) (i3 := a3) hp hn
    refine ⟨dn, ds, h2, st', o', cp', A', ?_, hp', a1', a2'⟩
    rw [s1, s2, s3]
    simp only [Option.bind_some]
    rw [hx, Option.bind_some, e1]
    simp only [hbind]
    rw [hc1, Option.bind_some, e2]
    simp only [hbW]
    rw [if_pos trivial]
    unfold f_MacroExpandLaw_law_j476
    simp only [Nat.add_zero, s4]
  · rw [if_neg o0]
    by_cases o1 : op &&& 15 = 1
    · rw [if_pos o1]
      obtain ⟨v, dn, ds, h1, h2, st', o', cp', A', e1, ⟨c1, hc1⟩, e2, hp', a1', a2'⟩ := pub_body (i1 := a1) (t := a2) hp
      refine ⟨dn, ds, h2, st', o', cp', A', ?_, hp', a1', a2'⟩
      rw [s1, s2]
      simp only [Option.bind_some]
      rw [hx, Option.bind_some, e1]
      simp only [hbind]
      rw [hc1, Option.bind_some, e2]
      simp only [hbW]
      rw [if_pos trivial]
      unfold f_MacroExpandLaw_law_j476
      simp only [Nat.add_zero, s4]
    · rw [if_neg o1]
      by_cases o2 : op &&& 15 = 2
      · rw [if_pos o2]
        obtain ⟨v, dn, ds, h1, h2, st', o', cp', A', e1, ⟨c1, hc1⟩, e2, hp', a1', a2'⟩ := pub_delimiter (i1 := a1) (i2 := a2) (t := a3) hp
        refine ⟨dn, ds, h2, st', o', cp', A', ?_, hp', a1', a2'⟩
        rw [s1, s2, s3]
        simp only [Option.bind_some]
        rw [hx, Option.bind_some, e1]
        simp only [hbind]
        rw [hc1, Option.bind_some, e2]
        simp only [hbW]
        rw [if_pos trivial]
        unfold f_MacroExpandLaw_law_j476
        simp only [Nat.add_zero, s4]
      · rw [if_neg o2]
        by_cases o3 : op &&& 15 = 3
        · rw [if_pos o3]
          obtain ⟨v, h1, h2, st', A', e1, ⟨c1, hc1⟩, e2, hp', hA2⟩ := pub_token (t := a1) hp
          refine ⟨0, 0, h2, st', o, cp, A', ?_, hp', by unfold lAc; rw [hA2]; omega⟩
          rw [s1]
          simp only [Option.bind_some]
          rw [hx, Option.bind_some, e1]
          simp only [hbW]
          rw [hc1, Option.bind_some, e2]
          dsimp only
          rw [if_pos rfl]
          unfold f_MacroExpandLaw_law_j476
          rw [s4]
        · rw [if_neg o3]
          by_cases o4 : op &&& 15 = 4
          · rw [if_pos o4]
            have hgo : ∀ b : Int32, (if a1 = 0 then f_MacroExpandLaw_law_j264 n L xs (some x) (some (x + 85)) y (some x) 0 nx h else f_MacroExpandLaw_law_j264 n L xs (some x) (some (x + 85)) y (some x) 1 nx h) = f_MacroExpandLaw_law_j264 n L xs (some x) (some (x + 85)) y (some x) b nx h → (∀ v nx' h', (if a1 = 0 then f_MacroExpandLaw_law_j281 n L xs (some x) (some (x + 85)) y v (some (x + 85)) 0 nx' h' else f_MacroExpandLaw_law_j281 n L xs (some x) (some (x + 85)) y v (some (x + 85)) 1 nx' h') = f_MacroExpandLaw_law_j281 n L xs (some x) (some (x + 85)) y v (some (x + 85)) b nx' h') → ∃ (dn ds : Nat) (h2 : hH) (st' : rS) (o' : oT) (cp' : Nat → Nat) (A' : aS), (if a1 = 0 then f_MacroExpandLaw_law_j264 n L xs (some x) (some (x + 85)) y (some x) 0 nx h else f_MacroExpandLaw_law_j264 n L xs (some x) (some (x + 85)) y (some x) 1 nx h) = some (.inl (nI (1 + 4 * (i + 1))), dn, ds, h2) ∧ Pub x (nx + dn) st' o' h2 cp' A' ∧ lAc cp cp' A A' dn ds := by
              intro b hb1 hb2
              obtain ⟨v, dn, ds, h1, h2, st', o', cp', A', e1, ⟨c1, hc1⟩, e2, hp', a1', a2'⟩ := pub_expand (n := n) (b := b) hp hn
              refine ⟨dn, ds, h2, st', o', cp', A', ?_, hp', a1', a2'⟩
              rw [hb1]
              unfold f_MacroExpandLaw_law_j264
              rw [Option.bind_some, hx, Option.bind_some, e1]
              simp only [hbind]
              rw [s1, Option.bind_some, hb2]
              unfold f_MacroExpandLaw_law_j281
              rw [Option.bind_some, hc1, Option.bind_some, e2]
              simp only [hbW]
              rw [if_pos trivial]
              unfold f_MacroExpandLaw_law_j476
              simp only [Nat.add_zero, s4]
            rw [s1, Option.bind_some]
            by_cases ha : a1 = 0
            · exact hgo 0 (if_pos ha) (fun _ _ _ => if_pos ha)
            · exact hgo 1 (if_neg ha) (fun _ _ _ => if_neg ha)
          · rw [if_neg o4]
            by_cases o5 : op &&& 15 = 5
            · rw [if_pos o5]
              obtain ⟨v, e1, e2⟩ := pub_at (i := a1) hp
              refine ⟨0, 0, h, st, o, cp, A, ?_, hp, hsame⟩
              rw [s1]
              simp only [Option.bind_some]
              rw [hx, Option.bind_some, e1, Option.bind_some, hrr, Option.bind_some, e2, Option.bind_some, if_pos rfl]
              unfold f_MacroExpandLaw_law_j476
              rw [s4]
            · rw [if_neg o5]
              by_cases o6 : op &&& 15 = 6
              · rw [if_pos o6]
                obtain ⟨v, e1, e2⟩ := pub_fault (i := a1) hp
                refine ⟨0, 0, h, st, o, cp, A, ?_, hp, hsame⟩
                rw [s1]
                simp only [Option.bind_some]
                rw [hx, Option.bind_some, e1, Option.bind_some, hrr, Option.bind_some, e2, Option.bind_some, if_pos rfl]
                unfold f_MacroExpandLaw_law_j476
                rw [s4]
              · rw [if_neg o6]
                by_cases o7 : op &&& 15 = 7
                · rw [if_pos o7]
                  have hgo : ∀ b : Int32, (if a1 = 0 then f_MacroExpandLaw_law_j349 n L xs (some x) (some (x + 85)) y (some x) 0 nx h else f_MacroExpandLaw_law_j349 n L xs (some x) (some (x + 85)) y (some x) 1 nx h) = f_MacroExpandLaw_law_j349 n L xs (some x) (some (x + 85)) y (some x) b nx h → (∀ v nx' h', (if a1 = 0 then f_MacroExpandLaw_law_j366 n L xs (some x) (some (x + 85)) y v (some (x + 85)) 0 nx' h' else f_MacroExpandLaw_law_j366 n L xs (some x) (some (x + 85)) y v (some (x + 85)) 1 nx' h') = f_MacroExpandLaw_law_j366 n L xs (some x) (some (x + 85)) y v (some (x + 85)) b nx' h') → ∃ (dn ds : Nat) (h2 : hH) (st' : rS) (o' : oT) (cp' : Nat → Nat) (A' : aS), (if a1 = 0 then f_MacroExpandLaw_law_j349 n L xs (some x) (some (x + 85)) y (some x) 0 nx h else f_MacroExpandLaw_law_j349 n L xs (some x) (some (x + 85)) y (some x) 1 nx h) = some (.inl (nI (1 + 4 * (i + 1))), dn, ds, h2) ∧ Pub x (nx + dn) st' o' h2 cp' A' ∧ lAc cp cp' A A' dn ds := by
                    intro b hb1 hb2
                    obtain ⟨v, h1, h2, st', A', e1, ⟨c1, hc1⟩, e2, hp', hA2⟩ := pub_group (n := n) (b := b) hp hn
                    refine ⟨0, 0, h2, st', o, cp, A', ?_, hp', by unfold lAc; rw [hA2]; omega⟩
                    rw [hb1]
                    unfold f_MacroExpandLaw_law_j349
                    rw [Option.bind_some, hx, Option.bind_some, e1]
                    simp only [hbW]
                    rw [s1, Option.bind_some, hb2]
                    unfold f_MacroExpandLaw_law_j366
                    rw [Option.bind_some, hc1, Option.bind_some, e2]
                    simp only [hbW]
                    rw [if_pos trivial]
                    unfold f_MacroExpandLaw_law_j476
                    rw [s4]
                  rw [s1, Option.bind_some]
                  by_cases ha : a1 = 0
                  · exact hgo 0 (if_pos ha) (fun _ _ _ => if_pos ha)
                  · exact hgo 1 (if_neg ha) (fun _ _ _ => if_neg ha)
                · rw [if_neg o7]
                  by_cases o8 : op &&& 15 = 8
                  · rw [if_pos o8]
                    obtain ⟨v, e1, e2⟩ := pub_named (i := a1) hp
                    refine ⟨0, 0, h, st, o, cp, A, ?_, hp, hsame⟩
                    rw [s1]
                    simp only [Option.bind_some]
                    rw [hx, Option.bind_some, e1, Option.bind_some, hrr, Option.bind_some, e2, Option.bind_some, if_pos rfl]
                    unfold f_MacroExpandLaw_law_j476
                    rw [s4]
                  · rw [if_neg o8]
                    by_cases o9 : op &&& 15 = 9
                    · rw [if_pos o9]
                      obtain ⟨v, e1, e2⟩ := pub_traced (i := a1) (w := a2) hp
                      refine ⟨0, 0, h, st, o, cp, A, ?_, hp, hsame⟩
                      rw [s1, s2]
                      simp only [Option.bind_some]
                      rw [hx, Option.bind_some, e1, Option.bind_some, hrr, Option.bind_some, e2, Option.bind_some, if_pos rfl]
                      unfold f_MacroExpandLaw_law_j476
                      rw [s4]
                    · rw [if_neg o9]
                      by_cases o10 : op &&& 15 = 10
                      · rw [if_pos o10]
                        obtain ⟨v, e1, e2⟩ := pub_input (i := a1) hp
                        refine ⟨0, 0, h, st, o, cp, A, ?_, hp, hsame⟩
                        rw [s1]
                        simp only [Option.bind_some]
                        rw [hx, Option.bind_some, e1, Option.bind_some, hrr, Option.bind_some, e2, Option.bind_some, if_pos rfl]
                        unfold f_MacroExpandLaw_law_j476
                        rw [s4]
                      · rw [if_neg o10]
                        by_cases o11 : op &&& 15 = 11
                        · rw [if_pos o11]
                          obtain ⟨v, e1, e2⟩ := pub_macro (i := a1) hp
                          refine ⟨0, 0, h, st, o, cp, A, ?_, hp, hsame⟩
                          rw [s1]
                          simp only [Option.bind_some]
                          rw [hx, Option.bind_some, e1, Option.bind_some, hrr, Option.bind_some, e2, Option.bind_some, if_pos rfl]
                          unfold f_MacroExpandLaw_law_j476
                          rw [s4]
                        · rw [if_neg o11]
                          refine ⟨0, 0, h, st, o, cp, A, ?_, hp, hsame⟩
                          unfold f_MacroExpandLaw_law_j476
                          rw [s4]
theorem Rf.cap {o : oT} {h : hH} {l a lim c : Nat} {xs : List Int32} (hR : Rf o h l a lim c xs) : c ≤ lim := by
  obtain ⟨⟨ia, f, e1, e2, t1, t2, hne, hc, hcl, hf⟩, -⟩ := hR
  exact hcl
theorem sumN_le {f : Nat → Nat} {b : Nat} : ∀ n, (∀ j, 1 ≤ j → j ≤ n → f j ≤ b) → sumN f n ≤ b * n
  | 0, _ => Nat.zero_le _
  | n + 1, h => by
    have h1 := sumN_le n (fun j h1 h2 => h j h1 (by omega))
    have h2 := h (n + 1) (by omega) (by omega)
    show sumN f n + f (n + 1) ≤ b * (n + 1)
    rw [Nat.mul_add, Nat.mul_one]
    omega
theorem cP.caps {x nx : Nat} {o : oT} {h : hH} {cp : Nat → Nat} {A : aS} (hP : cP x o nx h cp A) : sumN cp 21 ≤ 3000 * 21 := by
  refine sumN_le 21 (fun j h1 h2 => ?_)
  obtain ⟨ar, hR⟩ := hP.1.2.2.2.2.2.2.2
  by_cases h9 : j ≤ 9
  · have := (hR j h1 h9).cap
    omega
  · by_cases h20 : j = 21
    · subst h20
      exact hP.2.2.2.1.2.2.cap
    · by_cases h20' : j = 20
      · subst h20'
        have := hP.2.2.1.2.2.cap
        omega
      · have := (hP.2.2.1.2.1 (j - 10) (by omega)).cap
        rw [show 10 + (j - 10) = j by omega] at this
        omega
theorem law_loop {n L x nx0 : Nat} {xs : Nat → Int32} {st : rS} {o : oT} {h : hH} {cp : Nat → Nat} {A : aS} (hn : 100000000 < n) (hL : L ≤ 2049) (hp : Pub x nx0 st o h cp A) : ∃ (d e : Nat) (h' : hH), hloopA (f_MacroExpandLaw_law_b30 n L xs (some x) (some (x + 85))) n 1 nx0 h = some (.inr (.inr (.inr (.inr (.inr (.inr (.inr (.inr (.inr (.inr (.inr (.inr ()))))))))))), d, e, h') ∧ d ≤ 100000 ∧ e ≤ 800000 := by
  obtain ⟨b, d, e, h', el, rfl, hd, he⟩ := hloopA_rule (body := f_MacroExpandLaw_law_b30 n L xs (some x) (some (x + 85)))
    (fun k v nx1 sl h1 => ∃ (i : Nat) (st1 : rS) (o1 : oT) (cp1 : Nat → Nat) (A1 : aS), k = 600 - i ∧ i ≤ 520 ∧ 1 + 4 * i ≤ L + 1 ∧ v = nI (1 + 4 * i) ∧ Pub x nx1 st1 o1 h1 cp1 A1 ∧ nx1 ≤ nx0 + 40 * i + sumN cp1 21 + 40 * (A1.2.1 2).length ∧ sl ≤ 200 * i + 4 * sumN cp1 21 + 3000 * (A1.2.1 2).length)
    (fun b nx1 sl h1 => b = .inr (.inr (.inr (.inr (.inr (.inr (.inr (.inr (.inr (.inr (.inr (.inr ()))))))))))) ∧ nx1 ≤ nx0 + 100000 ∧ sl ≤ 800000)
    (by
      rintro k v nx1 sl h1 ⟨i, st1, o1, cp1, A1, rfl, hi, hiL, rfl, hp1, hd1, he1⟩
      by_cases hend : L < 5 + 4 * i
      · refine Or.inr ⟨.inr (.inr (.inr (.inr (.inr (.inr (.inr (.inr (.inr (.inr (.inr (.inr ()))))))))))), 0, 0, h1, ?_, rfl, ?_, ?_⟩
        · unfold f_MacroExpandLaw_law_b30
          dsimp only
          rw [if_pos ((law_end hL (by omega)).mpr hend)]
        · have h1 := hp1.1.caps
          have h2 := hp1.2.2.1.1.1.1
          omega
        · have h1 := hp1.1.caps
          have h2 := hp1.2.2.1.1.1.1
          omega
      · obtain ⟨dn, ds, h2, st', o', cp', A', e1, hp', a1, a2⟩ := law_step (xs := xs) hn hL (show 5 + 4 * i ≤ L by omega) hp1
        exact Or.inl ⟨nI (1 + 4 * (i + 1)), 600 - (i + 1), dn, ds, h2, e1, by omega, i + 1, st', o', cp', A', rfl, by omega, by omega, rfl, hp', by omega, by omega⟩)
    n 600 (nI (1 + 4 * 0)) nx0 0 h (by omega) ⟨0, st, o, cp, A, rfl, by omega, by omega, rfl, hp, by omega, by omega⟩
  exact ⟨d, e, h', el, by omega, by omega⟩
