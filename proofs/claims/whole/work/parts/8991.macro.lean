/-! WHAT WAS READ BECOMES A MACRO: the class -/
theorem c_mrow {k r a ra ta : Nat} {lg ou : Int32} {h : hH} {f : Nat → Option Nat} (e1 : h a = k7 (nI k) lg ou ra ta) (e2 : h ra = kR 3 (k + 1) f) (hk : k ≤ 9) (hr : r ≤ k) : f_Macro_row a (nI r) h = some (f r) := by
  have hix : (if (0 : Int32) < (if (nI (k + 1) - (1 : Int32)) < nI r then (nI (k + 1) - (1 : Int32)) else nI r) then (if (nI (k + 1) - (1 : Int32)) < nI r then (nI (k + 1) - (1 : Int32)) else nI r) else (0 : Int32)) = nI r := by
    rw [nI_pred, if_neg (nI_nlt hr (by omega))]
    by_cases h0 : r = 0
    · rw [h0]
      rfl
    · rw [if_pos (by rw [← nI_0]; exact nI_lt (by omega) (by omega))]
  unfold f_Macro_row
  rw [k7_g3 e1]
  simp only [Option.bind_some]
  rw [kR_len e2, Option.bind_some, hix, kR_get e2 (by omega) (by omega), Option.bind_some]
theorem c_toMacro {n x nx k nm : Nat} {mk : Int32} {o : oT} {h : hH} {cp : Nat → Nat} {A : aS} (hD : cD x o h cp A) (ho : Own o nx) (hk : k ≤ 9) (h13 : A.1 13 = nI k) (h3 : (A.2.1 3).length = (A.2.1 2).length) (hn : 20 < n) : ∃ (dn ds : Nat) (o' : oT) (h' : hH), f_Definition_toMacro n (x + 59) mk nx h = some (some nx, dn, ds, h') ∧ dn ≤ 40 ∧ ds ≤ 3000 ∧ Own o' (nx + dn) ∧ Old nx o o' h h' ∧ cMac o' h' (aNew A nm k mk (dRow A)) (A.2.1 2).length nx := by
  obtain ⟨hO, hR⟩ := id hD
  have e := hO.obj
  generalize hm : (A.2.1 2).length = m
  obtain ⟨o1, h1, ra, ta, f, e1, O1, H1, c1, c2, t1, t2, hrows, hta, hT⟩ := c_newMacro (n := n) (k := k) (m := m) (mk := mk) (h := h) ho hk hn
  have F1 : Fr (fun _ => False) o o1 h h1 := H1.fr ho
  have hlen : ∀ r, r < 10 → (A.2.1 (400 + r)).length ≤ 200 := fun r hr => (hR.1 r hr).1.le
  have htl : (A.2.1 410).length ≤ 200 := hR.2.1.le
  -- the rows are copied
  obtain ⟨b, d, s, h2, el, hd, hs, o2, O2, H2, d1, d2, u1, u2, hrows2, hT2⟩ := hloopA_rule (body := f_Definition_toMacro_b15 n (x + 59) (some nx))
    (fun q v nx1 sl hh => ∃ (i : Nat) (oo : oT), q = k + 1 - i ∧ i ≤ k + 1 ∧ v = nI i ∧ nx1 = nx + 1 + (2 * k + 5) + i ∧ sl ≤ 200 * i ∧ Own oo nx1 ∧ Old nx o oo h hh ∧ hh nx = k7 (nI k) (b01 (!(decide (mk &&& 1 = 0)))) (b01 (!(decide (mk &&& 2 = 0)))) ra ta ∧ hh ra = kR 3 (k + 1) f ∧ oo nx = some (100 + 20 * m) ∧ oo ra = some (100 + 20 * m) ∧ (∀ r, r ≤ k → ∃ b c, f r = some b ∧ nx ≤ b ∧ Rw oo hh (101 + 20 * m + r) b 200 c (if r < i then A.2.1 (400 + r) else [])) ∧ Rw oo hh (112 + 20 * m) ta 200 0 [])
    (fun _ nx1 sl hh => nx1 = nx + 1 + (2 * k + 5) + (k + 1) ∧ sl ≤ 200 * (k + 1) ∧ ∃ (oo : oT), Own oo nx1 ∧ Old nx o oo h hh ∧ hh nx = k7 (nI k) (b01 (!(decide (mk &&& 1 = 0)))) (b01 (!(decide (mk &&& 2 = 0)))) ra ta ∧ hh ra = kR 3 (k + 1) f ∧ oo nx = some (100 + 20 * m) ∧ oo ra = some (100 + 20 * m) ∧ (∀ r, r ≤ k → ∃ b c, f r = some b ∧ nx ≤ b ∧ Rw oo hh (101 + 20 * m + r) b 200 c (A.2.1 (400 + r))) ∧ Rw oo hh (112 + 20 * m) ta 200 0 [])
    (by
      rintro q v nx1 sl hh ⟨i, oo, rfl, hi, rfl, rfl, hsl, OO, HH, g1, g2, v1, v2, hrw, hTT⟩
      have FF : Fr (fun _ => False) o oo h hh := HH.fr ho
      have hO' := hO.fr FF (by simp)
      have eo := hO'.obj
      obtain ⟨ff, -, p2, -, -, pf⟩ := hO'
      by_cases hie : i = k + 1
      · subst hie
        refine Or.inr ⟨(), 0, 0, hh, ?_, rfl, hsl, oo, OO, HH, g1, g2, v1, v2, fun r hr => ?_, hTT⟩
        · unfold f_Definition_toMacro_b15
          dsimp only
          rw [k4_g5 eo, Option.bind_some, h13, if_pos (nI_lt (by omega) (by omega))]
        · obtain ⟨b, c, q1, q2, q3⟩ := hrw r hr
          rw [if_pos (by omega)] at q3
          exact ⟨b, c, q1, q2, q3⟩
      · obtain ⟨b, c, q1, q2, q3⟩ := hrw i (by omega)
        rw [if_neg (by omega)] at q3
        have hS := (hR.1 i (by omega)).1.fr FF (by simp)
        obtain ⟨o3, h3', e3, O3, R3, F3, H3⟩ := Rw.copyFrom q3 hS OO (by omega)
        obtain ⟨fsb, hob⟩ := q3.obj
        have hLi := hlen i (by omega)
        refine Or.inl ⟨nI (i + 1), k + 1 - (i + 1), 1, (A.2.1 (400 + i)).length, h3', ?_, by omega, i + 1, o3, rfl, by omega, rfl, by omega, by omega, O3, ?_, ((F3 _ _ v1).2 (by show ¬ 100 + 20 * m = 101 + 20 * m + i; omega)).trans g1, ((F3 _ _ v2).2 (by show ¬ 100 + 20 * m = 101 + 20 * m + i; omega)).trans g2, (F3 _ _ v1).1, (F3 _ _ v2).1, fun r hr => ?_, hTT.fr F3 (by show ¬ 112 + 20 * m = 101 + 20 * m + i; omega)⟩
        · unfold f_Definition_toMacro_b15
          dsimp only
          rw [k4_g5 eo, Option.bind_some, h13, if_neg (nI_nlt (by omega) (by omega)), k4_g0 eo]
          simp only [Option.bind_some]
          rw [kR_len p2, Option.bind_some, if_neg (nI_ge (by omega) (by omega)), k7_o g1, Option.bind_some, c_mrow g1 g2 hk (by omega), Option.bind_some, kR_get p2 (by omega) (by decide), Option.bind_some, q1, pf i (by omega)]
          simp only [Option.bind_some]
          rw [hob, Option.bind_some, e3, nI_1]
          simp [hbind]
        · intro c hc
          obtain ⟨w1, w2⟩ := H3 c (by omega)
          exact ⟨w1.trans (HH c hc).1, (w2 (by omega)).trans (HH c hc).2⟩
        · by_cases hri : r = i
          · subst hri
            exact ⟨b, _, q1, q2, by rw [if_pos (by omega)]; exact R3⟩
          · obtain ⟨b', c', w1, w2, w3⟩ := hrw r hr
            refine ⟨b', c', w1, w2, ?_⟩
            have hif : (if r < i + 1 then A.2.1 (400 + r) else []) = (if r < i then A.2.1 (400 + r) else []) := by
              by_cases hlt : r < i
              · rw [if_pos hlt, if_pos (by omega)]
              · rw [if_neg hlt, if_neg (by omega)]
            rw [hif]
            exact w3.fr F3 (by show ¬ 101 + 20 * m + r = 101 + 20 * m + i; omega))
    n (k + 1) (nI 0) (nx + 1 + (2 * k + 5)) 0 h1 (by omega) ⟨0, o1, by omega, by omega, rfl, by omega, by omega, O1, H1, c1, c2, t1, t2, fun r hr => by
      obtain ⟨b, q1, q2, q3⟩ := hrows r hr
      exact ⟨b, 0, q1, q2, by rw [if_neg (by omega)]; exact q3⟩, hT⟩
  have F2 : Fr (fun _ => False) o o2 h h2 := H2.fr ho
  have e2 := (hO.fr F2 (by simp)).obj
  have hS := hR.2.1.fr F2 (by simp)
  obtain ⟨fsT, hoT⟩ := hT2.obj
  obtain ⟨o3, h3', e3, O3, R3, F3, H3⟩ := Rw.copyFrom hT2 hS O2 (by omega)
  refine ⟨1 + (2 * k + 5) + (k + 1) + 1, 5 + (4 * k + 7) + s + (A.2.1 410).length, o3, h3', ?_, by omega, by omega, ?_, ?_, ?_⟩
  · unfold f_Definition_toMacro
    simp only [hbind, hnew]
    have e0 : (va_up h nx (some (.inr (7, [.int 0, .int 0, .int 0, .null, .null])))) (x + 59) = k4 (x + 60) (x + 81) (A.1 10) (A.1 11) (A.1 12) (A.1 13) (A.1 14) := by
      obtain ⟨f', p1, p2, p3, -⟩ := hO
      rw [va_up_ne _ _ (ho.ne p3)]
      exact e
    rw [k4_g5 e0, Option.bind_some, h13, e1]
    simp only []
    rw [show (0 : Int32) = nI 0 from rfl, el]
    simp only []
    rw [k7_g4 d1, Option.bind_some, k4_g1 e2]
    simp only [Option.bind_some]
    rw [hoT, Option.bind_some, e3]
    simp only [Option.some.injEq, Prod.mk.injEq, true_and]
    refine ⟨by omega, by omega, trivial⟩
  · rw [show nx + (1 + (2 * k + 5) + (k + 1) + 1) = nx + 1 + (2 * k + 5) + d + 1 by omega]
    exact O3
  · intro c hc
    obtain ⟨w1, w2⟩ := H3 c (by omega)
    exact ⟨w1.trans (H2 c hc).1, (w2 (by omega)).trans (H2 c hc).2⟩
  · rw [← hm]
    obtain ⟨n1, n2⟩ := aNew_new (A := A) (nm := nm) (mk := mk) (rows := dRow A) hk h3
    refine ⟨ra, ta, f, ?_, ?_, ?_, ?_, by rw [n1]; exact hk, fun r hr => ?_, ?_⟩
    · rw [n1]
      unfold aLng
      rw [n2]
      exact ((F3 _ _ u1).2 (by show ¬ 100 + 20 * m = 112 + 20 * m; omega)).trans d1
    · rw [n1]
      exact ((F3 _ _ u2).2 (by show ¬ 100 + 20 * m = 112 + 20 * m; omega)).trans d2
    · rw [hm]
      exact (F3 _ _ u1).1
    · rw [hm]
      exact (F3 _ _ u2).1
    · rw [n1] at hr
      obtain ⟨b', c', w1, w2, w3⟩ := hrows2 r hr
      refine ⟨b', c', w1, ?_⟩
      rw [aNew_row (by omega), hm]
      unfold dRow
      rw [h13, nI_clamp (by omega), if_pos (Or.inl hr)]
      exact w3.fr F3 (by show ¬ 101 + 20 * m + r = 112 + 20 * m; omega)
    · refine ⟨(A.2.1 410).length, ?_⟩
      rw [aNew_row (by omega), hm]
      unfold dRow
      rw [if_pos (Or.inr rfl)]
      exact R3
