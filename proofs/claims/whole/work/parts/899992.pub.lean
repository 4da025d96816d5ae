/-! CLASS AND REFERENCE SIDE BY SIDE, call by call -/
def Pub (x nx : Nat) (st : rS) (o : oT) (h : hH) (cp : Nat → Nat) (A : aS) : Prop := cP x o nx h cp A ∧ h = rE (x + 85) st h ∧ pInv A ∧ (∃ p q, RX st (aMl A p q)) ∧ RV st (A.2.1 0) ∧ st.1 21 = A.1 6 ∧ (A.1 6 = 0 → A.1 7 = 0) ∧ (A.1 6 ≠ 0 → A.1 7 = A.1 2)
theorem rE_keep {x : Nat} {st : rS} {o o' : oT} {h h' : hH} (hr : h = rE (x + 85) st h) (ht : ∀ j, j < 23 → o (x + 85 + j) = some 9) (F : Fr cWw o o' h h') : h' = rE (x + 85) st h' := by
  funext a
  by_cases ha : x + 85 ≤ a ∧ a < x + 85 + 23
  · have h9 : o a = some 9 := by
      have := ht (a - (x + 85)) (by omega)
      rwa [show x + 85 + (a - (x + 85)) = a by omega] at this
    have e1 : h' a = h a := (F a 9 h9).2 (by unfold cWw; omega)
    have e2 : rE (x + 85) st h' a = rE (x + 85) st h a := by
      unfold rE
      by_cases h0 : a = x + 85
      · rw [if_pos h0, if_pos h0]
      · rw [if_neg h0, if_neg h0, if_pos (by omega), if_pos (by omega)]
    exact e1.trans ((congrFun hr a).trans e2.symm)
  · unfold rE
    rw [if_neg (by omega), if_neg (by omega)]
theorem rE_idem (m : Nat) (st st' : rS) (h : hH) : rE m st' (rE m st h) = rE m st' h := by
  funext a
  unfold rE
  by_cases h0 : a = m
  · simp only [if_pos h0]
  · simp only [if_neg h0]
    by_cases h1 : m < a ∧ a < m + 23
    · simp only [if_pos h1]
    · simp only [if_neg h1]
theorem rE_fr {x : Nat} {st : rS} {o : oT} {h : hH} (ht : ∀ j, j < 23 → o (x + 85 + j) = some 9) : Fr (fun b => b = 9) o o h (rE (x + 85) st h) := by
  intro c l e
  refine ⟨e, fun w => ?_⟩
  have hc : ¬ (x + 85 ≤ c ∧ c < x + 85 + 23) := fun q => by
    have := ht (c - (x + 85)) (by omega)
    rw [show x + 85 + (c - (x + 85)) = c by omega, e] at this
    exact w (Option.some.inj this)
  unfold rE
  rw [if_neg (by omega), if_neg (by omega)]
theorem cP.ref {x nx : Nat} {o : oT} {h h' : hH} {cp : Nat → Nat} {A : aS} (hP : cP x o nx h cp A) (F : Fr (fun b => b = 9) o o h h') : cP x o nx h' cp A :=
  ⟨hP.1.fr F hP.1.1 (fun l hl => by show ¬ l = 9; omega) (fun _ _ _ => rfl) (fun _ _ => rfl) (fun _ _ => rfl) rfl, hP.2.1.fr F (by decide) rfl rfl, hP.2.2.1.fr F (by decide) (fun l h1 h2 => by show ¬ l = 9; omega) (fun _ _ _ => rfl) (fun _ _ _ => rfl) (fun _ _ _ => rfl), hP.2.2.2.1.fr F (by decide) (by decide) rfl rfl rfl rfl, hP.2.2.2.2⟩
theorem pub_mk {x nx nx' : Nat} {st st' : rS} {o o' : oT} {h h1 : hH} {cp cp' : Nat → Nat} {A A' : aS} (hp : Pub x nx st o h cp A) (F : Fr cWw o o' h h1) (hP1 : cP x o' nx' h1 cp' A') (hi : pInv A') (hX : ∃ p q, RX st' (aMl A' p q)) (hV : RV st' (A'.2.1 0)) (h21 : st'.1 21 = A'.1 6) (h60 : A'.1 6 = 0 → A'.1 7 = 0) (h61 : A'.1 6 ≠ 0 → A'.1 7 = A'.1 2) : h1 = rE (x + 85) st h1 ∧ Pub x nx' st' o' (rE (x + 85) st' h1) cp' A' := by
  refine ⟨rE_keep hp.2.1 hp.1.2.2.2.2 F, hP1.ref (rE_fr hP1.2.2.2.2), (rE_idem _ _ _ _).symm, hi, hX, hV, h21, h60, h61⟩
theorem Pub.obj {x nx : Nat} {st : rS} {o : oT} {h : hH} {cp : Nat → Nat} {A : aS} (hp : Pub x nx st o h cp A) : ∃ c, hObj h x 0 = some c := ⟨_, k0_o hp.1.2.1.1⟩
theorem ref_obj {m : Nat} {st : rS} {h : hH} (hr : h = rE m st h) : ∃ c, hObj h m 1 = some c := by
  refine ⟨rFs m st.1, ?_⟩
  have := r_obj m st h
  rwa [← hr] at this
theorem RX.M {st : rS} {A : aS} {p q : Int32} (h : RX st (aMl A p q)) : rM st A := h.2.2.2.2.1.abs rfl rfl (fun _ _ => rfl) rfl rfl
theorem rM.ml {st : rS} {A : aS} (p q : Int32) (h : rM st A) : rM st (aMl A p q) := h.abs rfl rfl (fun _ _ => rfl) rfl rfl
theorem tTok_pos {t : Int32} (h : tTok t = true) : 0 ≤ t := by
  unfold tTok tPar tName at h
  simp only [Bool.or_eq_true, Bool.and_eq_true, decide_eq_true_eq] at h
  rcases h with ((h | h) | h) | h
  · exact h.1
  · exact Int32.le_trans (by decide) h.1
  · exact Int32.le_trans (by decide) h.1.1
  · exact Int32.le_trans (by decide) h.1
/-- a call that changes the macros alone -/
theorem pub_mac {x nx nx' : Nat} {st st' : rS} {o o' : oT} {h h1 : hH} {cp : Nat → Nat} {A A' : aS} (hp : Pub x nx st o h cp A) (F : Fr cWw o o' h h1) (hP1 : cP x o' nx' h1 cp A') (hf : fInv A') (hM : rM st' A') (hk : rKm st st') (hi : ∀ j, j ≠ 15 → A'.1 j = A.1 j) (hl : ∀ j, j < 2 ∨ (100 ≤ j ∧ j < 200) → A'.2.1 j = A.2.1 j) (ht : A'.2.2.2 = A.2.2.2) : h1 = rE (x + 85) st h1 ∧ Pub x nx' st' o' (rE (x + 85) st' h1) cp A' := by
  obtain ⟨p, q, hX⟩ := hp.2.2.2.1
  refine pub_mk hp F hP1 ⟨hf, by rw [hl 0 (by omega)]; exact hp.2.2.1.2.1, by rw [hl 0 (by omega)]; exact hp.2.2.1.2.2⟩ ⟨p, q, hX.m hk (hM.ml p q) (fun j hj => ?_) (fun j hj => hl j (by omega)) ht⟩ (by rw [hl 0 (by omega)]; exact hk.v hp.2.2.2.2.1) ?_ ?_ ?_
  · by_cases h9 : j = 9
    · subst h9
      rfl
    · by_cases h8 : j = 8
      · subst h8
        rfl
      · rw [aMl_i h8 h9, aMl_i h8 h9]
        exact hi j hj
  · rw [hk.1 21 (by decide) (by decide), hi 6 (by decide)]
    exact hp.2.2.2.2.2.1
  · rw [hi 6 (by decide), hi 7 (by decide)]
    exact hp.2.2.2.2.2.2.1
  · rw [hi 6 (by decide), hi 7 (by decide), hi 2 (by decide)]
    exact hp.2.2.2.2.2.2.2
theorem fInv.new {A : aS} {nm k : Nat} {mk : Int32} (h : pInv A) (hc : ∃ c, c ≤ 100 ∧ A.1 16 = nI c) (hm : (A.2.1 2).length < 100) : fInv (aNew A nm k mk (fun _ => [])) := by
  obtain ⟨ha, hf⟩ := h.a hc
  obtain ⟨g1, g2, g3⟩ := aNew_inv (A := eBegin A) (nm := nm) (k := k) (mk := mk) (rows := fun _ => []) ha hf.2.1 hm (fun t ht => by simp at ht) hf.2.2.2.2.2.2.2
  have hf2 : fInv (aNew (eBegin A) nm k mk (fun _ => [])) := ⟨g1.1, g2, hf.2.2.1, g1.2.2.2.2.1, hf.2.2.2.2.1, hf.2.2.2.2.2.1, by rw [aNew_l (by decide) (by decide) (by omega)]; exact hf.2.2.2.2.2.2.1, g3⟩
  refine hf2.to rfl hf2.2.2.2.2.1 rfl rfl rfl rfl (by rw [aNew_l (by decide) (by decide) (by omega)]; exact h.1.2.2.2.2.2.2.1) (fun j hj => ?_) rfl
  show (if j = 2 then _ else if j = 3 then _ else if 1000 + 20 * (A.2.1 2).length ≤ j ∧ j < 1000 + 20 * (A.2.1 2).length + 20 then _ else A.2.1 j) = (if j = 2 then _ else if j = 3 then _ else if 1000 + 20 * (A.2.1 2).length ≤ j ∧ j < 1000 + 20 * (A.2.1 2).length + 20 then _ else va_up A.2.1 8 [] j)
  rw [va_up_ne _ _ (show j ≠ 8 by omega)]
  rfl
theorem Pub.c16 {x nx : Nat} {st : rS} {o : oT} {h : hH} {cp : Nat → Nat} {A : aS} (hp : Pub x nx st o h cp A) : ∃ c, c ≤ 100 ∧ A.1 16 = nI c := by
  obtain ⟨f, g, c, -, -, -, -, -, -, h16, hc, -⟩ := hp.1.1.2.1
  exact ⟨c, hc, h16⟩
theorem pub_define {n x nx : Nat} {i1 i2 i3 : Int32} {st : rS} {o : oT} {h : hH} {cp : Nat → Nat} {A : aS} (hp : Pub x nx st o h cp A) (hn : 100000000 < n) : ∃ (v : Int32) (dn ds : Nat) (h1 h2 : hH) (st' : rS) (o' : oT) (cp' : Nat → Nat) (A' : aS), f_MacroExpand_define n x i1 i2 i3 nx h = some (v, dn, ds, h1) ∧ (∃ c, hObj h1 (x + 85) 1 = some c) ∧ f_MacroExpandModel_define n (x + 85) i1 i2 i3 h1 = some (v, h2) ∧ Pub x (nx + dn) st' o' h2 cp' A' ∧ dn + sumN cp 21 + 40 * (A.2.1 2).length ≤ 40 + sumN cp' 21 + 40 * (A'.2.1 2).length ∧ ds + 4 * sumN cp 21 + 3000 * (A.2.1 2).length ≤ 200 + 4 * sumN cp' 21 + 3000 * (A'.2.1 2).length := by
  obtain ⟨p, q, hX⟩ := hp.2.2.2.1
  have hf := hp.2.2.1.1
  obtain ⟨dn, ds, o', h1, e1, F1, d1, d2, P1⟩ := c_define (n := n) (i1 := i1) (i2 := i2) (i3 := i3) hp.1 hf.1 hf.2.1 (by omega)
  obtain ⟨st', e2, M2, K2'⟩ := g_define_at (n := n) (i1 := i1) (i2 := i2) (i3 := i3) hX.M hf.1 hf.2.1 (by omega)
  have hcase : fInv (pDef A i1 i2 i3).2 ∧ (∀ j, j ≠ 15 → (pDef A i1 i2 i3).2.1 j = A.1 j) ∧ (∀ j, j < 2 ∨ (100 ≤ j ∧ j < 200) → (pDef A i1 i2 i3).2.2.1 j = A.2.1 j) ∧ (pDef A i1 i2 i3).2.2.2.2 = A.2.2.2 ∧ (A.2.1 2).length ≤ ((pDef A i1 i2 i3).2.2.1 2).length := by
    unfold pDef
    split
    · exact ⟨hf, fun _ _ => rfl, fun _ _ => rfl, rfl, Nat.le_refl _⟩
    · split
      · exact ⟨hf, fun _ _ => rfl, fun _ _ => rfl, rfl, Nat.le_refl _⟩
      · have h100 := hf.1.1
        refine ⟨fInv.new hp.2.2.1 hp.c16 (by omega), fun _ _ => rfl, fun j hj => aNew_l (by omega) (by omega) (by omega), rfl, ?_⟩
        show _ ≤ (A.2.1 2 ++ [_]).length
        rw [List.length_append]
        omega
  obtain ⟨c1, c2, c3, c4, c5⟩ := hcase
  obtain ⟨hr, hpub⟩ := pub_mac hp F1 P1 c1 M2 K2' c2 c3 c4
  refine ⟨_, dn, ds, h1, _, st', o', cp, _, e1, ref_obj hr, ?_, hpub, by omega, by omega⟩
  have := p_define n (x + 85) h1 i1 i2 i3 st
  rw [← hr, e2] at this
  exact this
theorem fInv.more {A : aS} {m r : Nat} {t : Int32} (h : fInv A) (hr : r ≤ 10) (ht : r = 10 → 0 ≤ t) : fInv (aMore A m r t) := by
  obtain ⟨q1, q2, q3, q4, q5, q6, q7, q8⟩ := h
  have hl : ∀ j, j < 1000 → (aMore A m r t).2.1 j = A.2.1 j := fun j hj => aMore_l (by omega)
  refine ⟨?_, by rw [hl 2 (by omega), hl 3 (by omega)]; exact q2, q3, fun m' hm' => ?_, q5, q6, by rw [hl 410 (by omega)]; exact q7, by rw [hl 2 (by omega)]; exact q8⟩
  · unfold aNm
    rw [hl 2 (by omega)]
    exact q1
  · rw [hl 2 (by omega)] at hm'
    by_cases hj : 1000 + 20 * m' + 10 = 1000 + 20 * m + r
    · have hmr : m' = m ∧ r = 10 := by omega
      obtain ⟨rfl, rfl⟩ := hmr
      rw [aMore_row]
      split
      · exact all_snoc (P := fun u => 0 ≤ u) (q4 m' hm') (ht rfl)
      · exact q4 m' hm'
    · rw [show aRow (aMore A m r t) m' 10 = aRow A m' 10 from aMore_l hj]
      exact q4 m' hm'
theorem pub_body {x nx : Nat} {i1 t : Int32} {st : rS} {o : oT} {h : hH} {cp : Nat → Nat} {A : aS} (hp : Pub x nx st o h cp A) : ∃ (v : Int32) (dn ds : Nat) (h1 h2 : hH) (st' : rS) (o' : oT) (cp' : Nat → Nat) (A' : aS), f_MacroExpand_body x i1 t nx h = some (v, dn, ds, h1) ∧ (∃ c, hObj h1 (x + 85) 1 = some c) ∧ f_MacroExpandModel_body (x + 85) i1 t h1 = some (v, h2) ∧ Pub x (nx + dn) st' o' h2 cp' A' ∧ dn + sumN cp 21 + 40 * (A.2.1 2).length ≤ 40 + sumN cp' 21 + 40 * (A'.2.1 2).length ∧ ds + 4 * sumN cp 21 + 3000 * (A.2.1 2).length ≤ 200 + 4 * sumN cp' 21 + 3000 * (A'.2.1 2).length := by
  obtain ⟨p, q, hX⟩ := hp.2.2.2.1
  have hf := hp.2.2.1.1
  obtain ⟨dn, ds, o', h1, e1, F1, d1, d2, P1⟩ := c_body (i1 := i1) (t := t) hp.1 hf.1
  obtain ⟨st', e2, M2, K2'⟩ := g_body_at (i1 := i1) (t := t) hX.M hf.1
  have hcase : fInv (pBody A i1 t).2 ∧ (∀ j, j ≠ 15 → (pBody A i1 t).2.1 j = A.1 j) ∧ (∀ j, j < 100 ∨ (100 ≤ j ∧ j < 200) → (pBody A i1 t).2.2.1 j = A.2.1 j) ∧ (pBody A i1 t).2.2.2.2 = A.2.2.2 := by
    unfold pBody
    split
    · exact ⟨hf, fun _ _ => rfl, fun _ _ => rfl, rfl⟩
    · split
      · exact ⟨hf, fun _ _ => rfl, fun _ _ => rfl, rfl⟩
      · rename_i htt
        exact ⟨hf.more (by omega) (fun _ => tTok_pos (by cases hq : tTok t; exact absurd hq htt; rfl)), fun _ _ => rfl, fun j hj => aMore_l (by omega), rfl⟩
  obtain ⟨c1, c2, c3, c4⟩ := hcase
  have c5 := congrArg List.length (c3 2 (by omega))
  obtain ⟨hr, hpub⟩ := pub_mac hp F1 P1 c1 M2 K2' c2 (fun j hj => c3 j (by omega)) c4
  refine ⟨_, dn, ds, h1, _, st', o', cp, _, e1, ref_obj hr, ?_, hpub, by omega, by omega⟩
  have := p_body (x + 85) h1 i1 t st
  rw [← hr, e2] at this
  exact this
theorem pub_delimiter {x nx : Nat} {i1 i2 t : Int32} {st : rS} {o : oT} {h : hH} {cp : Nat → Nat} {A : aS} (hp : Pub x nx st o h cp A) : ∃ (v : Int32) (dn ds : Nat) (h1 h2 : hH) (st' : rS) (o' : oT) (cp' : Nat → Nat) (A' : aS), f_MacroExpand_delimiter x i1 i2 t nx h = some (v, dn, ds, h1) ∧ (∃ c, hObj h1 (x + 85) 1 = some c) ∧ f_MacroExpandModel_delimiter (x + 85) i1 i2 t h1 = some (v, h2) ∧ Pub x (nx + dn) st' o' h2 cp' A' ∧ dn + sumN cp 21 + 40 * (A.2.1 2).length ≤ 40 + sumN cp' 21 + 40 * (A'.2.1 2).length ∧ ds + 4 * sumN cp 21 + 3000 * (A.2.1 2).length ≤ 200 + 4 * sumN cp' 21 + 3000 * (A'.2.1 2).length := by
  obtain ⟨p, q, hX⟩ := hp.2.2.2.1
  have hf := hp.2.2.1.1
  obtain ⟨dn, ds, o', h1, e1, F1, d1, d2, P1⟩ := c_delimiter (i1 := i1) (i2 := i2) (t := t) hp.1 hf.1
  obtain ⟨st', e2, M2, K2'⟩ := g_delimiter_at (i1 := i1) (i2 := i2) (t := t) hX.M hf.1
  have hcase : fInv (pDel A i1 i2 t).2 ∧ (∀ j, j ≠ 15 → (pDel A i1 i2 t).2.1 j = A.1 j) ∧ (∀ j, j < 100 ∨ (100 ≤ j ∧ j < 200) → (pDel A i1 i2 t).2.2.1 j = A.2.1 j) ∧ (pDel A i1 i2 t).2.2.2.2 = A.2.2.2 := by
    unfold pDel
    split
    · exact ⟨hf, fun _ _ => rfl, fun _ _ => rfl, rfl⟩
    · rename_i hi1
      split
      · exact ⟨hf, fun _ _ => rfl, fun _ _ => rfl, rfl⟩
      · rename_i hi2
        split
        · exact ⟨hf, fun _ _ => rfl, fun _ _ => rfl, rfl⟩
        · have hm : i1.toNatClampNeg < (A.2.1 2).length := by
            obtain ⟨m, hm, rfl⟩ := nI_of (fun q => hi1 (Or.inl q))
            rw [nI_clamp hm]
            exact Nat.lt_of_not_le (fun q => hi1 (Or.inr (nI_le q hm)))
          have h9 : aNum A i1.toNatClampNeg ≤ 9 := (hX.M.2.1 _ hm).2.1
          have hr : i2.toNatClampNeg ≤ aNum A i1.toNatClampNeg := by
            obtain ⟨r, hr, rfl⟩ := nI_of (fun q => hi2 (Or.inl q))
            rw [nI_clamp hr]
            exact Nat.le_of_not_lt (fun q => hi2 (Or.inr (nI_lt q hr)))
          exact ⟨hf.more (by omega) (fun _ => by omega), fun _ _ => rfl, fun j hj => aMore_l (by omega), rfl⟩
  obtain ⟨c1, c2, c3, c4⟩ := hcase
  have c5 := congrArg List.length (c3 2 (by omega))
  obtain ⟨hr, hpub⟩ := pub_mac hp F1 P1 c1 M2 K2' c2 (fun j hj => c3 j (by omega)) c4
  refine ⟨_, dn, ds, h1, _, st', o', cp, _, e1, ref_obj hr, ?_, hpub, by omega, by omega⟩
  have := p_delimiter (x + 85) h1 i1 i2 t st
  rw [← hr, e2] at this
  exact this
theorem pub_group {n x nx : Nat} {b : Int32} {st : rS} {o : oT} {h : hH} {cp : Nat → Nat} {A : aS} (hp : Pub x nx st o h cp A) (hn : 100000000 < n) : ∃ (v : Int32) (h1 h2 : hH) (st' : rS) (A' : aS), f_MacroExpand_group x b h = some (v, h1) ∧ (∃ c, hObj h1 (x + 85) 1 = some c) ∧ f_MacroExpandModel_group n (x + 85) b h1 = some (v, h2) ∧ Pub x nx st' o h2 cp A' ∧ A'.2.1 2 = A.2.1 2 := by
  obtain ⟨p, q, hX⟩ := hp.2.2.2.1
  have hf := hp.2.2.1.1
  obtain ⟨g, hg, hg15, -, -⟩ := hX.M.2.2.2
  obtain ⟨h1, e1, F1, P1⟩ := c_group (b := b) hp.1 hg15 hg
  obtain ⟨st', e2, M2, K2'⟩ := g_group_at (n := n) (b := b) hX.M hg15 hg (by omega)
  have hgc : (A.1 15).toNatClampNeg = g := by rw [hg15, nI_clamp (by omega)]
  have hcase : ∀ B : aS, B = (if b = 0 then (if g = 0 then A else aClose A g) else if g = 20 then A else aOpen A g) → fInv B ∧ (∀ j, j ≠ 15 → B.1 j = A.1 j) ∧ B.2.1 = A.2.1 ∧ B.2.2.2 = A.2.2.2 := by
    intro B hB
    obtain ⟨q1, q2, q3, q4, q5, q6, q7, q8⟩ := hf
    rw [hgc] at q8
    by_cases hb : b = 0
    · rw [if_pos hb] at hB
      by_cases h0 : g = 0
      · rw [if_pos h0] at hB
        subst hB
        exact ⟨hp.2.2.1.1, fun _ _ => rfl, rfl, rfl⟩
      · rw [if_neg h0] at hB
        subst hB
        refine ⟨⟨⟨q1.1, fun i hi => ?_⟩, q2, q3, q4, q5, q6, q7, fun j i hj hi => ?_⟩, fun j hj => upd_other hj, rfl, rfl⟩
        · show va_up A.2.2.1 0 (A.2.2.1 (1 + (g - 1))) 0 i = -1 ∨ ∃ m, m < (A.2.1 2).length ∧ va_up A.2.2.1 0 (A.2.2.1 (1 + (g - 1))) 0 i = nI m
          rw [va_up_self]
          exact q8 (g - 1) i (by omega) hi
        · have hj2 : j < g - 1 := by
            have : (aClose A g).1 15 = nI (g - 1) := rfl
            rw [this, nI_clamp (by omega)] at hj
            exact hj
          show va_up A.2.2.1 0 (A.2.2.1 (1 + (g - 1))) (1 + j) i = -1 ∨ ∃ m, m < (A.2.1 2).length ∧ va_up A.2.2.1 0 (A.2.2.1 (1 + (g - 1))) (1 + j) i = nI m
          rw [va_up_ne _ _ (by omega)]
          exact q8 j i (by omega) hi
    · rw [if_neg hb] at hB
      by_cases h20 : g = 20
      · rw [if_pos h20] at hB
        subst hB
        exact ⟨hp.2.2.1.1, fun _ _ => rfl, rfl, rfl⟩
      · rw [if_neg h20] at hB
        subst hB
        refine ⟨⟨⟨q1.1, fun i hi => ?_⟩, q2, q3, q4, q5, q6, q7, fun j i hj hi => ?_⟩, fun j hj => upd_other hj, rfl, rfl⟩
        · show va_up A.2.2.1 (1 + g) (A.2.2.1 0) 0 i = -1 ∨ ∃ m, m < (A.2.1 2).length ∧ va_up A.2.2.1 (1 + g) (A.2.2.1 0) 0 i = nI m
          rw [va_up_ne _ _ (by omega)]
          exact q1.2 i hi
        · have hj2 : j < g + 1 := by
            have : (aOpen A g).1 15 = nI (g + 1) := rfl
            rw [this, nI_clamp (by omega)] at hj
            exact hj
          show va_up A.2.2.1 (1 + g) (A.2.2.1 0) (1 + j) i = -1 ∨ ∃ m, m < (A.2.1 2).length ∧ va_up A.2.2.1 (1 + g) (A.2.2.1 0) (1 + j) i = nI m
          by_cases hjg : j = g
          · subst hjg
            rw [va_up_self]
            exact q1.2 i hi
          · rw [va_up_ne _ _ (by omega)]
            exact q8 j i (by omega) hi
  obtain ⟨c1, c2, c3, c4⟩ := hcase _ rfl
  obtain ⟨hr, hpub⟩ := pub_mac hp (F1.mono (fun l q => by unfold cWw; omega)) P1 c1 M2 K2' c2 (fun j _ => by rw [c3]) c4
  refine ⟨_, h1, _, st', _, e1, ref_obj hr, ?_, hpub, by rw [c3]⟩
  have := p_group n (x + 85) h1 b st
  rw [← hr, e2] at this
  exact this
theorem pub_token {x nx : Nat} {t : Int32} {st : rS} {o : oT} {h : hH} {cp : Nat → Nat} {A : aS} (hp : Pub x nx st o h cp A) : ∃ (v : Int32) (h1 h2 : hH) (st' : rS) (A' : aS), f_MacroExpand_token x t h = some (v, h1) ∧ (∃ c, hObj h1 (x + 85) 1 = some c) ∧ f_MacroExpandModel_token (x + 85) t h1 = some (v, h2) ∧ Pub x nx st' o h2 cp A' ∧ A'.2.1 2 = A.2.1 2 := by
  obtain ⟨p, q, hX⟩ := hp.2.2.2.1
  have hV := hp.2.2.2.2.1
  obtain ⟨hf, hpos, hlen⟩ := hp.2.2.1
  obtain ⟨h1, e1, F1, P1⟩ := c_token (t := t) hp.1
  have F1w : Fr cWw o o h h1 := F1.mono (fun l q => by unfold cWw; omega)
  have hsame : ∀ v : Int32, f_MacroExpand_token x t h = some (v, h1) → g_token t st = some (v, st) → cP x o nx h1 cp A → ∃ (v : Int32) (h1 h2 : hH) (st' : rS) (A' : aS), f_MacroExpand_token x t h = some (v, h1) ∧ (∃ c, hObj h1 (x + 85) 1 = some c) ∧ f_MacroExpandModel_token (x + 85) t h1 = some (v, h2) ∧ Pub x nx st' o h2 cp A' ∧ A'.2.1 2 = A.2.1 2 := by
    intro v he hg hP
    obtain ⟨hr, hpub⟩ := pub_mk hp F1w hP ⟨hf, hpos, hlen⟩ ⟨p, q, hX⟩ hV hp.2.2.2.2.2.1 hp.2.2.2.2.2.2.1 hp.2.2.2.2.2.2.2
    refine ⟨v, h1, _, st, A, he, ref_obj hr, ?_, hpub, rfl⟩
    have := p_token (x + 85) h1 t st
    rw [← hr, hg] at this
    exact this
  cases ht : tTok t with
  | false =>
    rw [ht, if_pos rfl] at e1
    rw [ht, if_neg (fun q => by cases q.1)] at P1
    exact hsame _ e1 (g_token_no ht) P1
  | true =>
    rw [ht, if_neg (by decide)] at e1
    by_cases hl : (A.2.1 0).length < 3000
    · rw [if_pos hl] at e1
      rw [if_pos ⟨ht, hl⟩] at P1
      obtain ⟨st', e2, V2, s1, s2⟩ := g_token_at hV ht hl
      have hk : rK st st' := ⟨fun k hk => s1 k (by omega), fun j h1 _ => s2 j (by omega)⟩
      have X2 : RX st' (aMl (aPl A 0 (A.2.1 0 ++ [t])) p q) := (hX.k hk (s1 23 (by decide)) (s1 22 (by decide)) (s1 25 (by decide)) (s2 14 (by decide))).pl 0 (A.2.1 0 ++ [t]) (by omega)
      have hfA : fInv (aPl A 0 (A.2.1 0 ++ [t])) := hf.to rfl hf.2.2.2.2.1 rfl rfl rfl rfl hf.2.2.2.2.2.2.1 (fun j hj => by
        show va_up A.2.1 0 _ j = A.2.1 j
        rw [va_up_ne _ _ (by omega)]) rfl
      have hL0 : (aPl A 0 (A.2.1 0 ++ [t])).2.1 0 = A.2.1 0 ++ [t] := by
        show va_up A.2.1 0 (A.2.1 0 ++ [t]) 0 = _
        rw [va_up_self]
      obtain ⟨hr, hpub⟩ := pub_mk hp F1w P1 ⟨hfA, by rw [hL0]; exact all_snoc (P := fun u => 0 ≤ u) hpos (tTok_pos ht), by rw [hL0, List.length_append]; show _ + 1 ≤ 3000; omega⟩ ⟨p, q, X2⟩ (by rw [hL0]; exact V2) (by rw [s1 21 (by decide)]; exact hp.2.2.2.2.2.1) hp.2.2.2.2.2.2.1 hp.2.2.2.2.2.2.2
      refine ⟨_, h1, _, st', _, e1, ref_obj hr, ?_, hpub, rfl⟩
      have := p_token (x + 85) h1 t st
      rw [← hr, e2] at this
      exact this
    · rw [if_neg hl] at e1
      rw [if_neg (fun q => hl q.2)] at P1
      exact hsame _ e1 (g_token_full hV ht (by omega)) P1
theorem pub_expand {n x nx : Nat} {b : Int32} {st : rS} {o : oT} {h : hH} {cp : Nat → Nat} {A : aS} (hp : Pub x nx st o h cp A) (hn : 100000000 < n) : ∃ (v : Int32) (dn ds : Nat) (h1 h2 : hH) (st' : rS) (o' : oT) (cp' : Nat → Nat) (A' : aS), f_MacroExpand_expand n x b nx h = some (v, dn, ds, h1) ∧ (∃ c, hObj h1 (x + 85) 1 = some c) ∧ f_MacroExpandModel_expand n (x + 85) b h1 = some (v, h2) ∧ Pub x (nx + dn) st' o' h2 cp' A' ∧ dn + sumN cp 21 + 40 * (A.2.1 2).length ≤ 40 + sumN cp' 21 + 40 * (A'.2.1 2).length ∧ ds + 4 * sumN cp 21 + 3000 * (A.2.1 2).length ≤ 200 + 4 * sumN cp' 21 + 3000 * (A'.2.1 2).length := by
  obtain ⟨p, q, hX⟩ := hp.2.2.2.1
  obtain ⟨res, hR, hf, hz⟩ := pRun_ends b hp.2.2.1 hp.c16
  obtain ⟨dn, ds, cp', o', h1, p', q', e1, F1, C1, P1⟩ := c_expand (n := n) (b := b) hp.1 hp.2.2.1 hR hn
  obtain ⟨st', e2, X2, V2, h21⟩ := g_expand_at (n := n) (b := b) hX hp.2.2.2.2.1 hp.2.2.1 hR hn
  have hl2 : (aMl (eFin res) p' q').2.1 2 = res.2.2.1 2 := by
    show (eFin res).2.1 2 = _
    unfold eFin
    split <;> rfl
  have h6 : (aMl (eFin res) p' q').1 6 = res.1 := by
    rw [aMl_i (by decide) (by decide)]
    unfold eFin
    split
    · rename_i hz'
      exact hz'.symm
    · rfl
  have hfin : pInv (aMl (eFin res) p' q') := by
    unfold eFin
    split
    · rename_i hz'
      exact ⟨hf.to rfl hf.2.2.2.2.1 rfl rfl rfl rfl hf.2.2.2.2.2.2.1 (fun _ _ => rfl) rfl, (hz hz').1, (hz hz').2⟩
    · exact ⟨hf.to rfl hf.2.2.2.2.1 rfl rfl rfl rfl hf.2.2.2.2.2.2.1 (fun j hj => by
        show va_up res.2.2.1 0 [] j = res.2.2.1 j
        rw [va_up_ne _ _ (by omega)]) rfl, fun t ht => by
        rw [show (aMl (aPi (aPi (aPl res.2 0 []) 6 res.1) 7 (res.2.1 2)) p' q').2.1 0 = [] from rfl] at ht
        simp at ht, by show (0 : Nat) ≤ 3000; omega⟩
  obtain ⟨hr, hpub⟩ := pub_mk hp F1 P1 hfin ⟨(eFin res).1 8, (eFin res).1 9, by rw [aMl_aMl, aMl_same]; exact X2⟩ V2 (h21.trans h6.symm) (fun q0 => by
    rw [h6] at q0
    rw [aMl_i (by decide) (by decide)]
    unfold eFin
    rw [if_pos q0]
    rfl) (fun q0 => by
    rw [h6] at q0
    rw [aMl_i (by decide) (by decide), aMl_i (by decide) (by decide)]
    unfold eFin
    rw [if_neg q0]
    rfl)
  refine ⟨_, dn, ds, h1, _, st', o', cp', _, e1, ref_obj hr, ?_, hpub, ?_, ?_⟩
  · have := p_expand n (x + 85) h1 b st
    rw [← hr, e2] at this
    exact this
  · rw [hl2]
    have := C1.1
    omega
  · rw [hl2]
    have := C1.2
    omega
theorem pub_at {x nx : Nat} {i : Int32} {st : rS} {o : oT} {h : hH} {cp : Nat → Nat} {A : aS} (hp : Pub x nx st o h cp A) : ∃ v, f_MacroExpand_at x i h = some v ∧ f_MacroExpandModel_at (x + 85) i h = some v := by
  obtain ⟨p, q, hX⟩ := hp.2.2.2.1
  refine ⟨_, c_at hp.1 i, ?_⟩
  have := p_at (x + 85) h i st
  rw [← hp.2.1, g_at_at (os := A.2.1 1) hX.2.2.2.2.2.2.1] at this
  exact this
theorem pub_input {x nx : Nat} {i : Int32} {st : rS} {o : oT} {h : hH} {cp : Nat → Nat} {A : aS} (hp : Pub x nx st o h cp A) : ∃ v, f_MacroExpand_input x i h = some v ∧ f_MacroExpandModel_input (x + 85) i h = some v := by
  refine ⟨_, c_input hp.1 i, ?_⟩
  have := p_input (x + 85) h i st
  rw [← hp.2.1, g_input_at hp.2.2.2.2.1] at this
  exact this
theorem pub_macro {x nx : Nat} {i : Int32} {st : rS} {o : oT} {h : hH} {cp : Nat → Nat} {A : aS} (hp : Pub x nx st o h cp A) : ∃ v, f_MacroExpand_macro x i h = some v ∧ f_MacroExpandModel_macro (x + 85) i h = some v := by
  obtain ⟨p, q, hX⟩ := hp.2.2.2.1
  refine ⟨_, c_macro hp.1 i, ?_⟩
  have := p_macro (x + 85) h i st
  rw [← hp.2.1, g_macro_at] at this
  rw [this]
  have hm : (List.range 200).map (st.2 8) = (List.range 200).map (A.2.2.1 0) := by
    apply List.map_congr_left
    intro j hj
    exact hX.M.2.2.1 j (List.mem_range.mp hj)
  rw [hm]
theorem pub_fault {x nx : Nat} {i : Int32} {st : rS} {o : oT} {h : hH} {cp : Nat → Nat} {A : aS} (hp : Pub x nx st o h cp A) : ∃ v, f_MacroExpand_fault x i h = some v ∧ f_MacroExpandModel_fault (x + 85) i h = some v := by
  obtain ⟨p, q, hX⟩ := hp.2.2.2.1
  refine ⟨_, c_fault hp.1 i, ?_⟩
  have := p_fault (x + 85) h i st
  rw [← hp.2.1, g_fault_at (f := A.1 6) (v := A.1 7) (s := A.1 1) hp.2.2.2.2.2.1 hp.2.2.2.2.2.2.1 (fun q0 => (hp.2.2.2.2.2.2.2 q0).trans hX.2.2.1.symm) hX.2.1] at this
  exact this
theorem pub_named {x nx : Nat} {i : Int32} {st : rS} {o : oT} {h : hH} {cp : Nat → Nat} {A : aS} (hp : Pub x nx st o h cp A) : ∃ v, f_MacroExpand_named x i h = some v ∧ f_MacroExpandModel_named (x + 85) i h = some v := by
  obtain ⟨p, q, hX⟩ := hp.2.2.2.1
  refine ⟨_, c_named hp.1 i, ?_⟩
  have := p_named (x + 85) h i st
  rw [← hp.2.1, g_named_at (A := A) (hX.2.2.2.2.2.1.abs rfl (fun _ _ _ => rfl))] at this
  exact this
theorem pub_traced {x nx : Nat} {i w : Int32} {st : rS} {o : oT} {h : hH} {cp : Nat → Nat} {A : aS} (hp : Pub x nx st o h cp A) : ∃ v, f_MacroExpand_traced x i w h = some v ∧ f_MacroExpandModel_traced (x + 85) i w h = some v := by
  obtain ⟨p, q, hX⟩ := hp.2.2.2.1
  refine ⟨_, c_traced hp.1 i w, ?_⟩
  have := p_traced (x + 85) h i w st
  rw [← hp.2.1, g_traced_at (tr := A.2.2.2) hX.2.2.2.1] at this
  exact this
