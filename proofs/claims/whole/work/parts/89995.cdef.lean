/-! THE CLASS'S CALLS: define, body, delimiter -/
def pDef (A : aS) (i1 i2 i3 : Int32) : Int32 × aS := if (i1 < 0 ∨ 200 ≤ i1) ∨ (i2 < 0 ∨ 9 < i2) ∨ (i3 < 0 ∨ 7 < i3) then (-2, A) else if (A.2.1 2).length = 100 then (-4, A) else (nI (A.2.1 2).length, aNew A i1.toNatClampNeg i2.toNatClampNeg i3 (fun _ => []))
theorem c_define {n x nx : Nat} {i1 i2 i3 : Int32} {o : oT} {h : hH} {cp : Nat → Nat} {A : aS} (hP : cP x o nx h cp A) (hN : aNm A) (h3 : (A.2.1 3).length = (A.2.1 2).length) (hn : 50 < n) : ∃ (dn ds : Nat) (o' : oT) (h' : hH), f_MacroExpand_define n x i1 i2 i3 nx h = some ((pDef A i1 i2 i3).1, dn, ds, h') ∧ Fr cWw o o' h h' ∧ dn ≤ 40 ∧ ds ≤ 200 ∧ cP x o' (nx + dn) h' cp (pDef A i1 i2 i3).2 := by
  have hB := hP.1.2.2.2.2.2.2.1
  have h100 := hN.1
  have hbad : ∀ B : aS, B = A → ∃ (dn ds : Nat) (o' : oT) (h' : hH), (some ((-2 : Int32), 0, 0, h) : hR Int32) = some (-2, dn, ds, h') ∧ Fr cWw o o' h h' ∧ dn ≤ 40 ∧ ds ≤ 200 ∧ cP x o' (nx + dn) h' cp B := fun B e => ⟨0, 0, o, h, rfl, Fr.rf _ _ _, by decide, by decide, by rw [e]; exact hP⟩
  unfold f_MacroExpand_define pDef
  by_cases a1 : i1 < 0
  · rw [if_pos a1, if_pos (Or.inl (Or.inl a1))]
    exact hbad _ rfl
  · rw [if_neg a1]
    by_cases a2 : 200 ≤ i1
    · rw [if_pos a2, if_pos (Or.inl (Or.inr a2))]
      exact hbad _ rfl
    · rw [if_neg a2]
      by_cases b1 : i2 < 0
      · rw [if_pos b1, if_pos (Or.inr (Or.inl (Or.inl b1)))]
        exact hbad _ rfl
      · rw [if_neg b1]
        by_cases b2 : 9 < i2
        · rw [if_pos b2, if_pos (Or.inr (Or.inl (Or.inr b2)))]
          exact hbad _ rfl
        · rw [if_neg b2]
          by_cases c1 : i3 < 0
          · rw [if_pos c1, if_pos (Or.inr (Or.inr (Or.inl c1)))]
            exact hbad _ rfl
          · rw [if_neg c1]
            by_cases c2 : 7 < i3
            · rw [if_neg (Int32.not_le.mpr c2), if_pos (Or.inr (Or.inr (Or.inr c2)))]
              exact hbad _ rfl
            · rw [if_pos (Int32.not_lt.mp c2), if_neg (show ¬ ((i1 < 0 ∨ 200 ≤ i1) ∨ (i2 < 0 ∨ 9 < i2) ∨ (i3 < 0 ∨ 7 < i3)) from fun q => by
                rcases q with (q | q) | (q | q) | (q | q)
                · exact a1 q
                · exact a2 q
                · exact b1 q
                · exact b2 q
                · exact c1 q
                · exact c2 q)]
              obtain ⟨nm, hnm, rfl⟩ := nI_of a1
              obtain ⟨k, hk, rfl⟩ := nI_of b1
              have hnm2 : nm < 200 := Nat.lt_of_not_le (fun q => a2 (nI_le q hnm))
              have hk9 : k ≤ 9 := Nat.le_of_not_lt (fun q => b2 (nI_lt (a := 9) q hk))
              obtain ⟨fsB, hoB⟩ := hB.obj
              rw [k0_g0 hP.2.1.1, Option.bind_some, Option.bind_some, hoB, Option.bind_some, hB.isFull hN, Option.bind_some]
              by_cases hf : (A.2.1 2).length = 100
              · rw [if_pos hf, if_neg (by decide), if_pos hf]
                exact ⟨0, 0, o, h, rfl, Fr.rf _ _ _, by decide, by decide, hP⟩
              · rw [if_neg hf, if_pos rfl, if_neg hf, Option.bind_some]
                obtain ⟨o1, h1, ra, ta, f, e1, O1, H1, w1, w2, t1, t2, hr, -, hT⟩ := c_newMacro (n := n) (nx := nx) (k := k) (m := (A.2.1 2).length) (mk := i3) (h := h) hP.1.1 hk9 (by omega)
                have P1 := hP.old H1 O1
                obtain ⟨hnew1, hnew2⟩ := aNew_new (A := A) (nm := nm) (mk := i3) (rows := fun _ => []) hk9 h3
                have hM : cMac o1 h1 (aNew A nm k i3 (fun _ => [])) (A.2.1 2).length nx := by
                  refine ⟨ra, ta, f, ?_, by rw [hnew1]; exact w2, t1, t2, by rw [hnew1]; exact hk9, fun r hrk => ?_, 0, ?_⟩
                  · unfold aLng
                    rw [hnew1, hnew2]
                    exact w1
                  · rw [hnew1] at hrk
                    obtain ⟨b, q1, -, q2⟩ := hr r hrk
                    exact ⟨b, 0, q1, by rw [aNew_row (by omega)]; exact q2⟩
                  · rw [aNew_row (by omega)]
                    exact hT
                have ht : (1000 : Int32) + nI nm - 1000 = nI nm := by
                  rw [show (1000 : Int32) = nI 1000 from rfl, nI_add, pk_sub (b := 1000) (by omega), show 1000 + nm - 1000 = nm by omega]
                obtain ⟨h2, e2, F2, B2⟩ := c_enter (n := n) (t := 1000 + nI nm) (nm := nm) P1.1.2.2.2.2.2.2.1 hN h3 (by omega) ht hnm2 hM (by omega)
                obtain ⟨fsC, hoC⟩ := P1.1.2.2.2.2.2.2.1.obj
                have P2 := P1.new F2 B2
                refine ⟨1 + (2 * k + 5), 5 + (4 * k + 7), o1, h2, ?_, ((H1.fr hP.1.1).tr (F2.mono (fun l q => by unfold cWw; omega))), by omega, by omega, ?_⟩
                · simp only [hbind, hnew]
                  rw [e1]
                  simp only [Option.bind_some]
                  rw [hoC, Option.bind_some, e2]
                  simp only [hbW]
                · rw [nI_clamp hnm, nI_clamp hk, show nx + (1 + (2 * k + 5)) = nx + 1 + (2 * k + 5) by omega]
                  exact P2
theorem c_oneMore {l a c nx : Nat} {t : Int32} {o : oT} {h : hH} {xs : List Int32} (hR : Rw o h l a 200 c xs) (ho : Own o nx) : ∃ (dn ds c' : Nat) (o' : oT) (h' : hH), f_MacroExpand_oneMore a t nx h = some (if xs.length < 200 then nI (xs.length + 1) else -4, dn, ds, h') ∧ Own o' (nx + dn) ∧ Rw o' h' l a 200 c' (if xs.length < 200 then xs ++ [t] else xs) ∧ Fr (fun b => b = l) o o' h h' ∧ dn ≤ 1 ∧ ds ≤ 200 := by
  obtain ⟨fs, hob⟩ := hR.obj
  unfold f_MacroExpand_oneMore
  rw [hob, Option.bind_some, hR.full (by decide), Option.bind_some]
  by_cases hx : xs.length < 200
  · obtain ⟨c', dn, ds, o', h', e1, O1, R1, F1, hd⟩ := hR.add t ho (by decide) hx
    refine ⟨dn, ds, c', o', h', ?_, O1, by rw [if_pos hx]; exact R1, F1, by omega, by omega⟩
    rw [if_pos hx, if_pos rfl, if_pos hx, Option.bind_some, e1]
    simp only [hbind]
    rw [R1.size, Option.bind_some, List.length_append]
    simp
  · refine ⟨0, 0, c, o, h, ?_, ho, by rw [if_neg hx]; exact hR, Fr.rf _ _ _, by decide, by decide⟩
    rw [if_neg hx, if_neg (by decide), if_neg hx]
/-- one macro of the book changes -/
theorem cB.one {x : Nat} {o : oT} {h : hH} {A : aS} {m : Nat} (hB : cB x o h A) (hm : m < (A.2.1 2).length) (hN : aNm A) : ∃ a, f_Book_numbered (x + 1) (nI m) h = some (some a) ∧ cMac o h A m a ∧ ∀ (W : Nat → Prop) (o' : oT) (h' : hH) (B : aS), Fr W o o' h h' → ¬ W 1 → (∀ l, 100 ≤ l → (l < 100 + 20 * m ∨ 120 + 20 * m ≤ l) → ¬ W l) → B.2.1 2 = A.2.1 2 → B.2.1 3 = A.2.1 3 → (∀ j, 1000 ≤ j → (j < 1000 + 20 * m ∨ 1020 + 20 * m ≤ j) → B.2.1 j = A.2.1 j) → B.2.2.1 = A.2.2.1 → B.1 15 = A.1 15 → cMac o' h' B m a → cB x o' h' B := by
  obtain ⟨f0, f1, g, e1, e2, e3, e4, e5, hn, hg, hg2, t1, t2, t3, t4, hmm⟩ := hB
  have h100 := hN.1
  obtain ⟨a, q1, q2⟩ := hmm m hm
  refine ⟨a, ?_, q2, fun W o' h' B F w1 w hb2 hb3 hbj hbf hb15 hM => ?_⟩
  · unfold f_Book_numbered
    rw [if_neg (nI_pos (by omega)), k3_g3 e1, Option.bind_some, if_neg (nI_ge (by omega) (by omega)), k3_g0 e1]
    simp only [Option.bind_some]
    rw [kR_len e2, Option.bind_some, if_neg (nI_ge (by omega) (by omega)), kR_get e2 (by omega) (by decide), Option.bind_some, q1]
  · refine ⟨f0, f1, g, by rw [hb2]; exact ((F _ _ t1).2 w1).trans e1, ((F _ _ t2).2 w1).trans e2, ((F _ _ t3).2 w1).trans e3, ((F _ _ t4).2 w1).trans e4, fun j hj => ?_, by rw [hbf]; exact hn, hb15.trans hg, hg2, (F _ _ t1).1, (F _ _ t2).1, (F _ _ t3).1, (F _ _ t4).1, fun m' hm' => ?_⟩
    · obtain ⟨f, y1, y2, y3⟩ := e5 j hj
      exact ⟨f, ((F _ _ y2).2 w1).trans y1, (F _ _ y2).1, by rw [hbf]; exact y3⟩
    · rw [hb2] at hm'
      by_cases hmm' : m' = m
      · subst hmm'
        exact ⟨a, q1, hM⟩
      · obtain ⟨a', y1, y2⟩ := hmm m' hm'
        exact ⟨a', y1, (y2.fr F (fun l h1 h2 => w l (by omega) (by omega))).abs (by unfold aNum; rw [hb2]) (by unfold aMk; rw [hb3]) (fun r hr => hbj _ (by omega) (by omega))⟩
/-- the macros change, the rest stands -/
theorem cP.mac {x nx nx' : Nat} {o o' : oT} {h h' : hH} {cp : Nat → Nat} {A B : aS} (hP : cP x o nx h cp A) (F : Fr (fun b => 100 ≤ b) o o' h h') (hO : Own o' nx') (hB : cB x o' h' B) (hi : B.1 = A.1) (hl : ∀ j, j < 1000 → B.2.1 j = A.2.1 j) (ht : B.2.2.2 = A.2.2.2) : cP x o' nx' h' cp B := by
  obtain ⟨ho, hS, hI, hE, hT, hA, -, ar, hR⟩ := hP.1
  refine ⟨⟨hO, (hS.fr F (by decide)).abs (by rw [hi]) (fun j _ _ => hl j (by omega)), by rw [hl 0 (by decide)]; exact hI.fr F (by decide), hE.to _ F (by decide) (hl 8 (by decide)) (fun j _ _ => hl j (by omega)) ?_, by rw [ht]; exact hT.fr F (by decide), hA.fr F (by decide), hB, ar, hR.fr F (fun a _ _ => by show ¬ 100 ≤ 19 + a; omega)⟩, hP.2.1.fr F (by decide) (by rw [hi]) (by rw [hi]), hP.2.2.1.fr F (by decide) (fun l h1 h2 => by show ¬ 100 ≤ l; omega) (fun j h1 h2 => by rw [hi]) (fun j _ _ => hl j (by omega)) (fun _ _ _ => rfl), hP.2.2.2.1.fr F (by decide) (by decide) (by rw [hi]) (by rw [hi]) (hl 1 (by decide)) rfl, fun j hj => (F _ _ (hP.2.2.2.2 j hj)).1⟩
  rw [hl 8 (by decide), hi]
  exact hE.eo.fr F (by decide)
/-- one row of macro m takes one more -/
def aMore (A : aS) (m r : Nat) (t : Int32) : aS := aPl A (1000 + 20 * m + r) (if (aRow A m r).length < 200 then aRow A m r ++ [t] else aRow A m r)
theorem aMore_l {A : aS} {m r : Nat} {t : Int32} {j : Nat} (hj : j ≠ 1000 + 20 * m + r) : (aMore A m r t).2.1 j = A.2.1 j := va_up_ne _ _ hj
theorem aMore_row {A : aS} {m r : Nat} {t : Int32} : aRow (aMore A m r t) m r = (if (aRow A m r).length < 200 then aRow A m r ++ [t] else aRow A m r) := va_up_self _ _ _
def pBody (A : aS) (i1 t : Int32) : Int32 × aS := if i1 < 0 ∨ nI (A.2.1 2).length ≤ i1 then (-1, A) else if tTok t = false then (-2, A) else (if (aRow A i1.toNatClampNeg 10).length < 200 then nI ((aRow A i1.toNatClampNeg 10).length + 1) else -4, aMore A i1.toNatClampNeg 10 t)
theorem c_body {x nx : Nat} {i1 t : Int32} {o : oT} {h : hH} {cp : Nat → Nat} {A : aS} (hP : cP x o nx h cp A) (hN : aNm A) : ∃ (dn ds : Nat) (o' : oT) (h' : hH), f_MacroExpand_body x i1 t nx h = some ((pBody A i1 t).1, dn, ds, h') ∧ Fr cWw o o' h h' ∧ dn ≤ 1 ∧ ds ≤ 200 ∧ cP x o' (nx + dn) h' cp (pBody A i1 t).2 := by
  have hB := hP.1.2.2.2.2.2.2.1
  have h100 := hN.1
  obtain ⟨fsB, hoB⟩ := hB.obj
  unfold f_MacroExpand_body pBody
  rw [k0_g0 hP.2.1.1, Option.bind_some, Option.bind_some, hoB, Option.bind_some]
  rcases hB.numbered hN i1 with ⟨m, a', rfl, hm, -, -⟩ | ⟨q1, q2⟩
  · obtain ⟨a, q3, hM, hone⟩ := hB.one hm hN
    rw [q3, Option.bind_some, if_neg (show ¬ (nI m < 0 ∨ nI (A.2.1 2).length ≤ nI m) from fun q => q.elim (nI_pos (by omega)) (nI_ge (by omega) (by omega))), nI_clamp (by omega)]
    simp only [hNull]
    rw [c_tok, Option.bind_some, b01_if]
    cases ht : tTok t with
    | false =>
      exact ⟨0, 0, o, h, rfl, Fr.rf _ _ _, by decide, by decide, hP⟩
    | true =>
      rw [if_pos rfl, if_neg (by decide)]
      obtain ⟨ra, ta, f, e1, e2, t1, t2, hk, hr, c, hT⟩ := id hM
      obtain ⟨dn, ds, c', o1, h1, e3, O1, R1, F1, hdn, hds⟩ := c_oneMore (t := t) hT hP.1.1
      have hM1 : cMac o1 h1 (aMore A m 10 t) m a := by
        refine ⟨ra, ta, f, ((F1 _ _ t1).2 (by show ¬ 100 + 20 * m = 112 + 20 * m; omega)).trans e1, ((F1 _ _ t2).2 (by show ¬ 100 + 20 * m = 112 + 20 * m; omega)).trans e2, (F1 _ _ t1).1, (F1 _ _ t2).1, hk, fun r hrk => ?_, c', by rw [aMore_row]; exact R1⟩
        obtain ⟨b, cc, y1, y2⟩ := hr r hrk
        have hk' : r ≤ 9 := Nat.le_trans hrk hk
        refine ⟨b, cc, y1, ?_⟩
        rw [show aRow (aMore A m 10 t) m r = aRow A m r from aMore_l (by omega)]
        exact y2.fr F1 (by show ¬ 101 + 20 * m + r = 112 + 20 * m; omega)
      have B1 := hone (fun b => b = 112 + 20 * m) o1 h1 (aMore A m 10 t) F1 (by show ¬ 1 = 112 + 20 * m; omega) (fun l h1 h2 => by show ¬ l = 112 + 20 * m; omega) (aMore_l (by omega)) (aMore_l (by omega)) (fun j h1 h2 => aMore_l (by omega)) rfl rfl hM1
      refine ⟨dn, ds, o1, h1, ?_, F1.mono (fun l q => by unfold cWw; omega), hdn, hds, hP.mac (F1.mono (fun l q => by show 100 ≤ l; omega)) O1 B1 rfl (fun j hj => aMore_l (by omega)) rfl⟩
      rw [k7_g4 e1, Option.bind_some, Option.bind_some, e3]
      simp only [hbind]
      simp
  · rw [q2, Option.bind_some, if_pos q1]
    exact ⟨0, 0, o, h, rfl, Fr.rf _ _ _, by decide, by decide, hP⟩
def pDel (A : aS) (i1 i2 t : Int32) : Int32 × aS := if i1 < 0 ∨ nI (A.2.1 2).length ≤ i1 then (-1, A) else if i2 < 0 ∨ nI (aNum A i1.toNatClampNeg) < i2 then (-2, A) else if tDel t = false then (-2, A) else (if (aRow A i1.toNatClampNeg i2.toNatClampNeg).length < 200 then nI ((aRow A i1.toNatClampNeg i2.toNatClampNeg).length + 1) else -4, aMore A i1.toNatClampNeg i2.toNatClampNeg t)
theorem c_delimiter {x nx : Nat} {i1 i2 t : Int32} {o : oT} {h : hH} {cp : Nat → Nat} {A : aS} (hP : cP x o nx h cp A) (hN : aNm A) : ∃ (dn ds : Nat) (o' : oT) (h' : hH), f_MacroExpand_delimiter x i1 i2 t nx h = some ((pDel A i1 i2 t).1, dn, ds, h') ∧ Fr cWw o o' h h' ∧ dn ≤ 1 ∧ ds ≤ 200 ∧ cP x o' (nx + dn) h' cp (pDel A i1 i2 t).2 := by
  have hB := hP.1.2.2.2.2.2.2.1
  have h100 := hN.1
  obtain ⟨fsB, hoB⟩ := hB.obj
  unfold f_MacroExpand_delimiter pDel
  rw [k0_g0 hP.2.1.1, Option.bind_some, Option.bind_some, hoB, Option.bind_some]
  rcases hB.numbered hN i1 with ⟨m, a', rfl, hm, -, -⟩ | ⟨q1, q2⟩
  · obtain ⟨a, q3, hM, hone⟩ := hB.one hm hN
    rw [q3, Option.bind_some, if_neg (show ¬ (nI m < 0 ∨ nI (A.2.1 2).length ≤ nI m) from fun q => q.elim (nI_pos (by omega)) (nI_ge (by omega) (by omega))), nI_clamp (show m < 2 ^ 31 by omega)]
    simp only [hNull]
    obtain ⟨ra, ta, f, e1, e2, t1, t2, hk, hr, c, hT⟩ := id hM
    by_cases i2n : i2 < 0
    · rw [if_pos i2n, if_pos (Or.inl i2n)]
      exact ⟨0, 0, o, h, rfl, Fr.rf _ _ _, by decide, by decide, hP⟩
    · rw [if_neg i2n, k7_g0 e1, Option.bind_some]
      by_cases i2k : nI (aNum A m) < i2
      · rw [if_pos i2k, if_pos (Or.inr i2k)]
        exact ⟨0, 0, o, h, rfl, Fr.rf _ _ _, by decide, by decide, hP⟩
      · rw [if_neg i2k, if_neg (fun q => q.elim i2n i2k), c_del, Option.bind_some, b01_if]
        cases ht : tDel t with
        | false =>
          exact ⟨0, 0, o, h, rfl, Fr.rf _ _ _, by decide, by decide, hP⟩
        | true =>
          obtain ⟨r, hr31, rfl⟩ := nI_of i2n
          have hrk : r ≤ aNum A m := Nat.le_of_not_lt (fun q => i2k (nI_lt q hr31))
          obtain ⟨b, cc, y1, y2⟩ := hr r hrk
          rw [if_pos rfl, if_neg (by decide), k7_o e1, Option.bind_some, c_mrow e1 e2 hk hrk, Option.bind_some, y1, Option.bind_some, nI_clamp hr31]
          obtain ⟨dn, ds, c', o1, h1, e3, O1, R1, F1, hdn, hds⟩ := c_oneMore (t := t) y2 hP.1.1
          have hM1 : cMac o1 h1 (aMore A m r t) m a := by
            have n1 : aNum (aMore A m r t) m = aNum A m := by unfold aNum; rw [aMore_l (by omega)]
            have n2 : aMk (aMore A m r t) m = aMk A m := by unfold aMk; rw [aMore_l (by omega)]
            have n3 : aLng (aMore A m r t) m = aLng A m := by unfold aLng; rw [n2]
            refine ⟨ra, ta, f, by rw [n1, n2, n3]; exact ((F1 _ _ t1).2 (by show ¬ 100 + 20 * m = 101 + 20 * m + r; omega)).trans e1, by rw [n1]; exact ((F1 _ _ t2).2 (by show ¬ 100 + 20 * m = 101 + 20 * m + r; omega)).trans e2, (F1 _ _ t1).1, (F1 _ _ t2).1, by rw [n1]; exact hk, fun r' hrk' => ?_, c, ?_⟩
            · rw [n1] at hrk'
              by_cases hrr : r' = r
              · subst hrr
                exact ⟨b, c', y1, by rw [aMore_row]; exact R1⟩
              · obtain ⟨b', cc', y1', y2'⟩ := hr r' hrk'
                refine ⟨b', cc', y1', ?_⟩
                rw [show aRow (aMore A m r t) m r' = aRow A m r' from aMore_l (by omega)]
                exact y2'.fr F1 (by show ¬ 101 + 20 * m + r' = 101 + 20 * m + r; omega)
            · rw [show aRow (aMore A m r t) m 10 = aRow A m 10 from aMore_l (by omega)]
              exact hT.fr F1 (by show ¬ 112 + 20 * m = 101 + 20 * m + r; omega)
          have B1 := hone (fun b => b = 101 + 20 * m + r) o1 h1 (aMore A m r t) F1 (by show ¬ 1 = 101 + 20 * m + r; omega) (fun l h1 h2 => by show ¬ l = 101 + 20 * m + r; omega) (aMore_l (by omega)) (aMore_l (by omega)) (fun j h1 h2 => aMore_l (by omega)) rfl rfl hM1
          refine ⟨dn, ds, o1, h1, ?_, F1.mono (fun l q => by unfold cWw; omega), hdn, hds, hP.mac (F1.mono (fun l q => by show 100 ≤ l; omega)) O1 B1 rfl (fun j hj => aMore_l (by omega)) rfl⟩
          rw [e3]
          simp only [hbind]
          simp
  · rw [q2, Option.bind_some, if_pos q1]
    exact ⟨0, 0, o, h, rfl, Fr.rf _ _ _, by decide, by decide, hP⟩
