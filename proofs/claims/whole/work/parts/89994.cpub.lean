/-! THE CLASS'S CALLS -/
theorem c_input {x nx : Nat} {o : oT} {h : hH} {cp : Nat → Nat} {A : aS} (hP : cP x o nx h cp A) (i : Int32) : f_MacroExpand_input x i h = some (mAt (A.2.1 0) i) := by
  unfold f_MacroExpand_input
  rw [k0_g2 hP.2.1.1, Option.bind_some, Option.bind_some, hP.1.2.2.1.obj, Option.bind_some, hP.1.2.2.1.get, Option.bind_some]
theorem c_macro {x nx : Nat} {o : oT} {h : hH} {cp : Nat → Nat} {A : aS} (hP : cP x o nx h cp A) (i : Int32) : f_MacroExpand_macro x i h = some (mAt ((List.range 200).map (A.2.2.1 0)) i) := by
  have hB := hP.1.2.2.2.2.2.2.1
  obtain ⟨fs, ho⟩ := hB.obj
  unfold f_MacroExpand_macro
  rw [k0_g0 hP.2.1.1, Option.bind_some, Option.bind_some, ho, Option.bind_some, hB.numberOf, Option.bind_some]
theorem c_at {x nx : Nat} {o : oT} {h : hH} {cp : Nat → Nat} {A : aS} (hP : cP x o nx h cp A) (i : Int32) : f_MacroExpand_at x i h = some (mAt (A.2.1 1) i) := by
  have hW := hP.2.2.2.1
  obtain ⟨fs, ho⟩ := hW.2.2.1.obj
  unfold f_MacroExpand_at
  rw [k0_g4 hP.2.1.1, Option.bind_some, Option.bind_some, k11_g4 hW.1, Option.bind_some, Option.bind_some, ho, Option.bind_some, hW.2.2.1.get (by decide), Option.bind_some]
theorem c_fault {x nx : Nat} {o : oT} {h : hH} {cp : Nat → Nat} {A : aS} (hP : cP x o nx h cp A) (i : Int32) : f_MacroExpand_fault x i h = some (if i = 0 then A.1 6 else if i = 1 then A.1 7 else if i = 2 then A.1 1 else -2) := by
  unfold f_MacroExpand_fault
  rw [k0_g5 hP.2.1.1, k0_g6 hP.2.1.1, k0_g3 hP.2.1.1]
  simp only [Option.bind_some]
  rw [k5_g12 hP.1.2.2.2.1.eo.1, Option.bind_some]
  by_cases h0 : i = 0
  · rw [if_pos h0, if_pos h0]
  · rw [if_neg h0, if_neg h0]
    by_cases h1 : i = 1
    · rw [if_pos h1, if_pos h1]
    · rw [if_neg h1, if_neg h1]
      by_cases h2 : i = 2
      · rw [if_pos h2, if_pos h2]
      · rw [if_neg h2, if_neg h2]
theorem c_named {x nx : Nat} {o : oT} {h : hH} {cp : Nat → Nat} {A : aS} (hP : cP x o nx h cp A) (i : Int32) : f_MacroExpand_named x i h = some (if i = -1 then A.1 16 else mAt ((List.range (A.1 16).toNatClampNeg).map (fun j => nI (A.2.1 (100 + j)).length)) i) := by
  have hS := hP.1.2.1
  obtain ⟨fs, ho⟩ := hS.obj
  obtain ⟨f, g, c, e1, e2, e3, t1, t2, t3, hc, hc2, r⟩ := hS
  unfold f_MacroExpand_named f_Spelling_lengthOf
  rw [k0_g1 hP.2.1.1]
  simp only [Option.bind_some]
  rw [k9_g2 e1, ho, hc, nI_clamp (by omega)]
  simp only [Option.bind_some]
  by_cases hm : i = -1
  · rw [if_pos hm, if_pos hm]
  · rw [if_neg hm, if_neg hm]
    by_cases h0 : i < 0
    · rw [if_pos h0, Option.bind_some, mAt_out (Or.inl h0)]
    · rw [if_neg h0]
      obtain ⟨j, hj, rfl⟩ := nI_of h0
      by_cases h1 : c ≤ j
      · rw [if_pos (nI_le h1 hj), Option.bind_some, mAt_out (Or.inr ⟨j, by simpa using h1, hj, rfl⟩)]
      · rw [if_neg (nI_ge (by omega) (by omega)), k9_g1 e1]
        simp only [Option.bind_some]
        rw [kA_len e3, Option.bind_some, if_neg (nI_ge (by omega) (by omega)), kA_get e3 (by omega) (by decide), Option.bind_some, Option.bind_some, (r j (by omega)).1, mAt_in (t := nI (A.2.1 (100 + j)).length) (by simp [List.getElem?_range (show j < c by omega)]) hj]
/-- what is asked of a line of the trace -/
def tAt (tr : List (Int32 × Int32 × Int32)) (i w : Int32) : Int32 := if w = 0 then mAt (tr.map (fun q => q.1)) i else if w = 1 then mAt (tr.map (fun q => q.2.1)) i else if w = 2 then mAt (tr.map (fun q => q.2.2)) i else -1
theorem c_traced {x nx : Nat} {o : oT} {h : hH} {cp : Nat → Nat} {A : aS} (hP : cP x o nx h cp A) (i w : Int32) : f_MacroExpand_traced x i w h = some (tAt A.2.2.2 i w) := by
  have hT := hP.1.2.2.2.2.1
  obtain ⟨fs, ho⟩ := hT.obj
  obtain ⟨f, g, k, e1, e2, e3, e4, t1, t2, t3, t4, hl, r⟩ := hT
  unfold f_MacroExpand_traced f_Trace_get
  rw [k0_g3 hP.2.1.1, Option.bind_some, Option.bind_some, k5_g4 hP.1.2.2.2.1.eo.1, Option.bind_some, Option.bind_some, ho, Option.bind_some]
  have hneg : ∀ i : Int32, (i < 0 ∨ ∃ j, A.2.2.2.length ≤ j ∧ j < 2 ^ 31 ∧ i = nI j) → tAt A.2.2.2 i w = -1 := by
    intro i hi
    unfold tAt
    rw [mAt_out (xs := A.2.2.2.map (fun q => q.1)) (by simpa using hi), mAt_out (xs := A.2.2.2.map (fun q => q.2.1)) (by simpa using hi), mAt_out (xs := A.2.2.2.map (fun q => q.2.2)) (by simpa using hi)]
    split
    · rfl
    · split
      · rfl
      · split <;> rfl
  by_cases h0 : i < 0
  · rw [if_pos h0, Option.bind_some, hneg i (Or.inl h0)]
  · rw [if_neg h0, k10_g3 e1, Option.bind_some]
    obtain ⟨j, hj, rfl⟩ := nI_of h0
    by_cases h1 : A.2.2.2.length ≤ j
    · rw [if_pos (nI_le h1 hj), Option.bind_some, hneg _ (Or.inr ⟨j, h1, hj, rfl⟩)]
    · have hgj : A.2.2.2[j]? = some (A.2.2.2[j]'(by omega)) := List.getElem?_eq_getElem (by omega)
      obtain ⟨r1, r2, r3⟩ := r j _ hgj
      rw [if_neg (nI_ge (by omega) (by omega)), if_pos (show nI j < (100 : Int32) from nI_lt (b := 100) (by omega) (by decide)), k10_g0 e1, k10_g1 e1, k10_g2 e1]
      simp only [Option.bind_some]
      rw [kA_get e2 (by omega) (by decide), kA_get e3 (by omega) (by decide), kA_get e4 (by omega) (by decide), r1, r2, r3]
      simp only [Option.bind_some]
      unfold tAt
      rw [mAt_in (xs := A.2.2.2.map (fun q => q.1)) (t := (A.2.2.2[j]'(by omega)).1) (by simp [hgj]) hj, mAt_in (xs := A.2.2.2.map (fun q => q.2.1)) (t := (A.2.2.2[j]'(by omega)).2.1) (by simp [hgj]) hj, mAt_in (xs := A.2.2.2.map (fun q => q.2.2)) (t := (A.2.2.2[j]'(by omega)).2.2) (by simp [hgj]) hj]
      by_cases w0 : w = 0
      · rw [if_pos w0, if_pos w0, Option.bind_some]
      · rw [if_neg w0, if_neg w0]
        by_cases w1 : w = 1
        · rw [if_pos w1, if_pos w1, Option.bind_some]
        · rw [if_neg w1, if_neg w1]
          by_cases w2 : w = 2
          · rw [if_pos w2, if_pos w2, Option.bind_some]
          · rw [if_neg w2, if_neg w2, Option.bind_some]
theorem c_token {x nx : Nat} {o : oT} {h : hH} {cp : Nat → Nat} {A : aS} (hP : cP x o nx h cp A) (t : Int32) : ∃ h', f_MacroExpand_token x t h = some (if tTok t = false then -2 else if (A.2.1 0).length < 3000 then nI ((A.2.1 0).length + 1) else -4, h') ∧ Fr (fun b => b = 3) o o h h' ∧ cP x o nx h' cp (if tTok t = true ∧ (A.2.1 0).length < 3000 then aPl A 0 (A.2.1 0 ++ [t]) else A) := by
  have hI := hP.1.2.2.1
  unfold f_MacroExpand_token
  rw [c_tok, Option.bind_some, b01_if]
  cases ht : tTok t with
  | false =>
    refine ⟨h, rfl, Fr.rf _ _ _, ?_⟩
    rw [if_neg (fun q => by cases q.1)]
    exact hP
  | true =>
    rw [if_pos rfl, if_neg (by decide), k0_g2 hP.2.1.1]
    simp only [Option.bind_some]
    rw [hI.obj]
    simp only [Option.bind_some]
    rw [hI.isFull, Option.bind_some]
    by_cases hl : (A.2.1 0).length < 3000
    · rw [if_pos (show (if (A.2.1 0).length < 3000 then (0 : Int32) else 1) = 0 from if_pos hl)]
      obtain ⟨h1, e1, I1, F1⟩ := hI.addLast t hl
      have P1 := hP.i F1 I1
      rw [e1]
      simp only [hbW]
      rw [k0_g2 P1.2.1.1, Option.bind_some, Option.bind_some, I1.size, Option.bind_some]
      refine ⟨h1, ?_, F1, ?_⟩
      · rw [if_pos hl, List.length_append]
        rfl
      · rw [if_pos ⟨trivial, hl⟩]
        exact P1
    · rw [if_neg (show ¬ (if (A.2.1 0).length < 3000 then (0 : Int32) else 1) = 0 by rw [if_neg hl]; decide)]
      refine ⟨h, ?_, Fr.rf _ _ _, ?_⟩
      · rw [if_neg hl]
      · rw [if_neg (fun q => hl q.2)]
        exact hP
/-- the groups -/
def aOpen (A : aS) (g : Nat) : aS := (upd A.1 15 (nI (g + 1)), A.2.1, va_up A.2.2.1 (1 + g) (A.2.2.1 0), A.2.2.2)
def aClose (A : aS) (g : Nat) : aS := (upd A.1 15 (nI (g - 1)), A.2.1, va_up A.2.2.1 0 (A.2.2.1 (1 + (g - 1))), A.2.2.2)
theorem cP.bk {x nx : Nat} {o : oT} {h h' : hH} {cp : Nat → Nat} {A B : aS} (hP : cP x o nx h cp A) (F : Fr (fun b => b = 1) o o h h') (hB : cB x o h' B) (hi : ∀ j, j ≠ 15 → B.1 j = A.1 j) (hl : B.2.1 = A.2.1) (ht : B.2.2.2 = A.2.2.2) : cP x o nx h' cp B := by
  obtain ⟨ho, hS, hI, hE, hT, hA, -, ar, hR⟩ := hP.1
  refine ⟨⟨ho, (hS.fr F (by decide)).abs (hi 16 (by decide)) (fun j _ _ => by rw [hl]), by rw [hl]; exact hI.fr F (by decide), hE.to _ F (by decide) (by rw [hl]) (fun j _ _ => by rw [hl]) ?_, by rw [ht]; exact hT.fr F (by decide), hA.fr F (by decide), hB, ar, hR.fr F (fun a _ _ => by show ¬ 19 + a = 1; omega)⟩, hP.2.1.fr F (by decide) (hi 6 (by decide)) (hi 7 (by decide)), hP.2.2.1.fr F (by decide) (fun l h1 h2 => by show ¬ l = 1; omega) (fun j h1 h2 => hi j (by omega)) (fun j _ _ => by rw [hl]) (fun _ _ _ => rfl), hP.2.2.2.1.fr F (by decide) (by decide) (hi 8 (by decide)) (hi 9 (by decide)) (by rw [hl]) rfl, hP.2.2.2.2⟩
  rw [hl, hi 0 (by decide), hi 4 (by decide), hi 3 (by decide), hi 1 (by decide), hi 2 (by decide)]
  exact hE.eo.fr F (by decide)
theorem c_group {x nx g : Nat} {b : Int32} {o : oT} {h : hH} {cp : Nat → Nat} {A : aS} (hP : cP x o nx h cp A) (hg15 : A.1 15 = nI g) (hg : g ≤ 20) : ∃ h', f_MacroExpand_group x b h = some (if b = 0 then (if g = 0 then -3 else nI (g - 1)) else if g = 20 then -4 else nI (g + 1), h') ∧ Fr (fun b => b = 1) o o h h' ∧ cP x o nx h' cp (if b = 0 then (if g = 0 then A else aClose A g) else if g = 20 then A else aOpen A g) := by
  have hB := hP.1.2.2.2.2.2.2.1
  obtain ⟨f0, f1, g', e1, e2, e3, e4, e5, hn, hg', hg2, t1, t2, t3, t4, hm⟩ := id hB
  have hgg : g' = g := (nI_eq (by omega) (by omega)).mp (by rw [← hg', hg15])
  subst hgg
  have hmac : ∀ (B : aS) (h' : hH), Fr (fun b => b = 1) o o h h' → B.2.1 = A.2.1 → ∀ m, m < (B.2.1 2).length → ∃ a, f0 m = some a ∧ cMac o h' B m a := by
    intro B h' F hl m hmm
    rw [hl] at hmm
    obtain ⟨a, q1, q2⟩ := hm m hmm
    exact ⟨a, q1, (q2.fr F (fun l h1 h2 => by show ¬ l = 1; omega)).abs (by unfold aNum; rw [hl]) (by unfold aMk; rw [hl]) (fun r _ => by unfold aRow; rw [hl])⟩
  unfold f_MacroExpand_group
  rw [k0_g0 hP.2.1.1]
  simp only [Option.bind_some]
  rw [k3_o e1]
  simp only [Option.bind_some]
  by_cases hb : b = 0
  · rw [if_pos hb]
    simp only [if_pos hb]
    unfold f_Book_closeGroup
    rw [k3_g4 e1, Option.bind_some]
    by_cases h0 : g' = 0
    · simp only [if_pos h0]
      refine ⟨h, ?_, Fr.rf _ _ _, hP⟩
      rw [h0, if_neg (by decide)]
      rfl
    · simp only [if_neg h0]
      rw [if_pos (by rw [← nI_0]; exact nI_lt (by omega) (by omega)), Option.bind_some, show nI g' - 1 = nI (g' - 1) from pk_sub (b := 1) (by omega), k3_p4 e1, Option.bind_some]
      have F1 : Fr (fun b => b = 1) o o h (va_up h (x + 1) (k3 (x + 2) (x + 3) (x + 4) (nI (A.2.1 2).length) (nI (g' - 1)))) := Fr.u1 t1
      generalize hh1 : va_up h (x + 1) (k3 (x + 2) (x + 3) (x + 4) (nI (A.2.1 2).length) (nI (g' - 1))) = h1 at F1
      have a1 : h1 (x + 1) = k3 (x + 2) (x + 3) (x + 4) (nI (A.2.1 2).length) (nI (g' - 1)) := by rw [← hh1, va_up_self]
      have a2 : ∀ c, c ≠ x + 1 → h1 c = h c := fun c hc => by rw [← hh1]; exact va_up_ne _ _ hc
      obtain ⟨ff, w1, w2, w3⟩ := e5 (g' - 1) (by omega)
      have b3 : h1 (x + 3) = kA 200 f1 := (a2 _ (by omega)).trans e3
      have b4 := (a2 (x + 4) (by omega)).trans e4
      have bw : h1 (x + 4 + 1 + (g' - 1)) = kA 200 ff := (a2 _ (by omega)).trans w1
      have F2 : Fr (fun b => b = 1) o o h (va_up h1 (x + 3) (kA 200 (va_cpy ff f1 0 0 200))) := F1.tr (Fr.u1 t3)
      generalize hh2 : va_up h1 (x + 3) (kA 200 (va_cpy ff f1 0 0 200)) = h2 at F2
      have c1 : h2 (x + 1) = k3 (x + 2) (x + 3) (x + 4) (nI (A.2.1 2).length) (nI (g' - 1)) := by
        rw [← hh2, va_up_ne _ _ (by omega)]
        exact a1
      have c2 : ∀ c, c ≠ x + 1 → c ≠ x + 3 → h2 c = h c := fun c h1' h3' => by
        rw [← hh2, va_up_ne _ _ h3']
        exact a2 c h1'
      have B2 : cB x o h2 (aClose A g') := by
        refine ⟨f0, va_cpy ff f1 0 0 200, g' - 1, c1, (c2 _ (by omega) (by omega)).trans e2, by rw [← hh2, va_up_self], (c2 _ (by omega) (by omega)).trans e4, fun j hj => ?_, fun i hi => ?_, rfl, by omega, t1, t2, t3, t4, hmac _ h2 F2 rfl⟩
        · obtain ⟨f, y1, y2, y3⟩ := e5 j hj
          refine ⟨f, (c2 _ (by omega) (by omega)).trans y1, y2, fun hjg i hi => ?_⟩
          show f i = va_up A.2.2.1 0 _ (1 + j) i
          rw [va_up_ne _ _ (by omega)]
          exact y3 (by omega) i hi
        · show va_cpy ff f1 0 0 200 i = va_up A.2.2.1 0 (A.2.2.1 (1 + (g' - 1))) 0 i
          rw [va_up_self, pk_cpy_in (by omega) (by omega), ← w3 (by omega) i hi]
          simp
      have P2 := hP.bk F2 B2 (fun j hj => by show upd A.1 15 _ j = A.1 j; rw [upd_other hj]) rfl rfl
      refine ⟨h2, ?_, F2, P2⟩
      rw [k3_g2 a1, Option.bind_some, k3_g4 a1, Option.bind_some, Option.bind_some, kR_get b4 (by omega) (by decide), Option.bind_some, k3_g1 a1, Option.bind_some, if_pos (show g' - 1 < 20 by omega), Option.bind_some, Option.bind_some, show (hcpI h1 (x + 4 + 1 + (g' - 1)) 0 (x + 3) 0 200 0) = some h2 from by rw [← hh2]; exact kA_cp (sp := 0) (dp := 0) (n := 200) bw b3 (by omega) (by omega) (by omega) (by omega), Option.bind_some]
      simp only [hbW]
      rw [if_neg (by decide), k0_g0 P2.2.1.1, Option.bind_some, Option.bind_some, k3_g4 c1, Option.bind_some]
  · rw [if_neg hb]
    simp only [if_neg hb]
    unfold f_Book_openGroup
    rw [k3_g4 e1, Option.bind_some]
    by_cases h20 : g' = 20
    · simp only [if_pos h20]
      refine ⟨h, ?_, Fr.rf _ _ _, hP⟩
      rw [h20, if_neg (by decide)]
      rfl
    · simp only [if_neg h20]
      obtain ⟨ff, w1, w2, w3⟩ := e5 g' (by omega)
      have F1 : Fr (fun b => b = 1) o o h (va_up h (x + 4 + 1 + g') (kA 200 (va_cpy f1 ff 0 0 200))) := Fr.u1 w2
      generalize hh1 : va_up h (x + 4 + 1 + g') (kA 200 (va_cpy f1 ff 0 0 200)) = h1 at F1
      have a2 : ∀ c, c ≠ x + 4 + 1 + g' → h1 c = h c := fun c hc => by rw [← hh1]; exact va_up_ne _ _ hc
      have a1 := (a2 (x + 1) (by omega)).trans e1
      have F2 : Fr (fun b => b = 1) o o h (va_up h1 (x + 1) (k3 (x + 2) (x + 3) (x + 4) (nI (A.2.1 2).length) (nI (g' + 1)))) := F1.tr (Fr.u1 t1)
      generalize hh2 : va_up h1 (x + 1) (k3 (x + 2) (x + 3) (x + 4) (nI (A.2.1 2).length) (nI (g' + 1))) = h2 at F2
      have c1 : h2 (x + 1) = k3 (x + 2) (x + 3) (x + 4) (nI (A.2.1 2).length) (nI (g' + 1)) := by rw [← hh2, va_up_self]
      have c2 : ∀ c, c ≠ x + 1 → c ≠ x + 4 + 1 + g' → h2 c = h c := fun c h1' h3' => by
        rw [← hh2, va_up_ne _ _ h1']
        exact a2 c h3'
      have B2 : cB x o h2 (aOpen A g') := by
        refine ⟨f0, f1, g' + 1, c1, (c2 _ (by omega) (by omega)).trans e2, (c2 _ (by omega) (by omega)).trans e3, (c2 _ (by omega) (by omega)).trans e4, fun j hj => ?_, fun i hi => ?_, rfl, by omega, t1, t2, t3, t4, hmac _ h2 F2 rfl⟩
        · by_cases hjg : j = g'
          · subst hjg
            refine ⟨va_cpy f1 ff 0 0 200, by rw [← hh2, va_up_ne _ _ (by omega), ← hh1, va_up_self], w2, fun _ i hi => ?_⟩
            show va_cpy f1 ff 0 0 200 i = va_up A.2.2.1 (1 + j) (A.2.2.1 0) (1 + j) i
            rw [va_up_self, pk_cpy_in (by omega) (by omega), ← hn i hi]
            simp
          · obtain ⟨f, y1, y2, y3⟩ := e5 j hj
            refine ⟨f, (c2 _ (by omega) (by omega)).trans y1, y2, fun hjl i hi => ?_⟩
            show f i = va_up A.2.2.1 (1 + g') _ (1 + j) i
            rw [va_up_ne _ _ (by omega)]
            exact y3 (by omega) i hi
        · show f1 i = va_up A.2.2.1 (1 + g') _ 0 i
          rw [va_up_ne _ _ (by omega)]
          exact hn i hi
      have P2 := hP.bk F2 B2 (fun j hj => by show upd A.1 15 _ j = A.1 j; rw [upd_other hj]) rfl rfl
      refine ⟨h2, ?_, F2, P2⟩
      rw [if_pos (show nI g' < (20 : Int32) from nI_lt (b := 20) (by omega) (by decide)), k3_g1 e1, Option.bind_some, k3_g2 e1, Option.bind_some, Option.bind_some, Option.bind_some, kR_get e4 (by omega) (by decide), Option.bind_some, Option.bind_some, if_pos (show g' < 20 by omega), Option.bind_some, show (hcpI h (x + 3) 0 (x + 4 + 1 + g') 0 200 0) = some h1 from by rw [← hh1]; exact kA_cp (sp := 0) (dp := 0) (n := 200) e3 w1 (by omega) (by omega) (by omega) (by omega), Option.bind_some, k3_g4 a1, Option.bind_some, nI_1, k3_p4 a1, Option.bind_some, hh2]
      simp only [hbW]
      rw [if_neg (by decide), k0_g0 P2.2.1.1, Option.bind_some, Option.bind_some, k3_g4 c1, Option.bind_some]
