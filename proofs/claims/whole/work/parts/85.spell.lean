/-! THE NAMES THAT THE CLASS MADE -/
def cS (x : Nat) (o : oT) (h : hH) (A : aS) : Prop := ∃ (f g : Nat → Int32) (c : Nat), h (x + 25) = k9 (x + 26) (x + 27) (nI c) ∧ h (x + 26) = kA 800 f ∧ h (x + 27) = kA 100 g ∧ o (x + 25) = some 2 ∧ o (x + 26) = some 2 ∧ o (x + 27) = some 2 ∧ A.1 16 = nI c ∧ c ≤ 100 ∧ ∀ i, i < c → g i = nI (A.2.1 (100 + i)).length ∧ (A.2.1 (100 + i)).length ≤ 8 ∧ ∀ (j : Nat) (t : Int32), (A.2.1 (100 + i))[j]? = some t → f (8 * i + j) = t
theorem cS.fr {W : Nat → Prop} {x : Nat} {o o' : oT} {h h' : hH} {A : aS} (hS : cS x o h A) (F : Fr W o o' h h') (w : ¬ W 2) : cS x o' h' A := by
  obtain ⟨f, g, c, e1, e2, e3, t1, t2, t3, r⟩ := hS
  exact ⟨f, g, c, ((F _ _ t1).2 w).trans e1, ((F _ _ t2).2 w).trans e2, ((F _ _ t3).2 w).trans e3, (F _ _ t1).1, (F _ _ t2).1, (F _ _ t3).1, r⟩
theorem cS.abs {x : Nat} {o : oT} {h : hH} {A B : aS} (hS : cS x o h A) (h16 : B.1 16 = A.1 16) (hl : ∀ j, 100 ≤ j → j < 200 → B.2.1 j = A.2.1 j) : cS x o h B := by
  obtain ⟨f, g, c, e1, e2, e3, t1, t2, t3, hc, hc2, r⟩ := hS
  refine ⟨f, g, c, e1, e2, e3, t1, t2, t3, h16.trans hc, hc2, fun i hi => ?_⟩
  rw [hl (100 + i) (by omega) (by omega)]
  exact r i hi
theorem cS.obj {x : Nat} {o : oT} {h : hH} {A : aS} (hS : cS x o h A) : ∃ fs, hObj h (x + 25) 9 = some fs := by
  obtain ⟨f, g, c, e1, -⟩ := hS
  exact ⟨_, k9_o e1⟩
theorem c_isSpelled {n x i p ra : Nat} {h : hH} {f g s : Nat → Int32} {v : Int32} {w ss : List Int32} (e1 : h (x + 25) = k9 (x + 26) (x + 27) v) (e2 : h (x + 26) = kA 800 f) (e3 : h (x + 27) = kA 100 g) (es : h ra = kA 400 s) (hi : i < 100) (hp : p + 8 ≤ 400) (hg : g i = nI w.length) (hw8 : w.length ≤ 8) (hw : ∀ (j : Nat) (t : Int32), w[j]? = some t → f (8 * i + j) = t) (hs8 : ss.length ≤ 8) (hs : ∀ (j : Nat) (t : Int32), ss[j]? = some t → s (p + j) = t) (hn : 20 < n) : f_Spelling_isSpelled n (x + 25) (nI i) ra (nI p) (nI ss.length) h = some (b01 (decide (w = ss))) := by
  unfold f_Spelling_isSpelled
  rw [k9_g1 e1, Option.bind_some, Option.bind_some, kA_get e3 hi (by decide), Option.bind_some, hg]
  by_cases hl : w.length = ss.length
  · rw [if_pos (by rw [hl])]
    obtain ⟨b, e, hb⟩ := hloopR_rule (body := f_Spelling_isSpelled_b16 n (x + 25) (nI i) ra (nI p) (nI ss.length) h) (fun k v => ∃ j, k = ss.length - j ∧ j ≤ ss.length ∧ v = nI j ∧ ∀ q, q < j → w[q]? = ss[q]?) (fun b => (b = .inl () ∧ w ≠ ss) ∨ (b = .inr () ∧ w = ss))
      (by
        rintro k v ⟨j, rfl, hj, rfl, hq⟩
        by_cases he : j = ss.length
        · refine Or.inr ⟨.inr (), ?_, Or.inr ⟨rfl, ?_⟩⟩
          · unfold f_Spelling_isSpelled_b16
            dsimp only
            rw [if_pos (nI_le (by omega) (by omega))]
          · apply List.ext_getElem?
            intro q
            by_cases hql : q < j
            · exact hq q hql
            · rw [List.getElem?_eq_none (by omega), List.getElem?_eq_none (by omega)]
        · have g1 : w[j]? = some (w[j]'(by omega)) := List.getElem?_eq_getElem (by omega)
          have g2 : ss[j]? = some (ss[j]'(by omega)) := List.getElem?_eq_getElem (by omega)
          have hbd : f_Spelling_isSpelled_b16 n (x + 25) (nI i) ra (nI p) (nI ss.length) h (nI j) = if w[j]'(by omega) = ss[j]'(by omega) then some (.inl (nI (j + 1))) else some (.inr (.inl ())) := by
            unfold f_Spelling_isSpelled_b16
            dsimp only
            rw [if_neg (nI_ge (by omega) (by omega)), k9_g0 e1, Option.bind_some, Option.bind_some, show (8 : Int32) = nI 8 from rfl, pk_mul, nI_add, kA_get e2 (by omega) (by decide), Option.bind_some, nI_add, kA_get es (by omega) (by decide), Option.bind_some, show i * 8 + j = 8 * i + j by omega, hw j _ g1, hs j _ g2, nI_1]
          by_cases heq : w[j]'(by omega) = ss[j]'(by omega)
          · refine Or.inl ⟨nI (j + 1), ss.length - (j + 1), by rw [hbd, if_pos heq], by omega, j + 1, rfl, by omega, rfl, fun q hq2 => ?_⟩
            by_cases hqj : q < j
            · exact hq q hqj
            · rw [show q = j by omega, g1, g2, heq]
          · refine Or.inr ⟨.inl (), by rw [hbd, if_neg heq], Or.inl ⟨rfl, fun q => heq ?_⟩⟩
            have : w[j]? = ss[j]? := by rw [q]
            rw [g1, g2] at this
            exact Option.some.inj this)
      n ss.length (nI 0) (by omega) ⟨0, by omega, by omega, rfl, fun q hq => by omega⟩
    rw [show (0 : Int32) = nI 0 from rfl, e, Option.bind_some]
    rcases hb with ⟨rfl, hb⟩ | ⟨rfl, hb⟩
    · rw [decide_eq_false hb]
      rfl
    · rw [decide_eq_true hb]
      rfl
  · rw [if_neg (fun q => hl ((nI_eq (by omega) (by omega)).mp q)), decide_eq_false (fun q => hl (by rw [q]))]
    rfl
theorem mSpell_some {w : Nat → List Int32} {ss : List Int32} {c i : Nat} (hi : i < c) (h1 : w i = ss) (h2 : ∀ j, j < i → w j ≠ ss) : mSpell w ss c = some i := by
  unfold mSpell
  rw [List.find?_range_eq_some]
  refine ⟨decide_eq_true h1, List.mem_range.mpr hi, fun j hj => ?_⟩
  simp [h2 j hj]
theorem mSpell_none {w : Nat → List Int32} {ss : List Int32} {c : Nat} (h2 : ∀ j, j < c → w j ≠ ss) : mSpell w ss c = none := by
  unfold mSpell
  rw [List.find?_range_eq_none]
  intro j hj
  simp [h2 j hj]
theorem c_numberOf {n x p ra : Nat} {o : oT} {h : hH} {A : aS} {s : Nat → Int32} {ss : List Int32} (hS : cS x o h A) (es : h ra = kA 400 s) (hra : o ra = some 10) (hp : p + 8 ≤ 400) (hs8 : ss.length ≤ 8) (hs : ∀ (j : Nat) (t : Int32), ss[j]? = some t → s (p + j) = t) (hn : 200 < n) : ∃ code h', f_Spelling_numberOf n (x + 25) ra (nI p) (nI ss.length) h = some (code, h') ∧ Fr (fun b => b = 2) o o h h' ∧ match mSpell (fun i => A.2.1 (100 + i)) ss (A.1 16).toNatClampNeg with
    | some i => code = nI i ∧ i < 100 ∧ cS x o h' A
    | none => if (A.1 16).toNatClampNeg = 100 then code = -1 ∧ cS x o h' A else code = nI (A.1 16).toNatClampNeg ∧ (A.1 16).toNatClampNeg < 100 ∧ cS x o h' (aPi (aPl A (100 + (A.1 16).toNatClampNeg) ss) 16 (nI ((A.1 16).toNatClampNeg + 1))) := by
  have hS0 := hS
  obtain ⟨fs, hob⟩ := hS.obj
  obtain ⟨f, g, c, e1, e2, e3, t1, t2, t3, hc, hc2, r⟩ := hS
  rw [hc, nI_clamp (by omega)]
  obtain ⟨b, h1, e, rfl, hb⟩ := hloopW_rule (body := f_Spelling_numberOf_b27 n (x + 25) ra (nI p) (nI ss.length)) (fun k v h1 => ∃ i, k = c - i ∧ i ≤ c ∧ v = nI i ∧ h1 = h ∧ ∀ j, j < i → A.2.1 (100 + j) ≠ ss) (fun b h1 => h1 = h ∧ ((∃ i, b = .inl (nI i) ∧ i < c ∧ A.2.1 (100 + i) = ss ∧ ∀ j, j < i → A.2.1 (100 + j) ≠ ss) ∨ (b = .inr () ∧ ∀ j, j < c → A.2.1 (100 + j) ≠ ss)))
    (by
      rintro k v h1 ⟨i, rfl, hi, rfl, rfl, hj⟩
      by_cases he : i = c
      · refine Or.inr ⟨.inr (), h1, ?_, rfl, Or.inr ⟨rfl, by rw [← he]; exact hj⟩⟩
        unfold f_Spelling_numberOf_b27
        dsimp only
        rw [k9_g2 e1, Option.bind_some, if_pos (nI_le (by omega) (by omega))]
      · obtain ⟨r1, r2, r3⟩ := r i (by omega)
        have hbd : f_Spelling_numberOf_b27 n (x + 25) ra (nI p) (nI ss.length) (nI i) h1 = if b01 (decide (A.2.1 (100 + i) = ss)) = 0 then some (.inl (nI (i + 1)), h1) else some (.inr (.inl (nI i)), h1) := by
          unfold f_Spelling_numberOf_b27
          dsimp only
          rw [k9_g2 e1, Option.bind_some, if_neg (nI_ge (by omega) (by omega)), hob, Option.bind_some, c_isSpelled e1 e2 e3 es (by omega) hp r1 r2 r3 hs8 hs (by omega), Option.bind_some, nI_1]
        by_cases heq : A.2.1 (100 + i) = ss
        · refine Or.inr ⟨.inl (nI i), h1, ?_, rfl, Or.inl ⟨i, rfl, by omega, heq, hj⟩⟩
          rw [hbd, decide_eq_true heq]
          rfl
        · refine Or.inl ⟨nI (i + 1), c - (i + 1), h1, ?_, by omega, i + 1, rfl, by omega, rfl, rfl, fun j hj2 => ?_⟩
          · rw [hbd, decide_eq_false heq]
            rfl
          · by_cases hji : j < i
            · exact hj j hji
            · rw [show j = i by omega]
              exact heq)
    n c (nI 0) h (by omega) ⟨0, by omega, by omega, rfl, rfl, fun j hj => by omega⟩
  have hpre : f_Spelling_numberOf n (x + 25) ra (nI p) (nI ss.length) h1 = hbW (some (b, h1)) fun b27 h27l => match b27 with
      | .inl z27 => some (z27, h27l)
      | .inr (z27) =>
        (hgI h27l (x + 25) 9 2).bind fun v58 =>
        if v58 < (100 : Int32) then
          (hgR h27l (x + 25) 9 0).bind fun v71 =>
          (hgI h27l (x + 25) 9 2).bind fun v75 =>
          (v71).bind fun p82_2 =>
          (hcpI h27l ra (nI p) p82_2 (v75 * (8 : Int32)) (nI ss.length) 0).bind fun h82 =>
          (hgR h82 (x + 25) 9 1).bind fun v86 =>
          (hgI h82 (x + 25) 9 2).bind fun v90 =>
          (v86).bind fun p94 =>
          (hsI h82 p94 0 v90 (nI ss.length)).bind fun h94 =>
          (hgI h94 (x + 25) 9 2).bind fun v97 =>
          (hpV h94 (x + 25) 9 2 (.int (v97 + (1 : Int32)))).bind fun h102 =>
          (hgI h102 (x + 25) 9 2).bind fun v106 =>
          some ((v106 - (1 : Int32)), h102)
        else
          some ((-1 : Int32), h27l) := by
    unfold f_Spelling_numberOf
    rw [if_neg (nI_pos (by omega)), if_neg (nI_pos (by omega)), if_neg (show ¬ (8 : Int32) < nI ss.length from nI_nlt (b := ss.length) (a := 8) hs8 (by decide)), kA_len es, Option.bind_some, pk_sub (by omega), if_pos (nI_le (by omega) (by omega)), show (0 : Int32) = nI 0 from rfl, e]
    all_goals rfl
  rw [hpre]
  rcases hb with ⟨i, rfl, hi, heq, hj⟩ | ⟨rfl, hj⟩
  · rw [mSpell_some hi heq hj]
    exact ⟨nI i, h1, rfl, Fr.rf _ _ _, rfl, by omega, hS0⟩
  · rw [mSpell_none hj]
    dsimp only
    by_cases h100 : c = 100
    · simp only [if_pos h100]
      refine ⟨-1, h1, ?_, Fr.rf _ _ _, rfl, hS0⟩
      simp only [hbW]
      rw [k9_g2 e1, Option.bind_some, if_neg (show ¬ _ < (100 : Int32) from nI_nlt (b := 100) (by omega) (by omega))]
    · simp only [if_neg h100]
      have hne : ra ≠ x + 26 := own_ne hra t2 (by decide)
      have q1 : (va_up h1 (x + 26) (kA 800 (va_cpy s f p (8 * c) ss.length))) (x + 25) = k9 (x + 26) (x + 27) (nI c) := by
        rw [va_up_ne _ _ (by omega)]
        exact e1
      have q2 : (va_up h1 (x + 26) (kA 800 (va_cpy s f p (8 * c) ss.length))) (x + 27) = kA 100 g := by
        rw [va_up_ne _ _ (by omega)]
        exact e3
      have q3 : (va_up (va_up h1 (x + 26) (kA 800 (va_cpy s f p (8 * c) ss.length))) (x + 27) (kA 100 (upd g c (nI ss.length)))) (x + 25) = k9 (x + 26) (x + 27) (nI c) := by
        rw [va_up_ne _ _ (by omega)]
        exact q1
      have q4 : (va_up (va_up (va_up h1 (x + 26) (kA 800 (va_cpy s f p (8 * c) ss.length))) (x + 27) (kA 100 (upd g c (nI ss.length)))) (x + 25) (k9 (x + 26) (x + 27) (nI (c + 1)))) (x + 25) = k9 (x + 26) (x + 27) (nI (c + 1)) := va_up_self _ _ _
      refine ⟨nI c, va_up (va_up (va_up h1 (x + 26) (kA 800 (va_cpy s f p (8 * c) ss.length))) (x + 27) (kA 100 (upd g c (nI ss.length)))) (x + 25) (k9 (x + 26) (x + 27) (nI (c + 1))), ?_, ((Fr.u1 t2).tr (Fr.u1 t3)).tr (Fr.u1 t1), rfl, by omega, ⟨va_cpy s f p (8 * c) ss.length, upd g c (nI ss.length), c + 1, q4, ?_, ?_, t1, t2, t3, ?_, by omega, ?_⟩⟩
      · simp only [hbW]
        rw [k9_g2 e1, Option.bind_some, if_pos (show _ < (100 : Int32) from nI_lt (b := 100) (by omega) (by decide)), k9_g0 e1]
        simp only [Option.bind_some]
        rw [show nI c * (8 : Int32) = nI (8 * c) by rw [show (8 : Int32) = nI 8 from rfl, pk_mul, Nat.mul_comm], kA_cp es e2 (by omega) (by omega) (by decide) (by decide), Option.bind_some, k9_g1 q1, Option.bind_some, k9_g2 q1, Option.bind_some, Option.bind_some, kA_set q2 (by omega) (by decide), Option.bind_some, k9_g2 q3, Option.bind_some, nI_1, k9_p2 q3, Option.bind_some, k9_g2 q4, Option.bind_some, nI_pred]
      · rw [va_up_ne _ _ (by omega), va_up_ne _ _ (by omega), va_up_self]
      · rw [va_up_ne _ _ (by omega), va_up_self]
      · rfl
      · intro i hi
        show upd g c (nI ss.length) i = nI ((va_up A.2.1 (100 + c) ss) (100 + i)).length ∧ ((va_up A.2.1 (100 + c) ss) (100 + i)).length ≤ 8 ∧ ∀ (j : Nat) (t : Int32), ((va_up A.2.1 (100 + c) ss) (100 + i))[j]? = some t → va_cpy s f p (8 * c) ss.length (8 * i + j) = t
        by_cases hic : i = c
        · subst hic
          rw [va_up_self, upd_same]
          refine ⟨rfl, hs8, fun j t hjt => ?_⟩
          have hjl := (List.getElem?_eq_some_iff.mp hjt).1
          rw [pk_cpy_in (by omega) (by omega), show p + (8 * i + j - 8 * i) = p + j by omega]
          exact hs j t hjt
        · obtain ⟨r1, r2, r3⟩ := r i (by omega)
          rw [va_up_ne _ _ (by omega), upd_other hic]
          refine ⟨r1, r2, fun j t hjt => ?_⟩
          have hjl := (List.getElem?_eq_some_iff.mp hjt).1
          rw [pk_cpy_out (by omega)]
          exact r3 j t hjt
