/-! THE CLASS'S INPUT AS A LIST -/
def cI (x : Nat) (o : oT) (h : hH) (xs : List Int32) : Prop := ∃ f : Nat → Int32, h (x + 28) = k6 (x + 29) (nI xs.length) ∧ h (x + 29) = kA 3000 f ∧ o (x + 28) = some 3 ∧ o (x + 29) = some 3 ∧ xs.length ≤ 3000 ∧ ∀ (i : Nat) (t : Int32), xs[i]? = some t → f (xs.length - 1 - i) = t
theorem cI.fr {W : Nat → Prop} {x : Nat} {o o' : oT} {h h' : hH} {xs : List Int32} (hI : cI x o h xs) (F : Fr W o o' h h') (w : ¬ W 3) : cI x o' h' xs := by
  obtain ⟨f, e1, e2, t1, t2, r⟩ := hI
  exact ⟨f, ((F _ _ t1).2 w).trans e1, ((F _ _ t2).2 w).trans e2, (F _ _ t1).1, (F _ _ t2).1, r⟩
theorem cI.size {x : Nat} {o : oT} {h : hH} {xs : List Int32} (hI : cI x o h xs) : hgI h (x + 28) 6 1 = some (nI xs.length) := by
  obtain ⟨f, e1, -⟩ := hI
  exact k6_g1 e1
theorem cI.obj {x : Nat} {o : oT} {h : hH} {xs : List Int32} (hI : cI x o h xs) : hObj h (x + 28) 6 = some [.ref (x + 29), .int (nI xs.length)] := by
  obtain ⟨f, e1, -⟩ := hI
  exact k6_o e1
theorem cI.le {x : Nat} {o : oT} {h : hH} {xs : List Int32} (hI : cI x o h xs) : xs.length ≤ 3000 := by
  obtain ⟨f, e1, e2, t1, t2, hl, -⟩ := hI
  exact hl
theorem cI.isEmpty {x : Nat} {o : oT} {h : hH} {xs : List Int32} (hI : cI x o h xs) : f_Input_isEmpty (x + 28) h = some (if xs.length = 0 then 1 else 0) := by
  have hl := hI.le
  unfold f_Input_isEmpty
  rw [hI.size, Option.bind_some]
  by_cases h0 : xs.length = 0
  · rw [if_pos h0, h0, if_neg (by decide)]
  · rw [if_neg h0, if_pos (by rw [← nI_0]; exact nI_lt (by omega) (by omega))]
theorem cI.isFull {x : Nat} {o : oT} {h : hH} {xs : List Int32} (hI : cI x o h xs) : f_Input_isFull (x + 28) h = some (if xs.length < 3000 then 0 else 1) := by
  have hl := hI.le
  unfold f_Input_isFull
  rw [hI.size, Option.bind_some, show (3000 : Int32) = nI 3000 from rfl]
  by_cases h0 : xs.length < 3000
  · rw [if_pos h0, if_pos (nI_lt h0 (by omega))]
  · rw [if_neg h0, if_neg (nI_nlt (by omega) (by omega))]
theorem cI.get {x : Nat} {o : oT} {h : hH} {xs : List Int32} (hI : cI x o h xs) (i : Int32) : f_Input_get (x + 28) i h = some (mAt xs i) := by
  obtain ⟨f, e1, e2, t1, t2, hl, hf⟩ := hI
  unfold f_Input_get
  by_cases h0 : i < 0
  · rw [if_pos h0, mAt_out (Or.inl h0)]
  · rw [if_neg h0]
    obtain ⟨j, hj, rfl⟩ := nI_of h0
    rw [k6_g1 e1, Option.bind_some]
    by_cases h1 : xs.length ≤ j
    · rw [if_pos (nI_le h1 hj), mAt_out (Or.inr ⟨j, h1, hj, rfl⟩)]
    · obtain ⟨t, ht⟩ : ∃ t, xs[j]? = some t := ⟨xs[j]'(by omega), List.getElem?_eq_getElem (by omega)⟩
      rw [if_neg (nI_ge (by omega) (by omega)), k6_g0 e1]
      simp only [Option.bind_some]
      rw [show (1 : Int32) = nI 1 from rfl, pk_sub (by omega), pk_sub (by omega), kA_get e2 (by omega) (by omega), Option.bind_some, hf j t ht, mAt_in ht hj]
theorem cI.take {x : Nat} {o : oT} {h : hH} {t : Int32} {ts : List Int32} (hI : cI x o h (t :: ts)) : ∃ h', f_Input_take (x + 28) h = some (t, h') ∧ cI x o h' ts ∧ Fr (fun b => b = 3) o o h h' := by
  obtain ⟨f, e1, e2, t1, t2, hl, hf⟩ := hI
  rw [List.length_cons] at hl e1 hf
  have e3 : (va_up h (x + 28) (k6 (x + 29) (nI ts.length))) (x + 28) = k6 (x + 29) (nI ts.length) := va_up_self _ _ _
  have e4 : (va_up h (x + 28) (k6 (x + 29) (nI ts.length))) (x + 29) = kA 3000 f := by
    rw [va_up_ne _ _ (by omega)]
    exact e2
  refine ⟨va_up h (x + 28) (k6 (x + 29) (nI ts.length)), ?_, ⟨f, e3, e4, t1, t2, by omega, fun i u hi => ?_⟩, Fr.u1 t1⟩
  · unfold f_Input_take
    rw [k6_g1 e1, Option.bind_some, if_pos (by rw [← nI_0]; exact nI_lt (by omega) (by omega)), Option.bind_some, nI_pred, k6_p1 e1, Option.bind_some, k6_g0 e3, Option.bind_some, k6_g1 e3, Option.bind_some, Option.bind_some, kA_get e4 (by omega) (by omega), Option.bind_some]
    have := hf 0 t rfl
    rw [show ts.length + 1 - 1 - 0 = ts.length by omega] at this
    rw [this]
  · have := hf (i + 1) u (by simpa using hi)
    rw [show ts.length + 1 - 1 - (i + 1) = ts.length - 1 - i by omega] at this
    exact this
theorem cI.put {x : Nat} {o : oT} {h : hH} {xs : List Int32} (t : Int32) (hI : cI x o h xs) (hl : xs.length < 3000) : ∃ h', f_Input_put (x + 28) t h = some ((), h') ∧ cI x o h' (t :: xs) ∧ Fr (fun b => b = 3) o o h h' := by
  obtain ⟨f, e1, e2, t1, t2, -, hf⟩ := hI
  have e3 : (va_up h (x + 29) (kA 3000 (upd f xs.length t))) (x + 28) = k6 (x + 29) (nI xs.length) := by
    rw [va_up_ne _ _ (by omega)]
    exact e1
  refine ⟨va_up (va_up h (x + 29) (kA 3000 (upd f xs.length t))) (x + 28) (k6 (x + 29) (nI xs.length + 1)), ?_, ⟨upd f xs.length t, ?_, ?_, t1, t2, ?_, fun i u hi => ?_⟩, (Fr.u1 t2).tr (Fr.u1 t1)⟩
  · unfold f_Input_put
    rw [k6_g1 e1, Option.bind_some, if_neg (by rw [show (3000 : Int32) = nI 3000 from rfl]; exact nI_ge hl (by omega)), k6_g0 e1, Option.bind_some, Option.bind_some, Option.bind_some, kA_set e2 hl (by omega), Option.bind_some, k6_g1 e3, Option.bind_some, k6_p1 e3, Option.bind_some]
  · rw [va_up_self, nI_1, List.length_cons]
  · rw [va_up_ne _ _ (by omega), va_up_self]
  · rw [List.length_cons]
    omega
  · rw [List.length_cons]
    cases i with
    | zero =>
      simp at hi
      rw [show xs.length + 1 - 1 - 0 = xs.length by omega, upd_same]
      exact hi
    | succ i =>
      have hi2 : xs[i]? = some u := by simpa using hi
      have hil := (List.getElem?_eq_some_iff.mp hi2).1
      rw [upd_other (by omega), ← hf i u hi2]
      congr 1
      omega
theorem cI.addLast {x : Nat} {o : oT} {h : hH} {xs : List Int32} (t : Int32) (hI : cI x o h xs) (hl : xs.length < 3000) : ∃ h', f_Input_addLast (x + 28) t h = some ((), h') ∧ cI x o h' (xs ++ [t]) ∧ Fr (fun b => b = 3) o o h h' := by
  obtain ⟨f, e1, e2, t1, t2, -, hf⟩ := hI
  have e3 : (va_up h (x + 29) (kA 3000 (va_cpy f f 0 1 xs.length))) (x + 28) = k6 (x + 29) (nI xs.length) := by
    rw [va_up_ne _ _ (by omega)]
    exact e1
  have e4 : (va_up h (x + 29) (kA 3000 (va_cpy f f 0 1 xs.length))) (x + 29) = kA 3000 (va_cpy f f 0 1 xs.length) := va_up_self _ _ _
  have e5 : (va_up h (x + 29) (kA 3000 (upd (va_cpy f f 0 1 xs.length) 0 t))) (x + 28) = k6 (x + 29) (nI xs.length) := by
    rw [va_up_ne _ _ (by omega)]
    exact e1
  refine ⟨va_up (va_up h (x + 29) (kA 3000 (upd (va_cpy f f 0 1 xs.length) 0 t))) (x + 28) (k6 (x + 29) (nI xs.length + 1)), ?_, ⟨upd (va_cpy f f 0 1 xs.length) 0 t, ?_, ?_, t1, t2, ?_, fun i u hi => ?_⟩, (Fr.u1 t2).tr (Fr.u1 t1)⟩
  · unfold f_Input_addLast
    rw [k6_g1 e1, Option.bind_some, if_neg (by rw [show (3000 : Int32) = nI 3000 from rfl]; exact nI_ge hl (by omega)), k6_g0 e1, Option.bind_some, Option.bind_some, Option.bind_some, Option.bind_some, Option.bind_some, show (hcpI h (x + 29) 0 (x + 29) 1 (nI xs.length) 0) = _ from kA_cp (sp := 0) (dp := 1) e2 e2 (by omega) (by omega) (by omega) (by omega), Option.bind_some, k6_g0 e3, Option.bind_some, Option.bind_some, show (hsI (va_up h (x + 29) (kA 3000 (va_cpy f f 0 1 xs.length))) (x + 29) 0 0 t) = _ from kA_set (k := 0) e4 (by omega) (by omega) t, Option.bind_some, va_up_up, k6_g1 e5, Option.bind_some, k6_p1 e5, Option.bind_some]
  · rw [va_up_self, nI_1, List.length_append, List.length_singleton]
  · rw [va_up_ne _ _ (by omega), va_up_self]
  · rw [List.length_append, List.length_singleton]
    omega
  · rw [List.length_append, List.length_singleton]
    by_cases hil : i < xs.length
    · rw [List.getElem?_append_left hil] at hi
      rw [upd_other (by omega), pk_cpy_in (by omega) (by omega), ← hf i u hi]
      congr 1
      omega
    · rw [List.getElem?_append_right (by omega)] at hi
      have hi0 : i = xs.length := by
        have := (List.getElem?_eq_some_iff.mp hi).1
        simp at this
        omega
      subst hi0
      simp at hi
      rw [show xs.length + 1 - 1 - xs.length = 0 by omega, upd_same]
      exact hi
theorem cI.dropN {x : Nat} {o : oT} {h : hH} {xs : List Int32} {k : Nat} (hI : cI x o h xs) (hk : k ≤ xs.length) : ∃ h', f_Input_drop (x + 28) (nI k) h = some ((), h') ∧ cI x o h' (xs.drop k) ∧ Fr (fun b => b = 3) o o h h' := by
  obtain ⟨f, e1, e2, t1, t2, hl, hf⟩ := hI
  have h1 : (if (0 : Int32) < nI k then nI k else 0) = nI k := by
    by_cases h0 : k = 0
    · rw [h0]
      rfl
    · rw [if_pos (by rw [← nI_0]; exact nI_lt (by omega) (by omega))]
  have h2 : (if (0 : Int32) < nI (xs.length - k) then nI (xs.length - k) else 0) = nI (xs.length - k) := by
    by_cases h0 : xs.length - k = 0
    · rw [h0]
      rfl
    · rw [if_pos (by rw [← nI_0]; exact nI_lt (by omega) (by omega))]
  refine ⟨va_up h (x + 28) (k6 (x + 29) (nI (xs.length - k))), ?_, ⟨f, ?_, ?_, t1, t2, ?_, fun i u hi => ?_⟩, Fr.u1 t1⟩
  · unfold f_Input_drop
    rw [k6_g1 e1, Option.bind_some, h1, pk_sub hk, h2, k6_p1 e1, Option.bind_some]
  · rw [va_up_self, List.length_drop]
  · rw [va_up_ne _ _ (by omega)]
    exact e2
  · rw [List.length_drop]
    omega
  · rw [List.getElem?_drop] at hi
    have hil := (List.getElem?_eq_some_iff.mp hi).1
    rw [List.length_drop, ← hf (k + i) u hi]
    congr 1
    omega
theorem cI.clear {x : Nat} {o : oT} {h : hH} {xs : List Int32} (hI : cI x o h xs) : ∃ h', f_Input_clear (x + 28) h = some ((), h') ∧ cI x o h' [] ∧ Fr (fun b => b = 3) o o h h' := by
  obtain ⟨f, e1, e2, t1, t2, hl, hf⟩ := hI
  refine ⟨va_up h (x + 28) (k6 (x + 29) 0), ?_, ⟨f, ?_, ?_, t1, t2, Nat.zero_le _, fun i u hi => by simp at hi⟩, Fr.u1 t1⟩
  · unfold f_Input_clear
    rw [k6_p1 e1, Option.bind_some]
  · exact va_up_self _ _ _
  · rw [va_up_ne _ _ (by omega)]
    exact e2
theorem isPrefix_step {xs ds : List Int32} {i : Nat} {t : Int32} (hp : i < xs.length) (hb : i < 2 ^ 31) (hd : ds[i]? = some t) : (ds.drop i).isPrefixOf (xs.drop i) = (decide (mAt xs (nI i) = t) && (ds.drop (i + 1)).isPrefixOf (xs.drop (i + 1))) := by
  obtain ⟨hd1, hd2⟩ := List.getElem?_eq_some_iff.mp hd
  rw [List.drop_eq_getElem_cons hp, List.drop_eq_getElem_cons hd1, hd2, mAt_in (List.getElem?_eq_getElem hp) hb]
  by_cases he : xs[i] = t
  · simp [List.isPrefixOf, he]
  · have he2 : ¬ t = xs[i] := fun q => he q.symm
    simp [List.isPrefixOf, he, he2]
theorem nI_m1 (i : Nat) : nI i - 1 = nI i + (-1) := Int32.sub_eq_add_neg _ _
theorem cI.beginsWith {n x l a lim c : Nat} {o : oT} {h : hH} {xs ds : List Int32} (hI : cI x o h xs) (hR : Rw o h l a lim c ds) (hlim : lim ≤ 3000) (hn : lim + 1 < n) : f_Input_beginsWith n (x + 28) a h = some (b01 (ds.isPrefixOf xs)) := by
  have hl := hI.le
  have hdl := hR.le
  obtain ⟨fs, ho⟩ := hR.obj
  unfold f_Input_beginsWith
  rw [hR.size, Option.bind_some, hI.size, Option.bind_some]
  by_cases hle : ds.length ≤ xs.length
  · rw [if_pos (nI_le hle (by omega))]
    obtain ⟨b, e, hb⟩ := hloopR_rule (body := f_Input_beginsWith_b15 n (x + 28) a h) (fun k v => ∃ i, v = nI i ∧ k = ds.length - i ∧ i ≤ ds.length ∧ ds.isPrefixOf xs = (ds.drop i).isPrefixOf (xs.drop i)) (fun b => (b = .inl () ∧ ds.isPrefixOf xs = false) ∨ (b = .inr () ∧ ds.isPrefixOf xs = true))
      (by
        rintro k v ⟨i, rfl, rfl, hi, hmi⟩
        by_cases he : i = ds.length
        · refine Or.inr ⟨.inr (), ?_, Or.inr ⟨rfl, ?_⟩⟩
          · unfold f_Input_beginsWith_b15
            dsimp only
            rw [hR.size, Option.bind_some, if_pos (nI_le (by omega) (by omega))]
          · rw [hmi, he, List.drop_length]
            rfl
        · obtain ⟨t, ht⟩ : ∃ t, ds[i]? = some t := ⟨ds[i]'(by omega), List.getElem?_eq_getElem (by omega)⟩
          have hst := isPrefix_step (xs := xs) (by omega) (by omega) ht
          have hbd : f_Input_beginsWith_b15 n (x + 28) a h (nI i) = if mAt xs (nI i) = t then some (.inl (nI (i + 1))) else some (.inr (.inl ())) := by
            unfold f_Input_beginsWith_b15
            dsimp only
            rw [hR.size, Option.bind_some, if_neg (nI_ge (by omega) (by omega)), hI.obj, Option.bind_some, hI.get, Option.bind_some, ho, Option.bind_some, hR.get hlim, Option.bind_some, mAt_in ht (by omega), nI_1]
          by_cases heq : mAt xs (nI i) = t
          · refine Or.inl ⟨nI (i + 1), ds.length - (i + 1), ?_, by omega, i + 1, rfl, rfl, by omega, ?_⟩
            · rw [hbd, if_pos heq]
            · rw [hmi, hst, decide_eq_true heq, Bool.true_and]
          · refine Or.inr ⟨.inl (), ?_, Or.inl ⟨rfl, ?_⟩⟩
            · rw [hbd, if_neg heq]
            · rw [hmi, hst, decide_eq_false heq, Bool.false_and])
      n ds.length (nI 0) (by omega) ⟨0, rfl, by omega, by omega, rfl⟩
    rw [show (0 : Int32) = nI 0 from rfl, e, Option.bind_some]
    rcases hb with ⟨rfl, hb⟩ | ⟨rfl, hb⟩
    · rw [hb]
      rfl
    · rw [hb]
      rfl
  · rw [if_neg (nI_ge (by omega) (by omega))]
    have : ds.isPrefixOf xs = false := by
      cases hb : ds.isPrefixOf xs with
      | false => rfl
      | true =>
        have := (List.isPrefixOf_iff_prefix.mp hb).length_le
        omega
    rw [this]
    rfl
theorem cI.putAll {n x l a lim c : Nat} {o : oT} {h : hH} {xs ds : List Int32} (hI : cI x o h xs) (hR : Rw o h l a lim c ds) (hlim : lim ≤ 3000) (hl : l ≠ 3) (hroom : ds.length + xs.length ≤ 3000) (hn : lim + 1 < n) : ∃ h', f_Input_putAll n (x + 28) a h = some ((), h') ∧ cI x o h' (ds ++ xs) ∧ Fr (fun b => b = 3) o o h h' := by
  have hdl := hR.le
  have hbody : ∀ (i : Nat) (h1 : hH), i < ds.length → cI x o h1 (ds.drop (i + 1) ++ xs) → Fr (fun b => b = 3) o o h h1 → ∃ h2, f_Input_putAll_b7 n (x + 28) a (nI i) h1 = some (.inl (nI i + (-1)), h2) ∧ cI x o h2 (ds.drop i ++ xs) ∧ Fr (fun b => b = 3) o o h h2 := by
    intro i h1 hi hI1 F1
    have hR1 := hR.fr F1 (by simpa using hl)
    obtain ⟨fs, ho1⟩ := hR1.obj
    obtain ⟨h2, e2, I2, F2⟩ := hI1.put (ds[i]) (by rw [List.length_append, List.length_drop]; omega)
    refine ⟨h2, ?_, ?_, F1.tr F2⟩
    · unfold f_Input_putAll_b7
      dsimp only
      rw [if_neg (nI_pos (by omega)), ho1, Option.bind_some, hR1.get hlim, Option.bind_some, hI1.obj, Option.bind_some, mAt_in (List.getElem?_eq_getElem hi) (by omega), e2]
      rfl
    · rw [List.drop_eq_getElem_cons hi]
      exact I2
  obtain ⟨b, h', e, I2, F2⟩ := hloopW_rule (body := f_Input_putAll_b7 n (x + 28) a) (fun k v h1 => ∃ i, k = i ∧ v = nI i - 1 ∧ i ≤ ds.length ∧ cI x o h1 (ds.drop i ++ xs) ∧ Fr (fun b => b = 3) o o h h1) (fun _ h1 => cI x o h1 (ds ++ xs) ∧ Fr (fun b => b = 3) o o h h1)
    (by
      rintro k v h1 ⟨i, rfl, rfl, hi, hI1, F1⟩
      cases k with
      | zero =>
        refine Or.inr ⟨(), h1, ?_, by simpa using hI1, F1⟩
        unfold f_Input_putAll_b7
        dsimp only
        rw [if_pos (by decide)]
      | succ i =>
        obtain ⟨h2, e2, I2, F2⟩ := hbody i h1 (by omega) hI1 F1
        refine Or.inl ⟨nI i + (-1), i, h2, ?_, by omega, i, rfl, (nI_m1 i).symm, by omega, I2, F2⟩
        rw [nI_pred, e2])
    n ds.length (nI ds.length - 1) h (by omega) ⟨ds.length, rfl, rfl, Nat.le_refl _, by simpa using hI, Fr.rf _ _ _⟩
  refine ⟨h', ?_, I2, F2⟩
  unfold f_Input_putAll
  rw [hR.size, Option.bind_some, e]
  rfl
