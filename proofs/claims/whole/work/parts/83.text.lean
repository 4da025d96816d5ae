/-! THE CLASS'S TRACE; A TEXT COMES INTO ITS INPUT -/
def cT (x : Nat) (o : oT) (h : hH) (tr : List (Int32 × Int32 × Int32)) : Prop := ∃ f g k : Nat → Int32, h (x + 31) = k10 (x + 32) (x + 33) (x + 34) (nI tr.length) ∧ h (x + 32) = kA 100 f ∧ h (x + 33) = kA 100 g ∧ h (x + 34) = kA 100 k ∧ o (x + 31) = some 5 ∧ o (x + 32) = some 5 ∧ o (x + 33) = some 5 ∧ o (x + 34) = some 5 ∧ tr.length ≤ 100 ∧ ∀ (i : Nat) (q : Int32 × Int32 × Int32), tr[i]? = some q → f i = q.1 ∧ g i = q.2.1 ∧ k i = q.2.2
theorem cT.fr {W : Nat → Prop} {x : Nat} {o o' : oT} {h h' : hH} {tr : List (Int32 × Int32 × Int32)} (hT : cT x o h tr) (F : Fr W o o' h h') (w : ¬ W 5) : cT x o' h' tr := by
  obtain ⟨f, g, k, e1, e2, e3, e4, t1, t2, t3, t4, r⟩ := hT
  exact ⟨f, g, k, ((F _ _ t1).2 w).trans e1, ((F _ _ t2).2 w).trans e2, ((F _ _ t3).2 w).trans e3, ((F _ _ t4).2 w).trans e4, (F _ _ t1).1, (F _ _ t2).1, (F _ _ t3).1, (F _ _ t4).1, r⟩
theorem cT.obj {x : Nat} {o : oT} {h : hH} {tr : List (Int32 × Int32 × Int32)} (hT : cT x o h tr) : ∃ fs, hObj h (x + 31) 10 = some fs := by
  obtain ⟨f, g, k, e1, -⟩ := hT
  exact ⟨_, k10_o e1⟩
theorem cT.clear {x : Nat} {o : oT} {h : hH} {tr : List (Int32 × Int32 × Int32)} (hT : cT x o h tr) : ∃ h', f_Trace_clear (x + 31) h = some ((), h') ∧ cT x o h' [] ∧ Fr (fun b => b = 5) o o h h' := by
  obtain ⟨f, g, k, e1, e2, e3, e4, t1, t2, t3, t4, hl, r⟩ := hT
  refine ⟨va_up h (x + 31) (k10 (x + 32) (x + 33) (x + 34) 0), ?_, ⟨f, g, k, va_up_self _ _ _, ?_, ?_, ?_, t1, t2, t3, t4, by decide, fun i q hi => by simp at hi⟩, Fr.u1 t1⟩
  · unfold f_Trace_clear
    rw [k10_p3 e1, Option.bind_some]
  · rw [va_up_ne _ _ (by omega)]
    exact e2
  · rw [va_up_ne _ _ (by omega)]
    exact e3
  · rw [va_up_ne _ _ (by omega)]
    exact e4
theorem cT.add {x : Nat} {o : oT} {h : hH} {tr : List (Int32 × Int32 × Int32)} (hT : cT x o h tr) (a b c : Int32) : ∃ h', f_Trace_add (x + 31) a b c h = some ((), h') ∧ cT x o h' (mTr tr (a, b, c)) ∧ Fr (fun b => b = 5) o o h h' := by
  have hT0 := hT
  obtain ⟨f, g, k, e1, e2, e3, e4, t1, t2, t3, t4, hl, r⟩ := hT
  unfold mTr f_Trace_add
  rw [k10_g3 e1, Option.bind_some]
  by_cases h100 : tr.length < 100
  · rw [if_neg (show ¬ (100 : Int32) ≤ _ from nI_ge (b := 100) h100 (by decide)), if_pos h100]
    have q1 : (va_up h (x + 32) (kA 100 (upd f tr.length a))) (x + 31) = k10 (x + 32) (x + 33) (x + 34) (nI tr.length) := by
      rw [va_up_ne _ _ (by omega)]
      exact e1
    have q2 : (va_up h (x + 32) (kA 100 (upd f tr.length a))) (x + 33) = kA 100 g := by
      rw [va_up_ne _ _ (by omega)]
      exact e3
    have q3 : (va_up (va_up h (x + 32) (kA 100 (upd f tr.length a))) (x + 33) (kA 100 (upd g tr.length b))) (x + 31) = k10 (x + 32) (x + 33) (x + 34) (nI tr.length) := by
      rw [va_up_ne _ _ (by omega)]
      exact q1
    have q4 : (va_up (va_up h (x + 32) (kA 100 (upd f tr.length a))) (x + 33) (kA 100 (upd g tr.length b))) (x + 34) = kA 100 k := by
      rw [va_up_ne _ _ (by omega), va_up_ne _ _ (by omega)]
      exact e4
    have q5 : (va_up (va_up (va_up h (x + 32) (kA 100 (upd f tr.length a))) (x + 33) (kA 100 (upd g tr.length b))) (x + 34) (kA 100 (upd k tr.length c))) (x + 31) = k10 (x + 32) (x + 33) (x + 34) (nI tr.length) := by
      rw [va_up_ne _ _ (by omega)]
      exact q3
    refine ⟨va_up (va_up (va_up (va_up h (x + 32) (kA 100 (upd f tr.length a))) (x + 33) (kA 100 (upd g tr.length b))) (x + 34) (kA 100 (upd k tr.length c))) (x + 31) (k10 (x + 32) (x + 33) (x + 34) (nI (tr.length + 1))), ?_, ⟨upd f tr.length a, upd g tr.length b, upd k tr.length c, ?_, ?_, ?_, ?_, t1, t2, t3, t4, ?_, ?_⟩, (((Fr.u1 t2).tr (Fr.u1 t3)).tr (Fr.u1 t4)).tr (Fr.u1 t1)⟩
    · rw [k10_g0 e1, Option.bind_some, Option.bind_some, Option.bind_some, kA_set e2 h100 (by decide), Option.bind_some, k10_g1 q1, Option.bind_some, k10_g3 q1, Option.bind_some, Option.bind_some, kA_set q2 h100 (by decide), Option.bind_some, k10_g2 q3, Option.bind_some, k10_g3 q3, Option.bind_some, Option.bind_some, kA_set q4 h100 (by decide), Option.bind_some, k10_g3 q5, Option.bind_some, nI_1, k10_p3 q5, Option.bind_some]
    · rw [va_up_self, List.length_append, List.length_singleton]
    · rw [va_up_ne _ _ (by omega), va_up_ne _ _ (by omega), va_up_ne _ _ (by omega), va_up_self]
    · rw [va_up_ne _ _ (by omega), va_up_ne _ _ (by omega), va_up_self]
    · rw [va_up_ne _ _ (by omega), va_up_self]
    · rw [List.length_append, List.length_singleton]
      omega
    · intro i q hi
      by_cases hil : i < tr.length
      · rw [List.getElem?_append_left hil] at hi
        rw [upd_other (by omega), upd_other (by omega), upd_other (by omega)]
        exact r i q hi
      · rw [List.getElem?_append_right (by omega)] at hi
        have hi0 : i = tr.length := by
          have := (List.getElem?_eq_some_iff.mp hi).1
          simp at this
          omega
        subst hi0
        simp at hi
        subst hi
        exact ⟨upd_same, upd_same, upd_same⟩
  · rw [if_pos (show (100 : Int32) ≤ _ from nI_le (a := 100) (by omega) (by omega)), if_neg h100]
    exact ⟨h, rfl, hT0, Fr.rf _ _ _⟩
def cEo (x : Nat) (o : oT) (h : hH) (g fr nw hd st nm : Int32) : Prop := h (x + 30) = k5 g (x + 28) (x + 1) (x + 25) (x + 31) (x + 35) (x + 55) (x + 56) (x + 57) fr nw hd st nm ∧ o (x + 30) = some 4
theorem cEo.fr {W : Nat → Prop} {x : Nat} {o o' : oT} {h h' : hH} {g fr nw hd st nm : Int32} (hE : cEo x o h g fr nw hd st nm) (F : Fr W o o' h h') (w : ¬ W 4) : cEo x o' h' g fr nw hd st nm := ⟨((F _ _ hE.2).2 w).trans hE.1, (F _ _ hE.2).1⟩
def cR (x : Nat) (o : oT) (h : hH) (cp : Nat → Nat) (ar : Nat → List Int32) : Prop := ∀ a, 1 ≤ a → a ≤ 9 → Rf o h (19 + a) (x + 35 + 2 * a) 400 (cp a) (ar a)
theorem cR.fr {W : Nat → Prop} {x : Nat} {o o' : oT} {h h' : hH} {cp : Nat → Nat} {ar : Nat → List Int32} (hR : cR x o h cp ar) (F : Fr W o o' h h') (w : ∀ a, 1 ≤ a → a ≤ 9 → ¬ W (19 + a)) : cR x o' h' cp ar := fun a h1 h9 => (hR a h1 h9).fr F (w a h1 h9)
theorem flat_take {k i : Nat} {args : Nat → List Int32} {bs : List Int32} {t : Int32} (ht : bs[i]? = some t) : ((bs.take (i + 1)).flatMap (mPut k args)) = (bs.take i).flatMap (mPut k args) ++ mPut k args t := by
  rw [List.take_succ, ht, List.flatMap_append]
  simp
theorem c_size {n x m ma : Nat} {o : oT} {h : hH} {A : aS} {ar : Nat → List Int32} {cp : Nat → Nat} {g fr nw hd st nm : Int32} (hA : cA x o h) (hE : cEo x o h g fr nw hd st nm) (hM : cMac o h A m ma) (hR : cR x o h cp ar) (hn : 300 < n) : f_Expander_sizeOfText n (x + 30) ma h = some (nI ((aRow A m 10).flatMap (mPut (aNum A m) ar)).length) := by
  obtain ⟨ra, ta, f, e1, e2, t1, t2, hk, hrs, c, hT⟩ := hM
  obtain ⟨fsA, hoA⟩ := hA.obj
  obtain ⟨fsT, hoT⟩ := hT.obj
  have hle := hT.le
  have harl : ∀ a, 1 ≤ a → a ≤ aNum A m → (ar a).length ≤ 400 := fun a h1 h2 => (hR a h1 (by omega)).1.le
  obtain ⟨b, e, rfl⟩ := hloopR_rule (body := f_Expander_sizeOfText_b4 n (x + 30) ma h) (fun k v => ∃ i, k = (aRow A m 10).length - i ∧ i ≤ (aRow A m 10).length ∧ v = (nI (((aRow A m 10).take i).flatMap (mPut (aNum A m) ar)).length, nI i)) (fun b => b = nI ((aRow A m 10).flatMap (mPut (aNum A m) ar)).length)
    (by
      rintro k v ⟨i, rfl, hi, rfl⟩
      by_cases he : i = (aRow A m 10).length
      · refine Or.inr ⟨_, ?_, rfl⟩
        unfold f_Expander_sizeOfText_b4
        dsimp only
        rw [k7_g4 e1]
        simp only [Option.bind_some]
        rw [hT.size, Option.bind_some, if_pos (nI_le (by omega) (by omega)), he, List.take_length]
      · have hgi : (aRow A m 10)[i]? = some ((aRow A m 10)[i]'(by omega)) := List.getElem?_eq_getElem (by omega)
        generalize (aRow A m 10)[i]'(by omega) = t at hgi
        have hfl := flat_le (k := aNum A m) (args := ar) hk harl ((aRow A m 10).take i)
        rw [List.length_take, Nat.min_eq_left hi] at hfl
        refine Or.inl ⟨(nI (((aRow A m 10).take (i + 1)).flatMap (mPut (aNum A m) ar)).length, nI (i + 1)), (aRow A m 10).length - (i + 1), ?_, by omega, i + 1, rfl, by omega, rfl⟩
        unfold f_Expander_sizeOfText_b4 f_Expander_sizeOfText_j63
        dsimp only
        rw [k7_g4 e1]
        simp only [Option.bind_some]
        rw [hT.size, Option.bind_some, if_neg (nI_ge (by omega) (by omega)), hoT, Option.bind_some, hT.get (by decide), Option.bind_some, mAt_in hgi (by omega), c_argOf, Option.bind_some, nI_1, flat_take hgi, List.length_append]
        have htl := tArg_le t
        by_cases h0 : tArg t = 0
        · rw [h0, if_pos (by decide), nI_1]
          simp [mPut, h0]
        · rw [if_neg (nI_ne0 (by omega) (by omega)), k7_g0 e1, Option.bind_some]
          by_cases hkk : tArg t ≤ aNum A m
          · rw [if_neg (nI_nlt hkk (by omega)), k5_g5 hE.1, Option.bind_some, Option.bind_some, hoA, Option.bind_some, hA.arg (by omega) (by omega), Option.bind_some, Option.bind_some, (hR (tArg t) (by omega) (by omega)).1.size, Option.bind_some, nI_add]
            simp [mPut, h0, hkk, nI_1]
          · rw [if_pos (nI_lt (by omega) (by omega))]
            simp [mPut, h0, hkk, nI_1])
    n (aRow A m 10).length (0, 0) (by omega) ⟨0, by omega, by omega, rfl⟩
  unfold f_Expander_sizeOfText
  rw [e, Option.bind_some]
theorem c_all {n x k : Nat} {o : oT} {h : hH} {ar : Nat → List Int32} {cp : Nat → Nat} (hA : cA x o h) (hR : cR x o h cp ar) (hk : k ≤ 9) (hn : 20 < n) : f_Arguments_sizeOfAll n (x + 35) (nI k) h = some (nI (sumL ar k)) := by
  obtain ⟨fsA, hoA⟩ := hA.obj
  obtain ⟨b, e, rfl⟩ := hloopR_rule (body := f_Arguments_sizeOfAll_b4 n (x + 35) (nI k) h) (fun q v => ∃ i, q = k - i ∧ i ≤ k ∧ v = (nI (sumL ar i), nI (i + 1))) (fun b => b = nI (sumL ar k))
    (by
      rintro q v ⟨i, rfl, hi, rfl⟩
      by_cases he : i = k
      · refine Or.inr ⟨_, ?_, rfl⟩
        unfold f_Arguments_sizeOfAll_b4
        dsimp only
        rw [if_pos (nI_lt (by omega) (by omega)), he]
      · refine Or.inl ⟨(nI (sumL ar (i + 1)), nI (i + 1 + 1)), k - (i + 1), ?_, by omega, i + 1, rfl, by omega, rfl⟩
        unfold f_Arguments_sizeOfAll_b4
        dsimp only
        rw [if_neg (nI_nlt (by omega) (by omega)), hoA, Option.bind_some, hA.arg (by omega) (by omega), Option.bind_some, Option.bind_some, (hR (i + 1) (by omega) (by omega)).1.size, Option.bind_some, nI_add, nI_1]
        rfl)
    n k (0, 1) (by omega) ⟨0, by omega, by omega, rfl⟩
  unfold f_Arguments_sizeOfAll
  rw [e, Option.bind_some]
theorem c_putText {n x m ma : Nat} {o : oT} {h : hH} {A : aS} {ar : Nat → List Int32} {cp : Nat → Nat} {zs : List Int32} {g fr nw hd st nm : Int32} (hI : cI x o h zs) (hA : cA x o h) (hE : cEo x o h g fr nw hd st nm) (hM : cMac o h A m ma) (hR : cR x o h cp ar) (hroom : ((aRow A m 10).flatMap (mPut (aNum A m) ar)).length + zs.length ≤ 3000) (hn : 500 < n) : ∃ h', f_Expander_putText n (x + 30) ma h = some ((), h') ∧ cI x o h' ((aRow A m 10).flatMap (mPut (aNum A m) ar) ++ zs) ∧ Fr (fun b => b = 3) o o h h' := by
  have hM0 := hM
  obtain ⟨ra, ta, f, e1, e2, t1, t2, hk, hrs, c, hT⟩ := hM
  have hle := hT.le
  have hbody : ∀ (i : Nat) (h1 : hH), i < (aRow A m 10).length → cI x o h1 (((aRow A m 10).drop (i + 1)).flatMap (mPut (aNum A m) ar) ++ zs) → Fr (fun b => b = 3) o o h h1 → ∃ h2, f_Expander_putText_b10 n (x + 30) ma (nI i) h1 = some (.inl (nI i + (-1)), h2) ∧ cI x o h2 (((aRow A m 10).drop i).flatMap (mPut (aNum A m) ar) ++ zs) ∧ Fr (fun b => b = 3) o o h h2 := by
    intro i h1 hi I1 F1
    have hgi : (aRow A m 10)[i]? = some ((aRow A m 10)[i]) := List.getElem?_eq_getElem hi
    have hdr := List.drop_eq_getElem_cons hi
    generalize (aRow A m 10)[i] = t at hgi hdr
    have hlen : (mPut (aNum A m) ar t).length + (((aRow A m 10).drop (i + 1)).flatMap (mPut (aNum A m) ar)).length ≤ ((aRow A m 10).flatMap (mPut (aNum A m) ar)).length := by
      have h3 : (aRow A m 10) = (aRow A m 10).take i ++ (t :: (aRow A m 10).drop (i + 1)) := by rw [← hdr, List.take_append_drop]
      have h4 := congrArg (fun l => (l.flatMap (mPut (aNum A m) ar)).length) h3
      simp only [List.flatMap_append, List.flatMap_cons, List.length_append] at h4
      omega
    have A1 := hA.fr F1 (by decide)
    have E1 := hE.fr F1 (by decide)
    have R1 := hR.fr F1 (fun a _ _ => by show ¬ 19 + a = 3; omega)
    have M1 := hM0.fr F1 (fun l _ _ => by show ¬ l = 3; omega)
    have T1 := hT.fr F1 (by show ¬ 112 + 20 * m = 3; omega)
    have k1 : h1 ma = k7 (nI (aNum A m)) (b01 (aLng A m)) (b01 (!(decide (aMk A m &&& 2 = 0)))) ra ta := ((F1 _ _ t1).2 (by show ¬ 100 + 20 * m = 3; omega)).trans e1
    obtain ⟨fsT, hoT⟩ := T1.obj
    obtain ⟨fsA, hoA⟩ := A1.obj
    rw [hdr, List.flatMap_cons, List.append_assoc]
    have htl := tArg_le t
    have hhead : f_Expander_putText_b10 n (x + 30) ma (nI i) h1 = if nI (tArg t) = 0 then hbW (f_Input_put (x + 28) (if tPar t then t - 10 else t) h1) (fun _ h53 => some (.inl (nI i + (-1)), h53)) else if nI (aNum A m) < nI (tArg t) then some (.inl (nI i + (-1)), h1) else (f_Arguments_argument (x + 35) (nI (tArg t)) h1).bind fun v78 => (v78).bind fun p81_0 => hbW (f_Input_putAll n (x + 28) p81_0 h1) fun _ h81 => some (.inl (nI i + (-1)), h81) := by
      unfold f_Expander_putText_b10 f_Expander_putText_j53 f_Expander_putText_j84
      dsimp only
      rw [if_neg (nI_pos (by omega)), k7_g4 k1]
      simp only [Option.bind_some]
      rw [hoT, Option.bind_some, T1.get (by decide), Option.bind_some, mAt_in hgi (by omega), c_argOf, Option.bind_some, k5_g1 E1.1, k5_g5 E1.1]
      simp only [Option.bind_some]
      rw [c_par, Option.bind_some, I1.obj, hoA, k7_g0 k1]
      simp only [Option.bind_some]
      cases tPar t <;> rfl
    rw [hhead]
    by_cases h0 : tArg t = 0
    · have hp : mPut (aNum A m) ar t = [if tPar t then t - 10 else t] := by simp [mPut, h0]
      rw [hp] at hlen ⊢
      rw [h0, if_pos (by decide)]
      obtain ⟨h2, q1, q2, q3⟩ := I1.put (if tPar t then t - 10 else t) (by rw [List.length_append]; simp only [List.length_singleton] at hlen; omega)
      rw [q1]
      exact ⟨h2, rfl, q2, F1.tr q3⟩
    · rw [if_neg (nI_ne0 (by omega) (by omega))]
      by_cases hkk : tArg t ≤ aNum A m
      · have hp : mPut (aNum A m) ar t = ar (tArg t) := by simp [mPut, h0, hkk]
        rw [hp] at hlen ⊢
        obtain ⟨h2, q1, q2, q3⟩ := I1.putAll (n := n) (R1 (tArg t) (by omega) (by omega)).1 (by decide) (by omega) (by rw [List.length_append]; omega) (by omega)
        rw [if_neg (nI_nlt hkk (by omega)), A1.arg (by omega) (by omega), Option.bind_some, Option.bind_some, q1]
        exact ⟨h2, rfl, q2, F1.tr q3⟩
      · have hp : mPut (aNum A m) ar t = [] := by simp [mPut, h0, hkk]
        rw [hp, if_pos (nI_lt (by omega) (by omega))]
        exact ⟨h1, rfl, I1, F1⟩
  obtain ⟨b, h', e, I2, F2⟩ := hloopW_rule (body := f_Expander_putText_b10 n (x + 30) ma) (fun k v h1 => ∃ i, k = i ∧ v = nI i - 1 ∧ i ≤ (aRow A m 10).length ∧ cI x o h1 (((aRow A m 10).drop i).flatMap (mPut (aNum A m) ar) ++ zs) ∧ Fr (fun b => b = 3) o o h h1) (fun _ h1 => cI x o h1 ((aRow A m 10).flatMap (mPut (aNum A m) ar) ++ zs) ∧ Fr (fun b => b = 3) o o h h1)
    (by
      rintro k v h1 ⟨i, rfl, rfl, hi, hI1, F1⟩
      cases k with
      | zero =>
        refine Or.inr ⟨(), h1, ?_, by simpa using hI1, F1⟩
        unfold f_Expander_putText_b10
        dsimp only
        rw [if_pos (by decide)]
      | succ i =>
        obtain ⟨h2, e2, I2, F2⟩ := hbody i h1 (by omega) hI1 F1
        refine Or.inl ⟨nI i + (-1), i, h2, ?_, by omega, i, rfl, (nI_m1 i).symm, by omega, I2, F2⟩
        rw [nI_pred, e2])
    n (aRow A m 10).length (nI (aRow A m 10).length - 1) h (by omega) ⟨(aRow A m 10).length, rfl, rfl, Nat.le_refl _, by simpa using hI, Fr.rf _ _ _⟩
  refine ⟨h', ?_, I2, F2⟩
  unfold f_Expander_putText
  rw [k7_g4 e1, Option.bind_some, Option.bind_some, hT.size, Option.bind_some, e]
  rfl
theorem mRow_ne {out : Int32 → Bool} : ∀ (row ys : List Int32) (c : Int32), mRow out row ys = .inl c → c ≠ 0
  | [], ys, c, h => by simp [mRow] at h
  | _ :: _, [], c, h => by
    simp only [mRow, Sum.inl.injEq] at h
    rw [← h]
    decide
  | r :: rs, t :: ts, c, h => by
    simp only [mRow] at h
    split at h
    · cases h
      decide
    · split at h
      · exact mRow_ne rs ts c h
      · cases h
        decide
theorem mArgs_ne {fb : Int32 → Bool} {rows : Nat → List Int32} : ∀ (n a : Nat) (ys : List Int32) (as : Nat → List Int32) (c : Int32), mArgs fb rows n a ys as = .inl c → c ≠ 0
  | 0, _, ys, as, c, h => by simp [mArgs] at h
  | n + 1, a, ys, as, c, h => by
    simp only [mArgs] at h
    cases hd : mArg fb (rows a) ys with
    | inl c' =>
      rw [hd] at h
      cases h
      exact mArg_ne hd
    | inr r =>
      rw [hd] at h
      exact mArgs_ne n (a + 1) r.2 _ c h
theorem sumL_congr1 {as bs : Nat → List Int32} : ∀ j, (∀ b, 1 ≤ b → b ≤ j → as b = bs b) → sumL as j = sumL bs j
  | 0, _ => rfl
  | j + 1, h => by
    unfold sumL
    rw [sumL_congr1 j (fun b h1 hb => h b h1 (by omega)), h (j + 1) (by omega) (Nat.le_refl _)]
theorem mPut_congr {k : Nat} {as bs : Nat → List Int32} {body : List Int32} (hk : k ≤ 9) (h : ∀ b, 1 ≤ b → b ≤ k → as b = bs b) : body.flatMap (mPut k as) = body.flatMap (mPut k bs) := by
  congr 1
  funext t
  unfold mPut
  by_cases h0 : tArg t = 0
  · rw [if_pos h0, if_pos h0]
  · rw [if_neg h0, if_neg h0]
    by_cases h1 : tArg t ≤ k
    · rw [if_pos h1, if_pos h1, h (tArg t) (by omega) h1]
    · rw [if_neg h1, if_neg h1]
