/-! ROWS THAT ARE MADE ONCE AND GROW FROM NOTHING: what they cost -/
def capOk (lim c : Nat) : Prop := c = lim ∨ c = 0 ∨ c = 8 ∨ c = 24 ∨ c = 56 ∨ c = 120 ∨ c = 248 ∨ c = 504 ∨ c = 1016 ∨ c = 2040
theorem cap_grow {lim c : Nat} (hl : lim = 200 ∨ lim = 400 ∨ lim = 3000) (h : capOk lim c) (hc : c < lim) : capOk lim (min lim (2 * c + 8)) ∧ c + 1 ≤ min lim (2 * c + 8) ∧ min lim (2 * c + 8) + 4 * c ≤ 4 * min lim (2 * c + 8) := by
  unfold capOk at *
  rcases hl with rfl | rfl | rfl <;> rcases h with rfl | rfl | rfl | rfl | rfl | rfl | rfl | rfl | rfl | rfl <;> first | omega | decide
def Rf (o : oT) (h : hH) (l a lim c : Nat) (xs : List Int32) : Prop := Rw o h l a lim c xs ∧ capOk lim c ∧ (lim = 200 ∨ lim = 400 ∨ lim = 3000)
theorem Rf.fr {W : Nat → Prop} {o o' : oT} {h h' : hH} {l a lim c : Nat} {xs : List Int32} (hR : Rf o h l a lim c xs) (F : Fr W o o' h h') (w : ¬ W l) : Rf o' h' l a lim c xs := ⟨hR.1.fr F w, hR.2⟩
theorem Rf.lim {o : oT} {h : hH} {l a lim c : Nat} {xs : List Int32} (hR : Rf o h l a lim c xs) : lim ≤ 3000 := by
  rcases hR.2.2 with h | h | h <;> omega
theorem Rf.clear {o : oT} {h : hH} {l a lim c : Nat} {xs : List Int32} (hR : Rf o h l a lim c xs) : ∃ h', f_Row_clear a h = some ((), h') ∧ Rf o h' l a lim c [] ∧ Fr (fun b => b = l) o o h h' := by
  obtain ⟨h', e, R, F⟩ := hR.1.clear
  exact ⟨h', e, ⟨R, hR.2⟩, F⟩
theorem Rf.add {o : oT} {h : hH} {l a lim c nx : Nat} {xs : List Int32} (t : Int32) (hR : Rf o h l a lim c xs) (ho : Own o nx) (hx : xs.length < lim) : ∃ (c' dn ds : Nat) (o' : oT) (h' : hH), f_Row_add a t nx h = some ((), dn, ds, h') ∧ Own o' (nx + dn) ∧ Rf o' h' l a lim c' (xs ++ [t]) ∧ Fr (fun b => b = l) o o' h h' ∧ dn + c ≤ c' ∧ ds + 4 * c ≤ 4 * c' := by
  obtain ⟨c', dn, ds, o', h', e, O, R, F, hc⟩ := hR.1.add t ho hR.lim hx
  rcases hc with ⟨rfl, rfl, rfl⟩ | ⟨hlt, rfl, rfl, rfl⟩
  · exact ⟨c', 0, 0, o', h', e, O, ⟨R, hR.2⟩, F, by omega, by omega⟩
  · obtain ⟨g1, g2, g3⟩ := cap_grow hR.2.2 hR.2.1 hlt
    exact ⟨_, 1, _, o', h', e, O, ⟨R, g1, hR.2.2⟩, F, by omega, by omega⟩
/-! THE PAIR ROUND AN ARGUMENT -/
theorem mWD_take {acc : List Int32} {i : Nat} {t : Int32} (h : acc[i]? = some t) : mWD (acc.take (i + 1)) = mWs (mWD (acc.take i)) t := by
  rw [List.take_succ, h]
  exact mWD_snoc
/-- no CLOSE without its OPEN -/
def mFine (acc : List Int32) : Prop := ∀ (i : Nat) (t : Int32), acc[i]? = some t → t = 258 → 0 < (mWD (acc.take i)).1
theorem mFine_nil : mFine [] := fun i t h => by simp at h
theorem mFine.snoc {acc : List Int32} {t : Int32} (h : mFine acc) (ht : t = 258 → 0 < (mWD acc).1) : mFine (acc ++ [t]) := by
  intro i u hi hu
  by_cases hil : i < acc.length
  · rw [List.getElem?_append_left hil] at hi
    rw [List.take_append_of_le_length (by omega)]
    exact h i u hi hu
  · rw [List.getElem?_append_right (by omega)] at hi
    have hi0 : i = acc.length := by
      have := (List.getElem?_eq_some_iff.mp hi).1
      simp at this
      omega
    subst hi0
    simp at hi
    subst hi
    rw [List.take_left]
    exact ht hu
theorem mWD_whole {acc : List Int32} : ∀ i, i ≤ acc.length → ((mWD (acc.take i)).2.1 = true ↔ ∀ (j : Nat) (t : Int32), j < i → acc[j]? = some t → 0 < (mWD (acc.take j)).1 ∨ (j = 0 ∧ t = 257))
  | 0, _ => by simp [mWD]
  | i + 1, hi => by
    obtain ⟨t, ht⟩ : ∃ t, acc[i]? = some t := ⟨acc[i]'(by omega), List.getElem?_eq_getElem (by omega)⟩
    have ih := mWD_whole (acc := acc) i (by omega)
    rw [mWD_take ht]
    have hf := mWD_first (acc.take i)
    rw [List.length_take, Nat.min_eq_left (by omega)] at hf
    simp only [mWs, Bool.and_eq_true, Bool.or_eq_true, decide_eq_true_eq, hf]
    constructor
    · rintro ⟨h1, h2⟩ j u hj hu
      by_cases hji : j < i
      · exact ih.mp h1 j u hji hu
      · have : j = i := by omega
        subst this
        rw [ht] at hu
        cases hu
        exact h2
    · intro h
      exact ⟨ih.mpr (fun j u hj hu => h j u (by omega) hu), h i t (by omega) ht⟩
theorem mNest_nat {t : Int32} {d : Nat} (hd : t = 258 → 0 < d) (hb : d < 2 ^ 30) : nI d + mNest t = nI (mDep t d) := by
  have := mDep_J (t := t) (d := d) (fun q => by have := hd q.1; omega)
  unfold mNest
  exact this
theorem mDep_le {t : Int32} {d : Nat} : mDep t d ≤ d + 1 := by
  unfold mDep
  split
  · omega
  · split <;> omega
theorem mWD_le (acc : List Int32) : ∀ i, i ≤ acc.length → (mWD (acc.take i)).1 ≤ i
  | 0, _ => by simp [mWD]
  | i + 1, hi => by
    obtain ⟨t, ht⟩ : ∃ t, acc[i]? = some t := ⟨acc[i]'(by omega), List.getElem?_eq_getElem (by omega)⟩
    rw [mWD_take ht]
    have := mWD_le acc i (by omega)
    have h2 := mDep_le (t := t) (d := (mWD (acc.take i)).1)
    simp only [mWs]
    omega
theorem Rw.outer {n : Nat} {o : oT} {h : hH} {l a lim c : Nat} {acc : List Int32} (hR : Rw o h l a lim c acc) (hl : lim ≤ 3000) (hF : mFine acc) (hD : (mWD acc).1 = 0) (hn : 3001 < n) : ∃ h', f_Row_leaveOutOuterPair n a h = some ((), h') ∧ Rw o h' l a lim c (mStrip acc) ∧ Fr (fun b => b = l) o o h h' := by
  have hle := hR.le
  obtain ⟨fs, hob⟩ := hR.obj
  have hw := mWD_whole (acc := acc) acc.length (Nat.le_refl _)
  rw [List.take_length] at hw
  unfold f_Row_leaveOutOuterPair
  rw [hR.size, Option.bind_some]
  by_cases h2 : acc.length < 2
  · rw [if_pos (show _ < (2 : Int32) from nI_lt (b := 2) h2 (by decide))]
    refine ⟨h, rfl, ?_, Fr.rf _ _ _⟩
    unfold mStrip
    rw [if_neg (fun q => by omega)]
    exact hR
  · have hg0 : acc[0]? = some acc[0] := List.getElem?_eq_getElem (by omega)
    have hgl : acc[acc.length - 1]? = some (acc[acc.length - 1]'(by omega)) := List.getElem?_eq_getElem (by omega)
    rw [if_neg (show ¬ _ < (2 : Int32) from nI_nlt (b := 2) (by omega) (by omega)), hob]
    simp only [Option.bind_some]
    rw [hR.get hl, Option.bind_some, show mAt acc 0 = acc[0] from mAt_in (k := 0) hg0 (by decide), show nI acc.length - 1 = nI (acc.length - 1) from pk_sub (b := 1) (by omega), hR.get hl, Option.bind_some, mAt_in hgl (by omega)]
    by_cases hf : acc[0] = 257
    · rw [if_pos hf]
      by_cases hll : acc[acc.length - 1]'(by omega) = 258
      · rw [if_pos hll]
        obtain ⟨b, h1, e, rfl, hb⟩ := hloopW_rule (body := f_Row_leaveOutOuterPair_b40 n a) (fun k v h1 => ∃ i, k = acc.length - i ∧ i ≤ acc.length - 1 ∧ v = (nI (mWD (acc.take i)).1, nI i) ∧ h1 = h ∧ ∀ j, 1 ≤ j → j ≤ i → (mWD (acc.take j)).1 ≠ 0) (fun b h1 => h1 = h ∧ ((b = .inl () ∧ ∃ j, 1 ≤ j ∧ j ≤ acc.length - 1 ∧ (mWD (acc.take j)).1 = 0) ∨ (b = .inr () ∧ ∀ j, 1 ≤ j → j ≤ acc.length - 1 → (mWD (acc.take j)).1 ≠ 0)))
          (by
            rintro k v h1 ⟨i, rfl, hi, rfl, rfl, hj⟩
            by_cases he : i = acc.length - 1
            · refine Or.inr ⟨.inr (), h1, ?_, rfl, Or.inr ⟨rfl, by rw [← he]; exact hj⟩⟩
              unfold f_Row_leaveOutOuterPair_b40
              dsimp only
              rw [hR.size, Option.bind_some, show nI acc.length - 1 = nI (acc.length - 1) from pk_sub (b := 1) (by omega), if_pos (nI_le (by omega) (by omega))]
            · have hgi : acc[i]? = some (acc[i]'(by omega)) := List.getElem?_eq_getElem (by omega)
              have hdl := mWD_le acc i (by omega)
              have hnx : nI (mWD (acc.take i)).1 + mNest (acc[i]'(by omega)) = nI (mWD (acc.take (i + 1))).1 := by
                rw [mNest_nat (fun q => hF i _ hgi q) (by omega), mWD_take hgi]
                rfl
              have hdl2 := mWD_le acc (i + 1) (by omega)
              have hbd : f_Row_leaveOutOuterPair_b40 n a (nI (mWD (acc.take i)).1, nI i) h1 = if nI (mWD (acc.take (i + 1))).1 = 0 then some (.inr (.inl ()), h1) else some (.inl (nI (mWD (acc.take (i + 1))).1, nI (i + 1)), h1) := by
                unfold f_Row_leaveOutOuterPair_b40
                dsimp only
                rw [hR.size, Option.bind_some, show nI acc.length - 1 = nI (acc.length - 1) from pk_sub (b := 1) (by omega), if_neg (nI_ge (by omega) (by omega)), hob, Option.bind_some, hR.get hl, Option.bind_some, mAt_in hgi (by omega), c_nest, Option.bind_some, hnx, nI_1]
              by_cases hz : (mWD (acc.take (i + 1))).1 = 0
              · refine Or.inr ⟨.inl (), h1, ?_, rfl, Or.inl ⟨rfl, i + 1, by omega, by omega, hz⟩⟩
                rw [hbd, hz]
                rfl
              · refine Or.inl ⟨(nI (mWD (acc.take (i + 1))).1, nI (i + 1)), acc.length - (i + 1), h1, ?_, by omega, i + 1, rfl, by omega, rfl, rfl, fun j h3 h4 => ?_⟩
                · rw [hbd, if_neg (nI_ne0 (by omega) (by omega))]
                · by_cases hji : j ≤ i
                  · exact hj j h3 hji
                  · rw [show j = i + 1 by omega]
                    exact hz)
          n acc.length (0, 0) h (by omega) ⟨0, by omega, by omega, rfl, rfl, fun j h3 h4 => by omega⟩
        rw [e]
        simp only [hbW]
        rcases hb with ⟨rfl, j, hj1, hj2, hj0⟩ | ⟨rfl, hall⟩
        · refine ⟨h1, rfl, ?_, Fr.rf _ _ _⟩
          unfold mStrip
          rw [if_neg (fun q => ?_)]
          · exact hR
          · have := hw.mp q.1 j _ (by omega) (List.getElem?_eq_getElem (by omega))
            rcases this with h3 | ⟨h3, -⟩ <;> omega
        · have hst : mStrip acc = (acc.drop 1).take (acc.length - 2) := by
            have hwt : (mWD acc).2.1 = true := hw.mpr (fun j t hj ht => by
              by_cases hj0 : j = 0
              · subst hj0
                rw [hg0] at ht
                cases ht
                exact Or.inr ⟨rfl, hf⟩
              · have := hall j (by omega) (by omega)
                exact Or.inl (by omega))
            unfold mStrip
            rw [if_pos ⟨hwt, by omega⟩]
          obtain ⟨ia, f, e1, e2, t1, t2, hne, hc, hcl, hff⟩ := hR
          have e3 : (va_up h1 ia (kA c (va_cpy f f 1 0 (acc.length - 2)))) a = k8 (nI lim) ia (nI acc.length) := by
            rw [va_up_ne _ _ hne]
            exact e1
          have hlen : ((acc.drop 1).take (acc.length - 2)).length = acc.length - 2 := by
            rw [List.length_take, List.length_drop]
            omega
          refine ⟨va_up (va_up h1 ia (kA c (va_cpy f f 1 0 (acc.length - 2)))) a (k8 (nI lim) ia (nI (acc.length - 2))), ?_, ?_, (Fr.u1 t2).tr (Fr.u1 t1)⟩
          · rw [k8_g1 e1]
            simp only [Option.bind_some]
            rw [k8_g2 e1, Option.bind_some, show nI acc.length - 2 = nI (acc.length - 2) from pk_sub (b := 2) (by omega), show (hcpI h1 ia 1 ia 0 (nI (acc.length - 2)) 0) = _ from kA_cp (sp := 1) (dp := 0) e2 e2 (by omega) (by omega) (by omega) (by omega), Option.bind_some, k8_g2 e3, Option.bind_some, show nI acc.length - 2 = nI (acc.length - 2) from pk_sub (b := 2) (by omega), k8_p2 e3, Option.bind_some]
          · rw [hst]
            refine ⟨ia, va_cpy f f 1 0 (acc.length - 2), by rw [va_up_self, hlen], ?_, t1, t2, hne, by omega, hcl, fun i u hi => ?_⟩
            · rw [va_up_ne _ _ (Ne.symm hne), va_up_self]
            · have hil := (List.getElem?_eq_some_iff.mp hi).1
              rw [hlen] at hil
              rw [List.getElem?_take_of_lt hil, List.getElem?_drop] at hi
              rw [pk_cpy_in (by omega) (by omega), Nat.sub_zero]
              exact hff (1 + i) u hi
      · rw [if_neg hll]
        refine ⟨h, rfl, ?_, Fr.rf _ _ _⟩
        unfold mStrip
        rw [if_neg (fun q => ?_)]
        · exact hR
        · have h3 := hw.mp q.1 (acc.length - 1) _ (by omega) hgl
          have h4 : (mWD (acc.take (acc.length - 1))).1 ≠ 0 := by
            rcases h3 with h3 | ⟨h3, -⟩ <;> omega
          have h5 := mWD_take hgl
          rw [show acc.length - 1 + 1 = acc.length by omega, List.take_length] at h5
          rw [h5] at hD
          simp only [mWs, mDep] at hD
          split at hD
          · omega
          · first
            | omega
            | (rw [if_neg hll] at hD; omega)
    · rw [if_neg hf]
      refine ⟨h, rfl, ?_, Fr.rf _ _ _⟩
      unfold mStrip
      rw [if_neg (fun q => ?_)]
      · exact hR
      · have h3 := hw.mp q.1 0 _ (by omega) hg0
        rcases h3 with h3 | ⟨-, h3⟩
        · simp [mWD] at h3
        · exact hf h3
