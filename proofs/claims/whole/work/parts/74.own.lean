/-! WHOSE A CELL IS: o says which address belongs to which label; a method changes the cells of its labels alone -/
abbrev oT : Type := Nat → Option Nat
def Own (o : oT) (nx : Nat) : Prop := ∀ c, nx ≤ c → o c = none
def Fr (W : Nat → Prop) (o o' : oT) (h h' : hH) : Prop := ∀ c l, o c = some l → o' c = some l ∧ (¬ W l → h' c = h c)
theorem Fr.rf (W : Nat → Prop) (o : oT) (h : hH) : Fr W o o h h := fun _ _ e => ⟨e, fun _ => rfl⟩
theorem Fr.tr {W : Nat → Prop} {o o1 o2 : oT} {h h1 h2 : hH} (a : Fr W o o1 h h1) (b : Fr W o1 o2 h1 h2) : Fr W o o2 h h2 := fun c l e => ⟨(b c l (a c l e).1).1, fun w => ((b c l (a c l e).1).2 w).trans ((a c l e).2 w)⟩
theorem Fr.mono {V W : Nat → Prop} {o o' : oT} {h h' : hH} (a : Fr V o o' h h') (hVW : ∀ l, V l → W l) : Fr W o o' h h' := fun c l e => ⟨(a c l e).1, fun w => (a c l e).2 (fun v => w (hVW l v))⟩
theorem Fr.up {W : Nat → Prop} {o : oT} {h : hH} {a l : Nat} {c : Option hC} (e : o a = some l) (w : W l) : Fr W o o h (va_up h a c) := fun b k eb => ⟨eb, fun nw => va_up_ne _ _ (fun hb => by rw [hb, e] at eb; cases eb; exact nw w)⟩
theorem Fr.u1 {o : oT} {h : hH} {a l : Nat} {c : Option hC} (e : o a = some l) : Fr (fun b => b = l) o o h (va_up h a c) := Fr.up e rfl
def oSet (o : oT) (a l : Nat) : oT := fun c => if c = a then some l else o c
theorem oSet_self (o : oT) (a l : Nat) : oSet o a l a = some l := by simp [oSet]
theorem Own.ne {o : oT} {nx c l : Nat} (ho : Own o nx) (e : o c = some l) : c ≠ nx := fun q => by rw [q, ho nx (Nat.le_refl _)] at e; cases e
theorem Own.lt {o : oT} {nx c l : Nat} (ho : Own o nx) (e : o c = some l) : c < nx := Nat.lt_of_not_le (fun q => by rw [ho c q] at e; cases e)
theorem oSet_old {o : oT} {nx c l k : Nat} (ho : Own o nx) (e : o c = some l) : oSet o nx k c = some l := by
  unfold oSet
  rw [if_neg (ho.ne e)]
  exact e
theorem Fr.new {W : Nat → Prop} {o : oT} {h : hH} {nx l : Nat} {c : Option hC} (ho : Own o nx) : Fr W o (oSet o nx l) h (va_up h nx c) := fun _ _ eb => ⟨oSet_old ho eb, fun _ => va_up_ne _ _ (ho.ne eb)⟩
theorem Own.set {o : oT} {nx l : Nat} (ho : Own o nx) : Own (oSet o nx l) (nx + 1) := fun c hc => by
  unfold oSet
  rw [if_neg (by omega)]
  exact ho c (by omega)
theorem own_ne {o : oT} {a b l k : Nat} (h1 : o a = some l) (h2 : o b = some k) (hl : l ≠ k) : a ≠ b := fun q => hl (by rw [q, h2] at h1; cases h1; rfl)
/-! ROWS -/
def Rw (o : oT) (h : hH) (l a lim c : Nat) (xs : List Int32) : Prop := ∃ (ia : Nat) (f : Nat → Int32), h a = k8 (nI lim) ia (nI xs.length) ∧ h ia = kA c f ∧ o a = some l ∧ o ia = some l ∧ a ≠ ia ∧ xs.length ≤ c ∧ c ≤ lim ∧ ∀ (i : Nat) (t : Int32), xs[i]? = some t → f i = t
theorem Rw.fr {W : Nat → Prop} {o o' : oT} {h h' : hH} {l a lim c : Nat} {xs : List Int32} (hR : Rw o h l a lim c xs) (F : Fr W o o' h h') (w : ¬ W l) : Rw o' h' l a lim c xs := by
  obtain ⟨ia, f, e1, e2, t1, t2, r⟩ := hR
  exact ⟨ia, f, ((F a l t1).2 w).trans e1, ((F ia l t2).2 w).trans e2, (F a l t1).1, (F ia l t2).1, r⟩
theorem Rw.size {o : oT} {h : hH} {l a lim c : Nat} {xs : List Int32} (hR : Rw o h l a lim c xs) : hgI h a 8 2 = some (nI xs.length) := by
  obtain ⟨ia, f, e1, -⟩ := hR
  exact k8_g2 e1
theorem Rw.obj {o : oT} {h : hH} {l a lim c : Nat} {xs : List Int32} (hR : Rw o h l a lim c xs) : ∃ fs, hObj h a 8 = some fs := by
  obtain ⟨ia, f, e1, -⟩ := hR
  exact ⟨_, k8_o e1⟩
theorem Rw.le {o : oT} {h : hH} {l a lim c : Nat} {xs : List Int32} (hR : Rw o h l a lim c xs) : xs.length ≤ lim := by
  obtain ⟨ia, f, e1, e2, t1, t2, hne, hc, hcl, hf⟩ := hR
  omega
theorem Rw.full {o : oT} {h : hH} {l a lim c : Nat} {xs : List Int32} (hR : Rw o h l a lim c xs) (hl : lim ≤ 3000) : f_Row_isFull a h = some (if xs.length < lim then 0 else 1) := by
  have hle := hR.le
  obtain ⟨ia, f, e1, -⟩ := hR
  unfold f_Row_isFull
  rw [k8_g2 e1, k8_g0 e1, Option.bind_some, Option.bind_some]
  by_cases hx : xs.length < lim
  · rw [if_pos (nI_lt hx (by omega)), if_pos hx]
  · rw [if_neg (nI_nlt (by omega) (by omega)), if_neg hx]
theorem Rw.get {o : oT} {h : hH} {l a lim c : Nat} {xs : List Int32} (hR : Rw o h l a lim c xs) (hl : lim ≤ 3000) (i : Int32) : f_Row_get a i h = some (mAt xs i) := by
  have hle := hR.le
  obtain ⟨ia, f, e1, e2, t1, t2, hne, hc, hcl, hf⟩ := hR
  unfold f_Row_get
  by_cases h0 : i < 0
  · rw [if_pos h0, mAt_out (Or.inl h0)]
  · rw [if_neg h0]
    obtain ⟨j, hj, rfl⟩ := nI_of h0
    rw [k8_g2 e1, Option.bind_some]
    by_cases h1 : xs.length ≤ j
    · rw [if_pos (nI_le h1 hj), mAt_out (Or.inr ⟨j, h1, hj, rfl⟩)]
    · obtain ⟨t, ht⟩ : ∃ t, xs[j]? = some t := ⟨xs[j]'(by omega), List.getElem?_eq_getElem (by omega)⟩
      rw [if_neg (nI_ge (by omega) (by omega)), k8_g1 e1]
      simp only [Option.bind_some]
      rw [kA_len e2, Option.bind_some, if_neg (nI_ge (by omega) (by omega)), kA_get e2 (by omega) (by omega), Option.bind_some, hf j t ht, mAt_in ht hj]
theorem Rw.clear {o : oT} {h : hH} {l a lim c : Nat} {xs : List Int32} (hR : Rw o h l a lim c xs) : ∃ h', f_Row_clear a h = some ((), h') ∧ Rw o h' l a lim c [] ∧ Fr (fun b => b = l) o o h h' := by
  obtain ⟨ia, f, e1, e2, t1, t2, hne, hc, hcl, hf⟩ := hR
  refine ⟨va_up h a (k8 (nI lim) ia 0), ?_, ⟨ia, f, va_up_self _ _ _, ?_, t1, t2, hne, Nat.zero_le _, hcl, fun i t hi => by simp at hi⟩, Fr.u1 t1⟩
  · unfold f_Row_clear
    rw [k8_p2 e1, Option.bind_some]
  · rw [va_up_ne _ _ (Ne.symm hne)]
    exact e2
theorem Rw.add52 {o : oT} {h : hH} {l a lim c nx : Nat} {xs : List Int32} {t : Int32} (hR : Rw o h l a lim c xs) (hl : lim ≤ 3000) (hx : xs.length < c) : ∃ h', f_Row_add_j52 a t nx h = some ((), 0, 0, h') ∧ Rw o h' l a lim c (xs ++ [t]) ∧ Fr (fun b => b = l) o o h h' := by
  obtain ⟨ia, f, e1, e2, t1, t2, hne, hc, hcl, hf⟩ := hR
  have e3 : (va_up h ia (kA c (upd f xs.length t))) a = k8 (nI lim) ia (nI xs.length) := by
    rw [va_up_ne _ _ hne]
    exact e1
  refine ⟨va_up (va_up h ia (kA c (upd f xs.length t))) a (k8 (nI lim) ia (nI xs.length + 1)), ?_, ⟨ia, upd f xs.length t, ?_, ?_, t1, t2, hne, ?_, hcl, ?_⟩, (Fr.u1 t2).tr (Fr.u1 t1)⟩
  · unfold f_Row_add_j52
    rw [k8_g2 e1, Option.bind_some, k8_g1 e1, Option.bind_some, Option.bind_some, kA_len e2, Option.bind_some, if_neg (nI_ge hx (by omega)), Option.bind_some, Option.bind_some, Option.bind_some, kA_set e2 hx (by omega), Option.bind_some, k8_g2 e3, Option.bind_some, k8_p2 e3, Option.bind_some]
  · rw [va_up_self, nI_1, List.length_append, List.length_singleton]
  · rw [va_up_ne _ _ (Ne.symm hne), va_up_self]
  · rw [List.length_append, List.length_singleton]
    omega
  · intro i u hi
    by_cases hil : i < xs.length
    · rw [List.getElem?_append_left hil] at hi
      rw [upd_other (by omega)]
      exact hf i u hi
    · rw [List.getElem?_append_right (by omega)] at hi
      have hi0 : i = xs.length := by
        have := (List.getElem?_eq_some_iff.mp hi).1
        simp at this
        omega
      subst hi0
      simp at hi
      rw [upd_same]
      exact hi
theorem copyOf_at {h : hH} {ia c k nx : Nat} {f : Nat → Int32} (e : h ia = kA c f) (hne : ia ≠ nx) (hc : c ≤ 3000) (hk : k ≤ 3000) : ∃ g : Nat → Int32, f_Arrays_copyOf ia (nI k) nx h = some (some nx, 1, k, va_up h nx (kA k g)) ∧ ∀ i, i < k → i < c → g i = f i := by
  unfold f_Arrays_copyOf
  rw [kA_len e, Option.bind_some]
  by_cases hkc : k = c
  · subst hkc
    rw [if_pos rfl, kA_all e, Option.bind_some]
    refine ⟨f, ?_, fun _ _ _ => rfl⟩
    simp only [hbind, hnew]
    rw [show haL (va_up h nx (some (.inl (0, k, .inl f)))) nx 0 = some (nI k) from kA_len (va_up_self _ _ _), Option.bind_some]
    rfl
  · have e15 : (va_up h nx (kA k (fun _ => 0))) ia = kA c f := by
      rw [va_up_ne _ _ hne]
      exact e
    have e16 : (va_up h nx (kA k (fun _ => 0))) nx = kA k (fun _ => 0) := va_up_self _ _ _
    have hmin : (if nI k < nI c then nI k else nI c) = nI (min k c) := by
      by_cases hlt : k < c
      · rw [if_pos (nI_lt hlt (by omega)), Nat.min_eq_left (by omega)]
      · rw [if_neg (nI_nlt (by omega) (by omega)), Nat.min_eq_right (by omega)]
    rw [if_neg (fun q => hkc ((nI_eq (by omega) (by omega)).mp q)), nI_clamp (show k < 2 ^ 31 by omega), if_neg (fun q => q.elim (nI_pos (by omega)) (fun q => by omega))]
    refine ⟨va_cpy f (fun _ => 0) 0 0 (min k c), ?_, fun i h1 h2 => ?_⟩
    · simp only [hbind, hnew]
      rw [show (haL (va_up h nx (some (.inl (0, k, .inl fun _ => 0)))) ia 0) = some (nI c) from kA_len e15, Option.bind_some, hmin, show (hcpI (va_up h nx (some (.inl (0, k, .inl fun _ => 0)))) ia 0 nx 0 (nI (min k c)) 0) = _ from kA_cp (sp := 0) (dp := 0) e15 e16 (by omega) (by omega) (by omega) (by omega), Option.bind_some, va_up_up]
      rfl
    · rw [pk_cpy_in (by omega) (by omega)]
      simp
theorem Rw.add {o : oT} {h : hH} {l a lim c nx : Nat} {xs : List Int32} (t : Int32) (hR : Rw o h l a lim c xs) (ho : Own o nx) (hl : lim ≤ 3000) (hx : xs.length < lim) : ∃ (c' dn ds : Nat) (o' : oT) (h' : hH), f_Row_add a t nx h = some ((), dn, ds, h') ∧ Own o' (nx + dn) ∧ Rw o' h' l a lim c' (xs ++ [t]) ∧ Fr (fun b => b = l) o o' h h' ∧ ((c' = c ∧ dn = 0 ∧ ds = 0) ∨ (c < lim ∧ c' = min lim (2 * c + 8) ∧ dn = 1 ∧ ds = c')) := by
  have hR0 := hR
  obtain ⟨ia, f, e1, e2, t1, t2, hne, hc, hcl, hf⟩ := hR
  by_cases hxc : xs.length < c
  · obtain ⟨h', e3, R3, F3⟩ := hR0.add52 (nx := nx) (t := t) hl hxc
    refine ⟨c, 0, 0, o, h', ?_, ho, R3, F3, Or.inl ⟨rfl, rfl, rfl⟩⟩
    unfold f_Row_add
    rw [k8_g2 e1, Option.bind_some, k8_g0 e1, Option.bind_some, if_pos (nI_lt hx (by omega)), Option.bind_some, k8_g1 e1, Option.bind_some, Option.bind_some, kA_len e2, Option.bind_some, if_pos (nI_lt hxc (by omega))]
    exact e3
  · have hmin : (if ((2 : Int32) * nI c) + 8 < nI lim then ((2 : Int32) * nI c) + 8 else nI lim) = nI (min lim (2 * c + 8)) := by
      rw [show (2 : Int32) = nI 2 from rfl, show (8 : Int32) = nI 8 from rfl, pk_mul, nI_add]
      by_cases hlt : 2 * c + 8 < lim
      · rw [if_pos (nI_lt hlt (by omega)), Nat.min_eq_right (by omega)]
      · rw [if_neg (nI_nlt (by omega) (by omega)), Nat.min_eq_left (by omega)]
    obtain ⟨g, e3, hg⟩ := copyOf_at (nx := nx) (k := min lim (2 * c + 8)) e2 (ho.ne t2) (by omega) (by omega)
    have e4 : (va_up h nx (kA (min lim (2 * c + 8)) g)) a = k8 (nI lim) ia (nI xs.length) := by
      rw [va_up_ne _ _ (ho.ne t1)]
      exact e1
    have hR5 : Rw (oSet o nx l) (va_up (va_up h nx (kA (min lim (2 * c + 8)) g)) a (k8 (nI lim) nx (nI xs.length))) l a lim (min lim (2 * c + 8)) xs := by
      refine ⟨nx, g, va_up_self _ _ _, ?_, oSet_old ho t1, oSet_self _ _ _, ho.ne t1, by omega, by omega, fun i u hi => ?_⟩
      · rw [va_up_ne _ _ (Ne.symm (ho.ne t1)), va_up_self]
      · have hil := (List.getElem?_eq_some_iff.mp hi).1
        rw [hg i (by omega) (by omega)]
        exact hf i u hi
    obtain ⟨h', e6, R6, F6⟩ := hR5.add52 (nx := nx + 1) (t := t) hl (by omega)
    refine ⟨min lim (2 * c + 8), 1, min lim (2 * c + 8), oSet o nx l, h', ?_, ho.set, R6, ((Fr.new ho).tr (Fr.u1 (oSet_old ho t1))).tr F6, Or.inr ⟨by omega, rfl, rfl, rfl⟩⟩
    unfold f_Row_add
    rw [k8_g2 e1, Option.bind_some, k8_g0 e1, Option.bind_some, if_pos (nI_lt hx (by omega)), Option.bind_some, k8_g1 e1, Option.bind_some, Option.bind_some, kA_len e2, Option.bind_some, if_neg (nI_nlt (by omega) (by omega))]
    simp only [Option.bind_some, k8_g1 e1, k8_g0 e1, kA_len e2]
    rw [hmin, e3]
    simp only [hbind]
    rw [show va_rf (some nx) = .ref nx from rfl, k8_p1 e4, Option.bind_some, e6]
    simp
