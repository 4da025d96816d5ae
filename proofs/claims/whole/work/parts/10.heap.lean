/-! A FUNCTIONAL HEAP: which cell lies at which address, as a function; the accessors that the decompiled methods use -/
/-- a cell: an array (its kind's number, its length, its contents) or an object (its class's number, its fields) -/
abbrev hC : Type := (Nat × vp_A) ⊕ (Nat × List Value)
abbrev hH : Type := Nat → Option hC
def hE (dA : Nat → ClassId) : hC → va_E
  | .inl a => .inl (dA a.1, a.2)
  | .inr o => .inr o
/-- the fields of the object of class ci at a -/
def hObj (h : hH) (a ci : Nat) : Option (List Value) := match h a with
  | some (.inr o) => if o.1 = ci then some o.2 else none
  | _ => none
theorem hObj_spec {h : hH} {a ci : Nat} {fs : List Value} (e : hObj h a ci = some fs) : h a = some (.inr (ci, fs)) := by
  unfold hObj at e
  split at e
  · rename_i o ho
    split at e
    · rename_i hci
      cases e
      rw [ho, ← hci]
    · cases e
  · cases e
theorem hObj_of {h : hH} {a ci : Nat} {fs : List Value} (e : h a = some (.inr (ci, fs))) : hObj h a ci = some fs := by
  simp [hObj, e]
/-- a field that holds an int -/
def hgI (h : hH) (a ci k : Nat) : Option Int32 := (hObj h a ci).bind fun fs => match fs[k]? with
  | some (.int x) => some x
  | _ => none
theorem hgI_spec {h : hH} {a ci k : Nat} {x : Int32} (e : hgI h a ci k = some x) : ∃ fs, h a = some (.inr (ci, fs)) ∧ fs[k]? = some (.int x) := by
  unfold hgI at e
  obtain ⟨fs, h1, h2⟩ := Option.bind_eq_some_iff.mp e
  refine ⟨fs, hObj_spec h1, ?_⟩
  split at h2
  · rename_i y hy
    cases h2
    exact hy
  · cases h2
/-- a field that holds a long -/
def hgL (h : hH) (a ci k : Nat) : Option Int64 := (hObj h a ci).bind fun fs => match fs[k]? with
  | some (.long x) => some x
  | _ => none
theorem hgL_spec {h : hH} {a ci k : Nat} {x : Int64} (e : hgL h a ci k = some x) : ∃ fs, h a = some (.inr (ci, fs)) ∧ fs[k]? = some (.long x) := by
  unfold hgL at e
  obtain ⟨fs, h1, h2⟩ := Option.bind_eq_some_iff.mp e
  refine ⟨fs, hObj_spec h1, ?_⟩
  split at h2
  · rename_i y hy
    cases h2
    exact hy
  · cases h2
/-- a field that holds a reference, or null -/
def hgR (h : hH) (a ci k : Nat) : Option (Option Nat) := (hObj h a ci).bind fun fs => match fs[k]? with
  | some (.ref x) => some (some x)
  | some .null => some none
  | _ => none
theorem hgR_spec {h : hH} {a ci k : Nat} {x : Option Nat} (e : hgR h a ci k = some x) : ∃ fs, h a = some (.inr (ci, fs)) ∧ fs[k]? = some (va_rf x) := by
  unfold hgR at e
  obtain ⟨fs, h1, h2⟩ := Option.bind_eq_some_iff.mp e
  refine ⟨fs, hObj_spec h1, ?_⟩
  split at h2
  · rename_i y hy
    cases h2
    exact hy
  · rename_i hy
    cases h2
    exact hy
  · cases h2
/-- a field is written -/
def hpV (h : hH) (a ci k : Nat) (v : Value) : Option hH := (hObj h a ci).bind fun fs => if k < fs.length then some (va_up h a (some (.inr (ci, fs.set k v)))) else none
theorem hpV_spec {h h1 : hH} {a ci k : Nat} {v : Value} (e : hpV h a ci k v = some h1) : ∃ fs, h a = some (.inr (ci, fs)) ∧ k < fs.length ∧ h1 = va_up h a (some (.inr (ci, fs.set k v))) := by
  unfold hpV at e
  obtain ⟨fs, e1, e2⟩ := Option.bind_eq_some_iff.mp e
  refine ⟨fs, hObj_spec e1, ?_⟩
  split at e2
  · rename_i hk
    cases e2
    exact ⟨hk, rfl⟩
  · cases e2
/-- an array of ints of kind kd at a: its length and contents -/
def hAI (h : hH) (a kd : Nat) : Option (Nat × (Nat → Int32)) := match h a with
  | some (.inl (kd', n, .inl f)) => if kd' = kd then some (n, f) else none
  | _ => none
theorem hAI_spec {h : hH} {a kd : Nat} {x : Nat × (Nat → Int32)} (e : hAI h a kd = some x) : h a = some (.inl (kd, x.1, .inl x.2)) := by
  unfold hAI at e
  split at e
  · rename_i kd' n f ho
    split at e
    · rename_i hk
      cases e
      rw [ho, ← hk]
    · cases e
  · cases e
/-- an array of references of kind kd at a -/
def hAR (h : hH) (a kd : Nat) : Option (Nat × (Nat → Option Nat)) := match h a with
  | some (.inl (kd', n, .inr (.inr (.inr (.inr f))))) => if kd' = kd then some (n, f) else none
  | _ => none
theorem hAR_spec {h : hH} {a kd : Nat} {x : Nat × (Nat → Option Nat)} (e : hAR h a kd = some x) : h a = some (.inl (kd, x.1, .inr (.inr (.inr (.inr x.2))))) := by
  unfold hAR at e
  split at e
  · rename_i kd' n f ho
    split at e
    · rename_i hk
      cases e
      rw [ho, ← hk]
    · cases e
  · cases e
/-- an index is in range -/
def hIn (i : Int32) (n : Nat) : Bool := !(decide (i < 0)) && decide (i.toNatClampNeg < n)
theorem hIn_vp {i : Int32} {n : Nat} (h : hIn i n = true) : vp_in i n := by
  simp only [hIn, Bool.and_eq_true, Bool.not_eq_true', decide_eq_false_iff_not, decide_eq_true_eq] at h
  exact fun q => q.elim h.1 (fun z => Nat.not_le.mpr h.2 z)
def haI (h : hH) (a kd : Nat) (i : Int32) : Option Int32 := (hAI h a kd).bind fun x => if hIn i x.1 then some (x.2 i.toNatClampNeg) else none
def haR (h : hH) (a kd : Nat) (i : Int32) : Option (Option Nat) := (hAR h a kd).bind fun x => if hIn i x.1 then some (x.2 i.toNatClampNeg) else none
def hsI (h : hH) (a kd : Nat) (i v : Int32) : Option hH := (hAI h a kd).bind fun x => if hIn i x.1 then some (va_up h a (some (.inl (kd, x.1, .inl (upd x.2 i.toNatClampNeg v))))) else none
def hsR (h : hH) (a kd : Nat) (i : Int32) (v : Option Nat) : Option hH := (hAR h a kd).bind fun x => if hIn i x.1 then some (va_up h a (some (.inl (kd, x.1, .inr (.inr (.inr (.inr (va_up x.2 i.toNatClampNeg v)))))))) else none
/-- an array's length -/
def haL (h : hH) (a kd : Nat) : Option Int32 := match h a with
  | some (.inl (kd', n, _)) => if kd' = kd then some (nI n) else none
  | _ => none
theorem haI_spec {h : hH} {a kd : Nat} {i x : Int32} (e : haI h a kd i = some x) : ∃ n f, h a = some (.inl (kd, n, .inl f)) ∧ vp_in i n ∧ x = f i.toNatClampNeg := by
  unfold haI at e
  obtain ⟨q, e1, e2⟩ := Option.bind_eq_some_iff.mp e
  refine ⟨q.1, q.2, hAI_spec e1, ?_⟩
  split at e2
  · rename_i hi
    cases e2
    exact ⟨hIn_vp hi, rfl⟩
  · cases e2
theorem haR_spec {h : hH} {a kd : Nat} {i : Int32} {x : Option Nat} (e : haR h a kd i = some x) : ∃ n f, h a = some (.inl (kd, n, .inr (.inr (.inr (.inr f))))) ∧ vp_in i n ∧ x = f i.toNatClampNeg := by
  unfold haR at e
  obtain ⟨q, e1, e2⟩ := Option.bind_eq_some_iff.mp e
  refine ⟨q.1, q.2, hAR_spec e1, ?_⟩
  split at e2
  · rename_i hi
    cases e2
    exact ⟨hIn_vp hi, rfl⟩
  · cases e2
theorem hsI_spec {h h1 : hH} {a kd : Nat} {i v : Int32} (e : hsI h a kd i v = some h1) : ∃ n f, h a = some (.inl (kd, n, .inl f)) ∧ vp_in i n ∧ h1 = va_up h a (some (.inl (kd, n, .inl (upd f i.toNatClampNeg v)))) := by
  unfold hsI at e
  obtain ⟨q, e1, e2⟩ := Option.bind_eq_some_iff.mp e
  refine ⟨q.1, q.2, hAI_spec e1, ?_⟩
  split at e2
  · rename_i hi
    cases e2
    exact ⟨hIn_vp hi, rfl⟩
  · cases e2
theorem hsR_spec {h h1 : hH} {a kd : Nat} {i : Int32} {v : Option Nat} (e : hsR h a kd i v = some h1) : ∃ n f, h a = some (.inl (kd, n, .inr (.inr (.inr (.inr f))))) ∧ vp_in i n ∧ h1 = va_up h a (some (.inl (kd, n, .inr (.inr (.inr (.inr (va_up f i.toNatClampNeg v))))))) := by
  unfold hsR at e
  obtain ⟨q, e1, e2⟩ := Option.bind_eq_some_iff.mp e
  refine ⟨q.1, q.2, hAR_spec e1, ?_⟩
  split at e2
  · rename_i hi
    cases e2
    exact ⟨hIn_vp hi, rfl⟩
  · cases e2
theorem haL_spec {h : hH} {a kd : Nat} {x : Int32} (e : haL h a kd = some x) : ∃ q : vp_A, h a = some (.inl (kd, q)) ∧ Int32.ofNat q.1 = x := by
  unfold haL at e
  split at e
  · rename_i kd' n f ho
    split at e
    · rename_i hk
      cases e
      exact ⟨(n, f), by rw [ho, ← hk], rfl⟩
    · cases e
  · cases e
/-- System.arraycopy between arrays of ints of one kind -/
def hcpI (h : hH) (a0 : Nat) (sp : Int32) (a : Nat) (dp n : Int32) (kd : Nat) : Option hH := (hAI h a0 kd).bind fun x => (hAI h a kd).bind fun y =>
  if ¬ sp < 0 ∧ ¬ dp < 0 ∧ ¬ n < 0 ∧ sp.toNatClampNeg + n.toNatClampNeg ≤ x.1 ∧ dp.toNatClampNeg + n.toNatClampNeg ≤ y.1 then
    some (va_up h a (some (.inl (kd, y.1, .inl (va_cpy x.2 y.2 sp.toNatClampNeg dp.toNatClampNeg n.toNatClampNeg))))) else none
theorem hcpI_spec {h h1 : hH} {a0 a kd : Nat} {sp dp n : Int32} (e : hcpI h a0 sp a dp n kd = some h1) : ∃ n0 f n1 g, h a0 = some (.inl (kd, n0, .inl f)) ∧ h a = some (.inl (kd, n1, .inl g)) ∧ ¬ sp < 0 ∧ ¬ dp < 0 ∧ ¬ n < 0 ∧ sp.toNatClampNeg + n.toNatClampNeg ≤ n0 ∧ dp.toNatClampNeg + n.toNatClampNeg ≤ n1 ∧ h1 = va_up h a (some (.inl (kd, n1, .inl (va_cpy f g sp.toNatClampNeg dp.toNatClampNeg n.toNatClampNeg)))) := by
  unfold hcpI at e
  obtain ⟨q, e1, e2⟩ := Option.bind_eq_some_iff.mp e
  obtain ⟨r, e3, e4⟩ := Option.bind_eq_some_iff.mp e2
  split at e4
  · rename_i hi
    cases e4
    exact ⟨q.1, q.2, r.1, r.2, hAI_spec e1, hAI_spec e3, hi.1, hi.2.1, hi.2.2.1, hi.2.2.2.1, hi.2.2.2.2, rfl⟩
  · cases e4
/-- what a method that makes cells answers: its answer, cells and slots made, the heap behind it -/
abbrev hR (α : Type) : Type := Option (α × Nat × Nat × hH)
def hbind {α β : Type} (x : hR α) (nx : Nat) (k : α → Nat → hH → hR β) : hR β := match x with
  | none => none
  | some (a, d, e, h) => match k a (nx + d) h with
    | none => none
    | some (b, d', e', h') => some (b, d + d', e + e', h')
theorem hbind_some {α β : Type} {x : hR α} {nx : Nat} {k : α → Nat → hH → hR β} {b : β} {dn ds : Nat} {h' : hH} (e : hbind x nx k = some (b, dn, ds, h')) : ∃ (a : α) (d e1 : Nat) (h1 : hH) (d' e' : Nat), x = some (a, d, e1, h1) ∧ k a (nx + d) h1 = some (b, d', e', h') ∧ dn = d + d' ∧ ds = e1 + e' := by
  unfold hbind at e
  split at e
  · cases e
  · rename_i a d e1 h1
    split at e
    · cases e
    · rename_i b2 d' e' h2 hk
      cases e
      exact ⟨a, d, e1, h1, d', e', rfl, hk, rfl, rfl⟩
/-- a new cell of n slots -/
def hnew (c : hC) (n nx : Nat) (h : hH) : hR Nat := some (nx, 1, n, va_up h nx (some c))
