/-! BINDS AND LOOPS OF THE DECOMPILED METHODS -/
def hbW {α β : Type} (x : Option (α × hH)) (k : α → hH → Option β) : Option β := match x with
  | none => none
  | some q => k q.1 q.2
theorem hbW_some {α β : Type} {x : Option (α × hH)} {k : α → hH → Option β} {b : β} (e : hbW x k = some b) : ∃ (a : α) (h1 : hH), x = some (a, h1) ∧ k a h1 = some b := by
  unfold hbW at e
  split at e
  · cases e
  · rename_i q
    exact ⟨q.1, q.2, rfl, e⟩
theorem hb_some {α β : Type} {x : Option α} {k : α → Option β} {b : β} (e : x.bind k = some b) : ∃ a : α, x = some a ∧ k a = some b := Option.bind_eq_some_iff.mp e
def hNull {β : Type} (r : Option Nat) (a : Option β) (b : Nat → Option β) : Option β := match r with
  | none => a
  | some x => b x
/-- a boolean field is written -/
def hpZ (h : hH) (a ci k : Nat) (x : Int32) : Option hH := if x = 0 ∨ x = 1 then hpV h a ci k (.int x) else none
theorem hpZ_spec {h h1 : hH} {a ci k : Nat} {x : Int32} (e : hpZ h a ci k x = some h1) : narrow .boolean (.int x) = .int x ∧ fits .boolean (.int x) = true ∧ hpV h a ci k (.int x) = some h1 := by
  unfold hpZ at e
  split at e
  · rename_i hx
    rcases hx with rfl | rfl
    · exact ⟨by decide, by decide, e⟩
    · exact ⟨by decide, by decide, e⟩
  · cases e
theorem hnew_some {β : Type} {c : hC} {N nx : Nat} {h : hH} {k : Nat → Nat → hH → hR β} {b : β} {dn ds : Nat} {h' : hH} (e : hbind (hnew c N nx h) nx k = some (b, dn, ds, h')) : ∃ (h1 : hH) (d' e' : Nat), h1 = va_up h nx (some c) ∧ k nx (nx + 1) h1 = some (b, d', e', h') ∧ dn = 1 + d' ∧ ds = N + e' := by
  obtain ⟨a, d, e1, h1, d', e', g1, g2, g3, g4⟩ := hbind_some e
  cases g1
  exact ⟨_, d', e', rfl, g2, g3, g4⟩
def hloopR {α β : Type} (body : α → Option (α ⊕ β)) : Nat → α → Option β
  | 0, _ => none
  | n + 1, x => (body x).bind fun q => match q with
    | .inl y => hloopR body n y
    | .inr b => some b
def hloopW {α β : Type} (body : α → hH → Option ((α ⊕ β) × hH)) : Nat → α → hH → Option (β × hH)
  | 0, _, _ => none
  | n + 1, x, h => hbW (body x h) fun q h1 => match q with
    | .inl y => hloopW body n y h1
    | .inr b => some (b, h1)
def hloopA {α β : Type} (body : α → Nat → hH → hR (α ⊕ β)) : Nat → α → Nat → hH → hR β
  | 0, _, _, _ => none
  | n + 1, x, nx, h => hbind (body x nx h) nx fun q nx1 h1 => match q with
    | .inl y => hloopA body n y nx1 h1
    | .inr b => some (b, 0, 0, h1)
theorem h_cat (r : Option Nat) : (va_rf r).category = 1 := by cases r <;> rfl
theorem h_narZ {x : Int32} (h : x = 0 ∨ x = 1) : narrow .boolean (.int x) = .int x := by
  rcases h with rfl | rfl <;> decide
