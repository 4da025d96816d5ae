/-! READING AND WRITING A HEAP THAT IS KNOWN CELL BY CELL -/
theorem hgI_at {h : hH} {a ci k : Nat} {fs : List Value} {x : Int32} (e : h a = some (.inr (ci, fs))) (hk : fs[k]? = some (.int x)) : hgI h a ci k = some x := by
  simp [hgI, hObj_of e, hk]
theorem hgL_at {h : hH} {a ci k : Nat} {fs : List Value} {x : Int64} (e : h a = some (.inr (ci, fs))) (hk : fs[k]? = some (.long x)) : hgL h a ci k = some x := by
  simp [hgL, hObj_of e, hk]
theorem hgR_at {h : hH} {a ci k : Nat} {fs : List Value} {x : Option Nat} (e : h a = some (.inr (ci, fs))) (hk : fs[k]? = some (va_rf x)) : hgR h a ci k = some x := by
  cases x <;> simp [hgR, hObj_of e, hk, va_rf]
theorem hpV_at {h : hH} {a ci k : Nat} {fs : List Value} {v : Value} (e : h a = some (.inr (ci, fs))) (hk : k < fs.length) : hpV h a ci k v = some (va_up h a (some (.inr (ci, fs.set k v)))) := by
  simp [hpV, hObj_of e, hk]
theorem hAI_at {h : hH} {a kd n : Nat} {f : Nat → Int32} (e : h a = some (.inl (kd, n, .inl f))) : hAI h a kd = some (n, f) := by
  simp [hAI, e]
theorem hAR_at {h : hH} {a kd n : Nat} {f : Nat → Option Nat} (e : h a = some (.inl (kd, n, .inr (.inr (.inr (.inr f)))))) : hAR h a kd = some (n, f) := by
  simp [hAR, e]
theorem hIn_nI {k n : Nat} (h : k < n) (hn : n < 2 ^ 31) : hIn (nI k) n = true := by
  simp [hIn, nI_pos (show k < 2 ^ 31 by omega), nI_clamp (show k < 2 ^ 31 by omega), h]
theorem haI_at {h : hH} {a kd n k : Nat} {f : Nat → Int32} (e : h a = some (.inl (kd, n, .inl f))) (hk : k < n) (hn : n < 2 ^ 31) : haI h a kd (nI k) = some (f k) := by
  simp [haI, hAI_at e, hIn_nI hk hn, nI_clamp (show k < 2 ^ 31 by omega)]
theorem haR_at {h : hH} {a kd n k : Nat} {f : Nat → Option Nat} (e : h a = some (.inl (kd, n, .inr (.inr (.inr (.inr f)))))) (hk : k < n) (hn : n < 2 ^ 31) : haR h a kd (nI k) = some (f k) := by
  simp [haR, hAR_at e, hIn_nI hk hn, nI_clamp (show k < 2 ^ 31 by omega)]
theorem hsI_at {h : hH} {a kd n k : Nat} {f : Nat → Int32} {v : Int32} (e : h a = some (.inl (kd, n, .inl f))) (hk : k < n) (hn : n < 2 ^ 31) : hsI h a kd (nI k) v = some (va_up h a (some (.inl (kd, n, .inl (upd f k v))))) := by
  simp [hsI, hAI_at e, hIn_nI hk hn, nI_clamp (show k < 2 ^ 31 by omega)]
theorem hsR_at {h : hH} {a kd n k : Nat} {f : Nat → Option Nat} {v : Option Nat} (e : h a = some (.inl (kd, n, .inr (.inr (.inr (.inr f)))))) (hk : k < n) (hn : n < 2 ^ 31) : hsR h a kd (nI k) v = some (va_up h a (some (.inl (kd, n, .inr (.inr (.inr (.inr (va_up f k v)))))))) := by
  simp [hsR, hAR_at e, hIn_nI hk hn, nI_clamp (show k < 2 ^ 31 by omega)]
theorem haL_at {h : hH} {a kd n : Nat} {z : (Nat → Int32) ⊕ ((Nat → Int64) ⊕ _)} (e : h a = some (.inl (kd, n, z))) : haL h a kd = some (nI n) := by
  simp [haL, e]
/-- a loop, by an invariant with a number that falls -/
theorem hloopR_rule {α β : Type} {body : α → Option (α ⊕ β)} (I : Nat → α → Prop) (P : β → Prop) (step : ∀ k x, I k x → (∃ y k', body x = some (.inl y) ∧ k' < k ∧ I k' y) ∨ ∃ b, body x = some (.inr b) ∧ P b) : ∀ n k x, k < n → I k x → ∃ b, hloopR body n x = some b ∧ P b
  | 0, _, _, hk, _ => absurd hk (Nat.not_lt_zero _)
  | n + 1, k, x, hk, hI => by
    rcases step k x hI with ⟨y, k', hb, hlt, hI'⟩ | ⟨b, hb, hP⟩
    · obtain ⟨b, h1, h2⟩ := hloopR_rule I P step n k' y (by omega) hI'
      exact ⟨b, by simp [hloopR, hb, h1], h2⟩
    · exact ⟨b, by simp [hloopR, hb], hP⟩
theorem hloopW_rule {α β : Type} {body : α → hH → Option ((α ⊕ β) × hH)} (I : Nat → α → hH → Prop) (P : β → hH → Prop) (step : ∀ k x h, I k x h → (∃ y k' h1, body x h = some (.inl y, h1) ∧ k' < k ∧ I k' y h1) ∨ ∃ b h1, body x h = some (.inr b, h1) ∧ P b h1) : ∀ n k x h, k < n → I k x h → ∃ b h1, hloopW body n x h = some (b, h1) ∧ P b h1
  | 0, _, _, _, hk, _ => absurd hk (Nat.not_lt_zero _)
  | n + 1, k, x, h, hk, hI => by
    rcases step k x h hI with ⟨y, k', h1, hb, hlt, hI'⟩ | ⟨b, h1, hb, hP⟩
    · obtain ⟨b, h2, e1, e2⟩ := hloopW_rule I P step n k' y h1 (by omega) hI'
      exact ⟨b, h2, by simp [hloopW, hbW, hb, e1], e2⟩
    · exact ⟨b, h1, by simp [hloopW, hbW, hb], hP⟩
theorem hloopA_rule {α β : Type} {body : α → Nat → hH → hR (α ⊕ β)} (I : Nat → α → Nat → Nat → hH → Prop) (P : β → Nat → Nat → hH → Prop) (step : ∀ k x nx sl h, I k x nx sl h → (∃ y k' d e h1, body x nx h = some (.inl y, d, e, h1) ∧ k' < k ∧ I k' y (nx + d) (sl + e) h1) ∨ ∃ b d e h1, body x nx h = some (.inr b, d, e, h1) ∧ P b (nx + d) (sl + e) h1) : ∀ n k x nx sl h, k < n → I k x nx sl h → ∃ b d e h1, hloopA body n x nx h = some (b, d, e, h1) ∧ P b (nx + d) (sl + e) h1
  | 0, _, _, _, _, _, hk, _ => absurd hk (Nat.not_lt_zero _)
  | n + 1, k, x, nx, sl, h, hk, hI => by
    rcases step k x nx sl h hI with ⟨y, k', d, e, h1, hb, hlt, hI'⟩ | ⟨b, d, e, h1, hb, hP⟩
    · obtain ⟨b, d2, e2, h2, q1, q2⟩ := hloopA_rule I P step n k' y (nx + d) (sl + e) h1 (by omega) hI'
      refine ⟨b, d + d2, e + e2, h2, by simp [hloopA, hbind, hb, q1], ?_⟩
      rw [← Nat.add_assoc, ← Nat.add_assoc]
      exact q2
    · exact ⟨b, d, e, h1, by simp [hloopA, hbind, hb], hP⟩
