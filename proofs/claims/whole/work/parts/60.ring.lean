/-! THE REFERENCE'S RING -/
theorem gloopR_rule {α β : Type} {body : α → Option (α ⊕ β)} (I : Nat → α → Prop) (P : β → Prop) (step : ∀ k x, I k x → (∃ y k', body x = some (.inl y) ∧ k' < k ∧ I k' y) ∨ ∃ b, body x = some (.inr b) ∧ P b) : ∀ n k x, k < n → I k x → ∃ b, gloopR body n x = some b ∧ P b
  | 0, _, _, hk, _ => absurd hk (Nat.not_lt_zero _)
  | n + 1, k, x, hk, hI => by
    rcases step k x hI with ⟨y, k', hb, hlt, hI'⟩ | ⟨b, hb, hP⟩
    · obtain ⟨b, h1, h2⟩ := gloopR_rule I P step n k' y (by omega) hI'
      exact ⟨b, by simp [gloopR, hb, h1], h2⟩
    · exact ⟨b, by simp [gloopR, hb], hP⟩
theorem gloopW_rule {α β σ : Type} {body : α → σ → Option ((α ⊕ β) × σ)} (I : Nat → α → σ → Prop) (P : β → σ → Prop) (step : ∀ k x s, I k x s → (∃ y k' s1, body x s = some (.inl y, s1) ∧ k' < k ∧ I k' y s1) ∨ ∃ b s1, body x s = some (.inr b, s1) ∧ P b s1) : ∀ n k x s, k < n → I k x s → ∃ b s1, gloopW body n x s = some (b, s1) ∧ P b s1
  | 0, _, _, _, hk, _ => absurd hk (Nat.not_lt_zero _)
  | n + 1, k, x, s, hk, hI => by
    rcases step k x s hI with ⟨y, k', s1, hb, hlt, hI'⟩ | ⟨b, s1, hb, hP⟩
    · obtain ⟨b, s2, e1, e2⟩ := gloopW_rule I P step n k' y s1 (by omega) hI'
      exact ⟨b, s2, by simp [gloopW, gbW, hb, e1], e2⟩
    · exact ⟨b, s1, by simp [gloopW, gbW, hb], hP⟩
theorem nI_mask {a : Nat} (h : a < 2 ^ 31) : nI a &&& 4095 = nI (a % 4096) := by
  apply Int32.toInt_inj.mp
  rw [Jvm.Kit.i32_mask (nI a) 4095 (k := 12) (by decide) (by decide), nI_toInt h, nI_toInt (by omega)]
  show (a : Int) % 4096 = _
  omega
theorem nI_maskS {a b : Nat} (ha : a < 4096) (hb : b ≤ 4096) : (nI a - nI b) &&& 4095 = nI ((a + 4096 - b) % 4096) := by
  apply Int32.toInt_inj.mp
  rw [Jvm.Kit.i32_mask (nI a - nI b) 4095 (k := 12) (by decide) (by decide), pk_sub_toInt (by omega) (by omega), nI_toInt (by omega)]
  show ((a : Int) - b) % 4096 = _
  omega
theorem rget_at {st : rS} {j n k : Nat} (hk : k < n) (hn : n < 2 ^ 31) : rget st j n (nI k) = some (st.2 j k) := by
  simp [rget, hIn_nI hk hn, nI_clamp (show k < 2 ^ 31 by omega)]
theorem rset_at {st : rS} {j n k : Nat} {v : Int32} (hk : k < n) (hn : n < 2 ^ 31) : rset st j n (nI k) v = some (st.1, fun q => if q = j then upd (st.2 j) k v else st.2 q) := by
  simp [rset, hIn_nI hk hn, nI_clamp (show k < 2 ^ 31 by omega)]
theorem upd_same {f : Nat → Int32} {k : Nat} {v : Int32} : upd f k v k = v := by simp [upd]
theorem upd_other {f : Nat → Int32} {k q : Nat} {v : Int32} (h : q ≠ k) : upd f k v q = f q := by simp [upd, h]
theorem g_get_at {st : rS} {hd k : Nat} (h2 : st.1 2 = nI hd) (hb : hd + k < 2 ^ 31) : g_get (nI k) st = some (st.2 0 ((hd + k) % 4096)) := by
  unfold g_get
  simp only [h2, nI_add, nI_mask hb]
  rw [rget_at (Nat.mod_lt _ (by decide)) (by decide)]
  rfl
theorem g_set_at {st : rS} {hd k : Nat} {v : Int32} (h2 : st.1 2 = nI hd) (hb : hd + k < 2 ^ 31) : g_set (nI k) v st = some ((), (st.1, fun q => if q = 0 then upd (st.2 0) ((hd + k) % 4096) v else st.2 q)) := by
  unfold g_set
  simp only [h2, nI_add, nI_mask hb]
  rw [rset_at (Nat.mod_lt _ (by decide)) (by decide)]
  rfl
theorem g_mark_at {st : rS} {c : Int32} : g_mark c st = some ((), rput st 21 (if st.1 21 = 0 then c else st.1 21)) := by
  unfold g_mark g_mark_j16
  split
  · rename_i h
    rw [if_pos h]
  · rename_i h
    rw [if_neg h]
theorem g_take_at {n : Nat} {st : rS} {hd at_ many : Nat} (h2 : st.1 2 = nI hd) (hd1 : hd < 4096) (hs : at_ + many ≤ 3200) (hn : at_ + 1 < n) :
    ∃ st' : rS, g_take n (nI at_) (nI many) st = some ((), st') ∧ st'.1 2 = nI ((hd + many) % 4096) ∧ st'.1 3 = st.1 3 - nI many ∧ (∀ k, k ≠ 2 → k ≠ 3 → st'.1 k = st.1 k) ∧ (∀ j, j ≠ 0 → st'.2 j = st.2 j) ∧ (∀ j, j < at_ → st'.2 0 ((hd + many + j) % 4096) = st.2 0 ((hd + j) % 4096)) ∧ ∀ j, at_ + many ≤ j → j < 4096 → st'.2 0 ((hd + j) % 4096) = st.2 0 ((hd + j) % 4096) := by
  obtain ⟨b, s1, e1, e2, e3, e4, e5⟩ := gloopW_rule (body := g_take_b4 n (nI many)) (fun k x s => x = nI k - 1 ∧ k ≤ at_ ∧ s.1 = st.1 ∧ (∀ j, j ≠ 0 → s.2 j = st.2 j) ∧ (∀ j, j < k → s.2 0 ((hd + j) % 4096) = st.2 0 ((hd + j) % 4096)) ∧ (∀ j, k ≤ j → j < at_ → s.2 0 ((hd + many + j) % 4096) = st.2 0 ((hd + j) % 4096)) ∧ ∀ j, at_ + many ≤ j → j < 4096 → s.2 0 ((hd + j) % 4096) = st.2 0 ((hd + j) % 4096))
    (fun _ s => s.1 = st.1 ∧ (∀ j, j ≠ 0 → s.2 j = st.2 j) ∧ (∀ j, j < at_ → s.2 0 ((hd + many + j) % 4096) = st.2 0 ((hd + j) % 4096)) ∧ ∀ j, at_ + many ≤ j → j < 4096 → s.2 0 ((hd + j) % 4096) = st.2 0 ((hd + j) % 4096))
    (by
      rintro k x s ⟨rfl, hk, i1, i2, i3, i4, i5⟩
      cases k with
      | zero =>
        refine Or.inr ⟨(), s, ?_, i1, i2, fun j hj => i4 j (Nat.zero_le _) hj, i5⟩
        unfold g_take_b4
        dsimp only
        rw [if_pos (by decide +kernel)]
      | succ k =>
        have h2' : s.1 2 = nI hd := by rw [i1]; exact h2
        refine Or.inl ⟨nI k - 1, k, (s.1, fun q => if q = 0 then upd (s.2 0) ((hd + k + many) % 4096) (s.2 0 ((hd + k) % 4096)) else s.2 q), ?_, by omega, rfl, by omega, i1, fun j hj => ?_, fun j hj => ?_, fun j hj1 hj2 => ?_, fun j hj1 hj2 => ?_⟩
        · unfold g_take_b4
          dsimp only
          rw [nI_pred, if_neg (nI_pos (by omega)), g_get_at h2' (by omega)]
          show Option.bind (rset s 0 4096 _ _) _ = _
          rw [h2', nI_add, nI_add, nI_mask (by omega), rset_at (Nat.mod_lt _ (by decide)) (by decide)]
          show some (Sum.inl (nI k + (-1)), _) = _
          rw [show nI k + (-1) = nI k - 1 by rw [Int32.sub_eq_add_neg]]
        · show (if j = 0 then _ else s.2 j) = _
          rw [if_neg hj]
          exact i2 j hj
        · show (if (0 : Nat) = 0 then upd (s.2 0) _ _ else s.2 0) _ = _
          rw [if_pos rfl, upd_other (by omega)]
          exact i3 j (by omega)
        · show (if (0 : Nat) = 0 then upd (s.2 0) _ _ else s.2 0) _ = _
          rw [if_pos rfl]
          by_cases hjk : j = k
          · subst hjk
            rw [show hd + many + j = hd + j + many by omega, upd_same]
            exact i3 j (by omega)
          · rw [upd_other (by omega)]
            exact i4 j (by omega) hj2
        · show (if (0 : Nat) = 0 then upd (s.2 0) _ _ else s.2 0) _ = _
          rw [if_pos rfl, upd_other (by omega)]
          exact i5 j hj1 hj2) n at_ (nI at_ - 1) st (by omega) ⟨rfl, Nat.le_refl _, rfl, fun _ _ => rfl, fun _ _ => rfl, fun j h1 h2 => absurd h2 (by omega), fun _ _ _ => rfl⟩
  unfold g_take
  rw [e1]
  refine ⟨rput (rput s1 2 ((s1.1 2 + nI many) &&& 4095)) 3 (s1.1 3 - nI many), rfl, ?_, ?_, fun k hk1 hk2 => ?_, e3, e4, e5⟩
  · show upd (upd s1.1 2 ((s1.1 2 + nI many) &&& 4095)) 3 (s1.1 3 - nI many) 2 = _
    rw [upd_other (by decide), upd_same, e2, h2, nI_add, nI_mask (by omega)]
  · show upd (upd s1.1 2 ((s1.1 2 + nI many) &&& 4095)) 3 (s1.1 3 - nI many) 3 = _
    rw [upd_same, e2]
  · show upd (upd s1.1 2 ((s1.1 2 + nI many) &&& 4095)) 3 (s1.1 3 - nI many) k = _
    rw [upd_other hk2, upd_other hk1, e2]
theorem g_spread_at {n : Nat} {st : rS} {hd at_ many : Nat} (h2 : st.1 2 = nI hd) (hd1 : hd < 4096) (hs : at_ + many ≤ 3200) (hn : at_ + 1 < n) :
    ∃ st' : rS, g_spread n (nI at_) (nI many) st = some ((), st') ∧ st'.1 2 = nI ((hd + 4096 - many) % 4096) ∧ st'.1 3 = st.1 3 + nI many ∧ (∀ k, k ≠ 2 → k ≠ 3 → st'.1 k = st.1 k) ∧ (∀ j, j ≠ 0 → st'.2 j = st.2 j) ∧ (∀ j, j < at_ → st'.2 0 ((hd + 4096 - many + j) % 4096) = st.2 0 ((hd + j) % 4096)) ∧ ∀ j, at_ ≤ j → j + many < 4096 → st'.2 0 ((hd + j) % 4096) = st.2 0 ((hd + j) % 4096) := by
  obtain ⟨b, s1, e1, e2, e3, e4, e5⟩ := gloopW_rule (body := g_spread_b26 n (nI at_) (nI many)) (fun k x s => ∃ i, k = at_ - i ∧ i ≤ at_ ∧ x = nI i ∧ s.1 = upd (upd st.1 2 (nI ((hd + 4096 - many) % 4096))) 3 (st.1 3 + nI many) ∧ (∀ j, j ≠ 0 → s.2 j = st.2 j) ∧ (∀ j, j < i → s.2 0 ((hd + 4096 - many + j) % 4096) = st.2 0 ((hd + j) % 4096)) ∧ ∀ j, i ≤ j → j + many < 4096 → s.2 0 ((hd + j) % 4096) = st.2 0 ((hd + j) % 4096))
    (fun _ s => s.1 = upd (upd st.1 2 (nI ((hd + 4096 - many) % 4096))) 3 (st.1 3 + nI many) ∧ (∀ j, j ≠ 0 → s.2 j = st.2 j) ∧ (∀ j, j < at_ → s.2 0 ((hd + 4096 - many + j) % 4096) = st.2 0 ((hd + j) % 4096)) ∧ ∀ j, at_ ≤ j → j + many < 4096 → s.2 0 ((hd + j) % 4096) = st.2 0 ((hd + j) % 4096))
    (by
      rintro k x s ⟨i, rfl, hi, rfl, i1, i2, i3, i4⟩
      have h2' : s.1 2 = nI ((hd + 4096 - many) % 4096) := by rw [i1, upd_other (by decide), upd_same]
      by_cases hia : i = at_
      · subst hia
        refine Or.inr ⟨(), s, ?_, i1, i2, i3, i4⟩
        unfold g_spread_b26
        dsimp only
        rw [if_pos (nI_le (Nat.le_refl _) (by omega))]
      · refine Or.inl ⟨nI (i + 1), at_ - (i + 1), (s.1, fun q => if q = 0 then upd (s.2 0) (((hd + 4096 - many) % 4096 + i) % 4096) (s.2 0 (((hd + 4096 - many) % 4096 + (i + many)) % 4096)) else s.2 q), ?_, by omega, i + 1, rfl, by omega, rfl, i1, fun j hj => ?_, fun j hj => ?_, fun j hj1 hj2 => ?_⟩
        · unfold g_spread_b26
          dsimp only
          rw [if_neg (nI_ge (by omega) (by omega)), nI_add, g_get_at h2' (by omega)]
          show Option.bind (rset s 0 4096 _ _) _ = _
          rw [h2', nI_add, nI_mask (by omega), rset_at (Nat.mod_lt _ (by decide)) (by decide)]
          show some (Sum.inl (nI i + 1), _) = _
          rw [nI_1]
        · show (if j = 0 then _ else s.2 j) = _
          rw [if_neg hj]
          exact i2 j hj
        · show (if (0 : Nat) = 0 then upd (s.2 0) _ _ else s.2 0) _ = _
          rw [if_pos rfl]
          by_cases hji : j = i
          · subst hji
            rw [show (hd + 4096 - many + j) % 4096 = ((hd + 4096 - many) % 4096 + j) % 4096 by omega, upd_same, show ((hd + 4096 - many) % 4096 + (j + many)) % 4096 = (hd + j) % 4096 by omega]
            exact i4 j (Nat.le_refl _) (by omega)
          · rw [upd_other (by omega)]
            exact i3 j (by omega)
        · show (if (0 : Nat) = 0 then upd (s.2 0) _ _ else s.2 0) _ = _
          by_cases hm : many = 0
          · subst hm
            rw [if_pos rfl, upd_other (by omega)]
            exact i4 j (by omega) hj2
          · rw [if_pos rfl, upd_other (by omega)]
            exact i4 j (by omega) hj2) n at_ (nI 0) (rput (rput st 2 ((st.1 2 - nI many) &&& 4095)) 3 (st.1 3 + nI many)) (by omega) ⟨0, rfl, Nat.zero_le _, rfl, by
        show upd (upd st.1 2 ((st.1 2 - nI many) &&& 4095)) 3 (st.1 3 + nI many) = _
        rw [h2, nI_maskS hd1 (by omega)], fun _ _ => rfl, fun j hj => absurd hj (by omega), fun _ _ _ => rfl⟩
  refine ⟨s1, ?_, ?_, ?_, fun k hk1 hk2 => ?_, e3, e4, e5⟩
  · unfold g_spread
    dsimp only
    have e0 : gloopW (g_spread_b26 n (nI at_) (nI many)) n 0 (rput (rput st 2 ((st.1 2 - nI many) &&& 4095)) 3 ((rput st 2 ((st.1 2 - nI many) &&& 4095)).1 3 + nI many)) = some (b, s1) := e1
    rw [e0]
    rfl
  · rw [e2, upd_other (by decide), upd_same]
  · rw [e2, upd_same]
  · rw [e2, upd_other hk2, upd_other hk1]
