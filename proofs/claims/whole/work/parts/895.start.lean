/-! THE REFERENCE'S START IS THE MACHINE'S FIRST TURNS -/
theorem rXf.k {st st' : rS} (h : rXf st st') : rK st st' := ⟨fun k hk => h.1 k (by omega) (by omega) (by omega) (by omega) (by omega), fun j h1 h2 => h.2 j (by omega) (by omega) (by omega) (by omega)⟩
theorem rK_put (st : rS) (k : Nat) (v : Int32) (hk : k ≠ 0 ∧ k ≠ 4 ∧ k ≠ 6 ∧ k ≠ 14 ∧ k ≠ 16 ∧ k ≠ 32 ∧ k ≠ 33) : rK st (rput st k v) := ⟨fun j hj => (by simp only [aPi, aPl, aPt, rput, va_up, upd] <;> (repeat rw [if_neg (by omega)])), fun _ _ _ => rfl⟩
theorem rK_ring {st st' : rS} (h1 : ∀ k, k ≠ 2 → k ≠ 3 → st'.1 k = st.1 k) (h2 : ∀ j, j ≠ 0 → st'.2 j = st.2 j) : rK st st' := ⟨fun k hk => h1 k (by omega) (by omega), fun j hj _ => h2 j (by omega)⟩
theorem g_pile_at {st : rS} {d : Nat} {kd p : Int32} (h28 : st.1 28 = nI d) (hd : d ≤ 50) : ∃ st' : rS, g_pile kd p st = some ((), st') ∧ st'.1 28 = nI (d + 1) ∧ (∀ k, k ≠ 28 → st'.1 k = st.1 k) ∧ st'.2 16 = upd (st.2 16) d kd ∧ st'.2 17 = upd (st.2 17) d p ∧ st'.2 18 = upd (st.2 18) d 0 ∧ ∀ j, j ≠ 16 → j ≠ 17 → j ≠ 18 → st'.2 j = st.2 j := by
  unfold g_pile
  dsimp only
  rw [h28, rset_at (by omega) (by decide), Option.bind_some]
  dsimp only
  rw [h28, rset_at (by omega) (by decide), Option.bind_some]
  dsimp only
  rw [h28, rset_at (by omega) (by decide), Option.bind_some]
  dsimp only
  refine ⟨_, rfl, ?_, fun k hk => (by simp only [aPi, aPl, aPt, rput, va_up, upd] <;> (repeat rw [if_neg (by omega)])), ?_, ?_, ?_, fun j h1 h2 h3 => ?_⟩
  · show upd st.1 28 (st.1 28 + 1) 28 = _
    rw [upd_same, h28, nI_1]
  · simp [rput]
  · simp [rput]
  · simp [rput]
  · simp [rput, h1, h2, h3]
theorem eLoop_bad {N : Nat} {r res : Int32 × aS} (h : r.1 ≠ 0) (hL : eLoop N r = some res) : res = r := by
  cases N with
  | zero => simp [eLoop] at hL
  | succ N =>
    simp only [eLoop] at hL
    rw [if_neg h] at hL
    exact (Option.some.inj hL).symm
theorem eLoop_c {N : Nat} {c : Int32} {A : aS} {res : Int32 × aS} (hL : eLoop N (c, A) = some res) (hc : c ≠ 0) : res = (c, A) := eLoop_bad hc hL
/-- the definition's arrays are as they were -/
def F19 (st st' : rS) : Prop := ∀ j, 19 ≤ j → st'.2 j = st.2 j
theorem F19.tr {a b c : rS} (h : F19 a b) (g : F19 b c) : F19 a c := fun j hj => (g j hj).trans (h j hj)
theorem F19.rf (a : rS) : F19 a a := fun _ _ => rfl
def sOut (N : Nat) (res : Int32 × aS) (b : (Unit) ⊕ (Unit) ⊕ (Unit) ⊕ (Unit) ⊕ (Unit) ⊕ (Unit)) (st' : rS) : Prop := (b = .inr (.inr (.inr (.inr (.inr ())))) ∧ ((st'.1 21 = 0 ∧ ∃ A' N', N' ≤ N ∧ RQ st' A' ∧ aInv A' ∧ A'.1 4 = 0 ∧ eLoop N' (0, A') = some res) ∨ (st'.1 21 = res.1 ∧ res.1 ≠ 0 ∧ RX st' res.2))) ∨ (st'.1 21 = 0 ∧ RX st' res.2 ∧ ((b = .inl () ∧ res.1 = 5) ∨ (b = .inr (.inl ()) ∧ res.1 = 1) ∨ (b = .inr (.inr (.inl ())) ∧ res.1 = 1) ∨ (b = .inr (.inr (.inr (.inl ()))) ∧ res.1 = 8) ∨ (b = .inr (.inr (.inr (.inr (.inl ())))) ∧ res.1 = 8)))
theorem g_start_stop {n n' : Nat} {x2 : Int32} {st : rS} (hn : 0 < n') : gloopW (g_start_b4 n) n' (x2, 0) st = some (.inr (.inr (.inr (.inr (.inr ())))), st) := by
  obtain ⟨m, rfl⟩ : ∃ m, n' = m + 1 := ⟨n' - 1, by omega⟩
  have : g_start_b4 n (x2, 0) st = some (.inr (.inr (.inr (.inr (.inr (.inr ()))))), st) := by
    unfold g_start_b4
    dsimp only
    rw [if_pos rfl]
  simp [gloopW, gbW, this]
theorem rputZ_at {st : rS} {k : Nat} {v : Int32} (hv : v = 0 ∨ v = 1) : rputZ st k v = some (rput st k v) := if_pos hv
/-- a frame more, in the reference -/
theorem RFr.push {st st' : rS} {A : aS} (B : aS) {a : Int32} (h : RFr st A) (h50 : (A.2.1 8).length < 50) (h8 : B.2.1 8 = A.2.1 8 ++ [a]) (hs : ∀ j, 200 ≤ j → j < 200 + (A.2.1 8).length → B.2.1 j = A.2.1 j) (hm : a = -1 → B.2.1 (200 + (A.2.1 8).length) = []) (h28 : st'.1 28 = nI ((A.2.1 8).length + 1)) (h16 : st'.2 16 = upd (st.2 16) (A.2.1 8).length (if a = -1 then 262 else 261)) (h17 : st'.2 17 = upd (st.2 17) (A.2.1 8).length (nI (pas (A.2.1 8)).length)) (h18 : st'.2 18 = upd (st.2 18) (A.2.1 8).length 0) (h15 : st'.2 15 = st.2 15) (hV : RV st' (pas (B.2.1 8) ++ B.2.1 0)) : RFr st' B := by
  obtain ⟨q1, q2, q3, q4⟩ := h
  have hlen : (B.2.1 8).length = (A.2.1 8).length + 1 := by
    rw [h8, List.length_append]
    rfl
  refine ⟨by rw [hlen]; exact h28, by omega, hV, fun i t hi => ?_⟩
  rw [h8] at hi
  by_cases hil : i < (A.2.1 8).length
  · rw [List.getElem?_append_left hil] at hi
    obtain ⟨w1, w2⟩ := q4 i t hi
    rw [h16, h17, h18, h15, upd_other (by omega), upd_other (by omega), upd_other (by omega), hs (200 + i) (by omega) (by omega), h8, List.take_append_of_le_length (by omega)]
    exact ⟨w1, w2⟩
  · rw [List.getElem?_append_right (by omega)] at hi
    have hil2 := (List.getElem?_eq_some_iff.mp hi).1
    have hi0 : i = (A.2.1 8).length := by
      simp at hil2
      omega
    have hu := List.mem_singleton.mp (List.mem_of_getElem? hi)
    subst hu
    rw [hi0, h16, h17, h18, upd_same, upd_same, upd_same, h8, List.take_left]
    refine ⟨rfl, fun q => ?_⟩
    rw [hm q]
    exact ⟨rfl, rfl, by decide, fun j u hj => by simp at hj⟩
theorem RFr.to {st st' : rS} {A : aS} (B : aS) (h : RFr st A) (h8 : B.2.1 8 = A.2.1 8) (hs : ∀ j, 200 ≤ j → j < 250 → B.2.1 j = A.2.1 j) (h28 : st'.1 28 = st.1 28) (hj : ∀ j, 15 ≤ j → j ≤ 18 → st'.2 j = st.2 j) (hV : RV st' (pas (A.2.1 8) ++ B.2.1 0)) : RFr st' B := by
  obtain ⟨q1, q2, q3, q4⟩ := h
  refine ⟨by rw [h28, h8]; exact q1, by rw [h8]; exact q2, by rw [h8]; exact hV, fun i t hi => ?_⟩
  rw [h8] at hi
  have hil := (List.getElem?_eq_some_iff.mp hi).1
  rw [hj 16 (by omega) (by omega), hj 17 (by omega) (by omega), hj 18 (by omega) (by omega), hj 15 (by omega) (by omega), hs (200 + i) (by omega) (by omega), h8]
  exact q4 i t hi
theorem RX.pi {st : rS} {A : aS} (k : Nat) (v : Int32) (h : RX st A) (hk : k ≠ 0 ∧ k ≠ 1 ∧ k ≠ 2 ∧ k ≠ 8 ∧ k ≠ 9 ∧ k ≠ 15 ∧ k ≠ 16) : RX st (aPi A k v) := h.to _ (rK.rf _) (by rw [h.2.1]; exact Eq.symm (by simp only [aPi, aPl, aPt, rput, va_up, upd] <;> (repeat rw [if_neg (by omega)]))) (by rw [h.2.2.1]; exact Eq.symm (by simp only [aPi, aPl, aPt, rput, va_up, upd] <;> (repeat rw [if_neg (by omega)]))) h.2.2.2.1 (fun j hj => (by simp only [aPi, aPl, aPt, rput, va_up, upd] <;> (repeat rw [if_neg (by omega)]))) (fun _ _ => rfl) rfl
theorem RX.pl {st : rS} {A : aS} (k : Nat) (v : List Int32) (h : RX st A) (hk : k = 0 ∨ (4 ≤ k ∧ k < 100) ∨ (200 ≤ k ∧ k < 1000)) : RX st (aPl A k v) := h.to _ (rK.rf _) h.2.1 h.2.2.1 h.2.2.2.1 (fun _ _ => rfl) (fun j hj => (by simp only [aPi, aPl, aPt, rput, va_up, upd] <;> (repeat rw [if_neg (by omega)]))) rfl
theorem RX.k {st st' : rS} {A : aS} (h : RX st A) (hk : rK st st') (h23 : st'.1 23 = st.1 23) (h22 : st'.1 22 = st.1 22) (h25 : st'.1 25 = st.1 25) (h14 : st'.2 14 = st.2 14) : RX st' A := h.to A hk (h23.trans h.2.1) (h22.trans h.2.2.1) (h.2.2.2.1.same h25 h14) (fun _ _ => rfl) (fun _ _ => rfl) rfl
theorem can_cons {A : aS} (h : aCan A = true) : A.1 3 = 0 ∧ ∃ t ts, A.2.1 0 = t :: ts ∧ aHas A t = true := by
  unfold aCan at h
  rw [Bool.and_eq_true, decide_eq_true_eq] at h
  refine ⟨h.1, ?_⟩
  have h2 := h.2
  cases hx : A.2.1 0 with
  | nil =>
    rw [hx] at h2
    cases h2
  | cons t ts =>
    rw [hx] at h2
    exact ⟨t, ts, rfl, h2⟩
theorem g_start_loop {n : Nat} (hn : 7000 < n) {res : Int32 × aS} : ∀ (N n' : Nat) (st : rS) (B : aS), RQ st B → aInv B → aCan B = true → B.1 4 = 0 → N + 2 ≤ n' → eLoop N (eFirst B) = some res → ∃ b st', gloopW (g_start_b4 n) n' (nI (pas (B.2.1 8)).length, 1) st = some (b, st') ∧ sOut N res b st' ∧ F19 st st' := by
  intro N
  induction N using Nat.strongRecOn with
  | ind N ih =>
  intro n' st B hQ hi hcan h4 hn' hL
  obtain ⟨h3, t, ts, hx, hhas⟩ := can_cons hcan
  obtain ⟨m, rfl⟩ : ∃ m, n' = m + 1 := ⟨n' - 1, by omega⟩
  have hQ0 := hQ
  obtain ⟨hX, hF, h24, h21⟩ := hQ
  obtain ⟨hN, ⟨G, s, hG, hs, hsG, hG2⟩, hp, hl, hb, h50, hf, hc⟩ := id hi
  have h100 := hN.1
  have hXM := hX.2.2.2.2.1
  have hV := hF.2.2.1
  rw [hx] at hV
  have hVle := hV.le
  simp only [List.length_append, List.length_cons] at hVle
  have hPl : (pas (B.2.1 8)).length ≤ 50 := Nat.le_trans (List.length_filter_le _ _) h50
  generalize hP : (pas (B.2.1 8)).length = P at hVle hPl ⊢
  have hget : (pas (B.2.1 8) ++ t :: ts)[P]? = some t := by
    rw [List.getElem?_append_right (by omega), hP, Nat.sub_self]
    rfl
  by_cases heq : B.1 1 = B.1 0
  · have hE : eFirst B = (5, B) := by
      unfold eFirst
      rw [if_pos heq]
    rw [hE] at hL
    have hr := eLoop_c hL (by decide)
    subst hr
    refine ⟨.inl (), st, ?_, Or.inr ⟨h21, hX, Or.inl ⟨rfl, rfl⟩⟩, F19.rf st⟩
    have hbd : g_start_b4 n (nI P, 1) st = some (.inr (.inl ()), st) := by
      unfold g_start_b4
      dsimp only
      rw [if_neg (by decide), if_pos h21, hX.2.1, hX.1, if_pos heq]
    simp [gloopW, gbW, hbd]
  · -- the state with a step more
    have hXC : RX (rput st 23 (st.1 23 + 1)) (aPl (aPi B 1 (B.1 1 + 1)) 0 ts) := hX.to _ (rK_put st 23 _ (by decide)) (by
        show upd st.1 23 (st.1 23 + 1) 23 = B.1 1 + 1
        rw [upd_same, hX.2.1]) (Eq.trans (by simp only [aPi, aPl, aPt, rput, va_up, upd] <;> (repeat rw [if_neg (by omega)])) hX.2.2.1) (hX.2.2.2.1.same ((by simp only [aPi, aPl, aPt, rput, va_up, upd] <;> (repeat rw [if_neg (by omega)]))) rfl) (fun j hj => (by simp only [aPi, aPl, aPt, rput, va_up, upd] <;> (repeat rw [if_neg (by omega)]))) (fun j hj => (by simp only [aPi, aPl, aPt, rput, va_up, upd] <;> (repeat rw [if_neg (by omega)]))) rfl
    have hV1 : RV (rput st 23 (st.1 23 + 1)) (pas (B.2.1 8) ++ t :: ts) := hV.same ((by simp only [aPi, aPl, aPt, rput, va_up, upd] <;> (repeat rw [if_neg (by omega)]))) ((by simp only [aPi, aPl, aPt, rput, va_up, upd] <;> (repeat rw [if_neg (by omega)]))) rfl
    have h211 : (rput st 23 (st.1 23 + 1)).1 21 = 0 := Eq.trans (by simp only [aPi, aPl, aPt, rput, va_up, upd] <;> (repeat rw [if_neg (by omega)])) h21
    have h281 : (rput st 23 (st.1 23 + 1)).1 28 = nI (B.2.1 8).length := Eq.trans (by simp only [aPi, aPl, aPt, rput, va_up, upd] <;> (repeat rw [if_neg (by omega)])) hF.1
    have hE : eFirst B = eTokB (aPl (aPi B 1 (B.1 1 + 1)) 0 ts) t := by
      unfold eFirst eTok
      rw [if_neg heq, show (aPi B 1 (B.1 1 + 1)).2.1 0 = t :: ts from hx]
    have hpt : aPos ts := fun u hu => hp u (by rw [hx]; exact List.mem_cons_of_mem _ hu)
    have hFC : ∀ st' : rS, st'.1 28 = st.1 28 → (∀ j, 15 ≤ j → j ≤ 18 → st'.2 j = st.2 j) → ∀ (D : aS), D.2.1 8 = B.2.1 8 → (∀ j, 200 ≤ j → j < 250 → D.2.1 j = B.2.1 j) → RV st' (pas (B.2.1 8) ++ D.2.1 0) → RFr st' D := fun st' q1 q2 D q3 q4 q5 => hF.to D q3 q4 q1 q2 q5
    have hinv : (eFirst B).1 = 0 → aInv (eFirst B).2 := fun q => (eFirst_inv hi q).1
    have hbd0 : g_start_b4 n (nI P, 1) st = if t = 260 then (if nI P + 1 < nI (P + 1 + ts.length) then gbW (g_take n (nI P) 1 (rput st 23 (st.1 23 + 1))) fun _ h78 => (rputZ h78 24 1).bind fun h83 => g_start_j222 n (nI P) 0 h83 else some (.inr (.inr (.inl ())), rput st 23 (st.1 23 + 1))) else if t = 261 then (if nI P + 2 < nI (P + 1 + ts.length) then (if nI (B.2.1 8).length < 50 then gbW (g_take n (nI P) 1 (rput st 23 (st.1 23 + 1))) fun _ h132 => (rputZ h132 24 0).bind fun h137 => (g_canBeExpanded (nI P + 1) h137).bind fun v144 => if v144 = 0 then g_start_j222 n (nI P) v144 h137 else gbW (g_pile 261 (nI P) h137) fun _ h157 => g_start_j222 n (nI P + 1) v144 h157 else some (.inr (.inr (.inr (.inr (.inl ())))), rput st 23 (st.1 23 + 1))) else some (.inr (.inr (.inr (.inl ()))), rput st 23 (st.1 23 + 1))) else if t = 262 then (if nI (B.2.1 8).length < 50 then gbW (g_take n (nI P) 1 (rput st 23 (st.1 23 + 1))) fun _ h193 => (rputZ h193 24 0).bind fun h198 => gbW (g_pile 262 (nI P) h198) fun _ h206 => g_start_j222 n (nI P) 0 h206 else some (.inr (.inr (.inr (.inr (.inr (.inl ()))))), rput st 23 (st.1 23 + 1))) else gbW (g_expandName n (nI P) (rput st 23 (st.1 23 + 1))) fun _ h214 => (rputZ h214 24 0).bind fun h219 => g_start_j222 n (nI P) 0 h219 := by
      unfold g_start_b4
      dsimp only
      rw [if_neg (by decide), if_pos h21, if_neg (by rw [hX.2.1, hX.1]; exact heq), hV1.get hget, Option.bind_some, hV1.size, h281]
      simp only [List.length_append, List.length_cons]
      rw [hP, show P + (ts.length + 1) = P + 1 + ts.length by omega]
    have hloop : ∀ (y : Int32) (s' : rS), g_start_b4 n (nI P, 1) st = some (.inl (y, 0), s') → gloopW (g_start_b4 n) (m + 1) (nI P, 1) st = some (.inr (.inr (.inr (.inr (.inr ())))), s') := fun y s' hq => by
      have := g_start_stop (n := n) (n' := m) (x2 := y) (st := s') (by omega)
      simp [gloopW, gbW, hq, this]
    have hexit : ∀ (b : (Unit) ⊕ (Unit) ⊕ (Unit) ⊕ (Unit) ⊕ (Unit) ⊕ (Unit)) (s' : rS), g_start_b4 n (nI P, 1) st = some (.inr b, s') → gloopW (g_start_b4 n) (m + 1) (nI P, 1) st = some (b, s') := fun b s' hq => by
      simp [gloopW, gbW, hq]
    have hVs : pas (B.2.1 8) ++ t :: ts = pas (B.2.1 8) ++ [t] ++ ts := by simp
    have htake := RV.take (n := n) (as := pas (B.2.1 8)) (bs := [t]) (cs := ts) (by rw [← hVs]; exact hV1) (by omega)
    obtain ⟨s2, e2, V2, f2, q2⟩ := htake
    rw [hP] at e2
    have e2' : g_take n (nI P) 1 (rput st 23 (st.1 23 + 1)) = some ((), s2) := e2
    have hK2 : rK (rput st 23 (st.1 23 + 1)) s2 := rK_ring f2 q2
    have hX2 : ∀ v : Int32, RX (rput s2 24 v) (aPl (aPi B 1 (B.1 1 + 1)) 0 ts) := fun v => hXC.k (hK2.tr (rK_put _ 24 v (by decide))) (Eq.trans (by simp only [aPi, aPl, aPt, rput, va_up, upd] <;> (repeat rw [if_neg (by omega)])) (f2 23 (by decide) (by decide))) (Eq.trans (by simp only [aPi, aPl, aPt, rput, va_up, upd] <;> (repeat rw [if_neg (by omega)])) (f2 22 (by decide) (by decide))) (Eq.trans (by simp only [aPi, aPl, aPt, rput, va_up, upd] <;> (repeat rw [if_neg (by omega)])) (f2 25 (by decide) (by decide))) (q2 14 (by decide))
    have hs28 : ∀ v : Int32, (rput s2 24 v).1 28 = st.1 28 := fun v => Eq.trans (by simp only [aPi, aPl, aPt, rput, va_up, upd] <;> (repeat rw [if_neg (by omega)])) ((f2 28 (by decide) (by decide)).trans ((by simp only [aPi, aPl, aPt, rput, va_up, upd] <;> (repeat rw [if_neg (by omega)]))))
    have hs21 : ∀ v : Int32, (rput s2 24 v).1 21 = 0 := fun v => Eq.trans (by simp only [aPi, aPl, aPt, rput, va_up, upd] <;> (repeat rw [if_neg (by omega)])) ((f2 21 (by decide) (by decide)).trans h211)
    have hsA : ∀ (v : Int32) (j : Nat), 15 ≤ j → j ≤ 18 → (rput s2 24 v).2 j = st.2 j := fun v j h1 h2 => q2 j (by omega)
    have hV3 : ∀ v : Int32, RV (rput s2 24 v) (pas (B.2.1 8) ++ ts) := fun v => V2.same ((by simp only [aPi, aPl, aPt, rput, va_up, upd] <;> (repeat rw [if_neg (by omega)]))) ((by simp only [aPi, aPl, aPt, rput, va_up, upd] <;> (repeat rw [if_neg (by omega)]))) rfl
    rw [hE] at hL hinv
    unfold eTokB at hL hinv
    generalize hC : aPl (aPi B 1 (B.1 1 + 1)) 0 ts = C at hL hinv hXC hX2
    have hC0 : C.2.1 0 = ts := by rw [← hC]; rfl
    have hC8 : C.2.1 8 = B.2.1 8 := by rw [← hC]; rfl
    have hC3 : C.1 3 = 0 := by rw [← hC]; exact h3
    have hC4 : C.1 4 = 0 := by rw [← hC]; exact h4
    have hCs : ∀ j, j ≠ 0 → C.2.1 j = B.2.1 j := fun j hj => by rw [← hC]; exact va_up_ne _ _ hj
    have hCN : aNm C := by rw [← hC]; exact hN
    have hCm : ∀ u, aMac C u = aMac B u := fun u => by rw [← hC]; rfl
    have hCh : ∀ u, aHas C u = aHas B u := fun u => by rw [← hC]; rfl
    by_cases h260 : t = 260
    · rw [if_pos h260] at hL hinv hbd0
      by_cases hts : ts.length = 0
      · rw [hC0, if_pos hts] at hL
        rw [if_neg (by rw [nI_1, hts]; exact nI_nlt (by omega) (by omega))] at hbd0
        have hr := eLoop_c hL (by decide)
        subst hr
        exact ⟨_, _, hexit _ _ hbd0, Or.inr ⟨h211, hXC.pi 3 1 (by decide), Or.inr (Or.inl ⟨rfl, rfl⟩)⟩, fun _ _ => rfl⟩
      · rw [hC0, if_neg hts] at hL hinv
        rw [if_pos (by rw [nI_1]; exact nI_lt (by omega) (by omega)), e2'] at hbd0
        simp only [gbW] at hbd0
        rw [rputZ_at (Or.inr rfl), Option.bind_some] at hbd0
        refine ⟨_, _, hloop _ _ hbd0, Or.inl ⟨rfl, Or.inl ⟨hs21 1, aPi C 3 1, N, Nat.le_refl _, ⟨(hX2 1).pi 3 1 (by decide), hFC _ (hs28 1) (hsA 1) (aPi C 3 1) hC8 (fun j h1 h2 => hCs j (by omega)) (by rw [show (aPi C 3 1).2.1 0 = ts from hC0]; exact hV3 1), by show upd s2.1 24 1 24 = upd C.1 3 1 3; rw [upd_same, upd_same], hs21 1⟩, hinv rfl, hC4, hL⟩⟩, fun j hj => q2 j (by omega)⟩
    · rw [if_neg h260] at hL hinv hbd0
      by_cases h261 : t = 261
      · rw [if_pos h261] at hL hinv hbd0
        unfold eAft at hL hinv
        rw [hC0, hC8] at hL hinv
        cases ts with
        | nil =>
          rw [if_neg (by rw [show (2 : Int32) = nI 2 from rfl, nI_add]; exact nI_nlt (by simp) (by omega))] at hbd0
          have hr := eLoop_c hL (by decide)
          subst hr
          exact ⟨_, _, hexit _ _ hbd0, Or.inr ⟨h211, hXC, Or.inr (Or.inr (Or.inl ⟨rfl, rfl⟩))⟩, fun _ _ => rfl⟩
        | cons a bs =>
          cases bs with
          | nil =>
            rw [if_neg (by rw [show (2 : Int32) = nI 2 from rfl, nI_add]; exact nI_nlt (by simp) (by omega))] at hbd0
            have hr := eLoop_c hL (by decide)
            subst hr
            exact ⟨_, _, hexit _ _ hbd0, Or.inr ⟨h211, hXC, Or.inr (Or.inr (Or.inl ⟨rfl, rfl⟩))⟩, fun _ _ => rfl⟩
          | cons b cs =>
            simp only [List.length_cons] at hVle hbd0
            rw [if_pos (by rw [show (2 : Int32) = nI 2 from rfl, nI_add]; exact nI_lt (by omega) (by omega))] at hbd0
            dsimp only at hL hinv
            by_cases hh : (B.2.1 8).length < 50
            · rw [if_pos hh] at hL hinv
              rw [if_pos (show _ < (50 : Int32) from nI_lt (b := 50) hh (by decide)), e2'] at hbd0
              simp only [gbW] at hbd0
              rw [rputZ_at (Or.inl rfl), Option.bind_some, nI_1] at hbd0
              have hgb : (pas (B.2.1 8) ++ a :: b :: cs)[P + 1]? = some b := by
                rw [List.getElem?_append_right (by omega), hP, show P + 1 - P = 1 by omega]
                rfl
              rw [RQ.can (hX2 0).2.2.2.2.1 ((hV3 0).get hgb), Option.bind_some, b01_if] at hbd0
              have ha0 : 0 ≤ a := hpt a (by simp)
              have ham : a ≠ -1 := fun q => absurd ha0 (by rw [q]; decide)
              generalize hA1 : aPi (aPl (aPl C 0 (b :: cs)) 8 (B.2.1 8 ++ [a])) 4 1 = A1 at hL hinv
              have hA18 : A1.2.1 8 = B.2.1 8 ++ [a] := by rw [← hA1]; rfl
              have hA10 : A1.2.1 0 = b :: cs := by rw [← hA1]; rfl
              have hA1s : ∀ j, j ≠ 0 → j ≠ 8 → A1.2.1 j = B.2.1 j := fun j h1 h2 => by
                rw [← hA1]
                show va_up (va_up C.2.1 0 (b :: cs)) 8 (B.2.1 8 ++ [a]) j = B.2.1 j
                rw [va_up_ne _ _ h2, va_up_ne _ _ h1]
                exact hCs j h1
              have hA13 : A1.1 3 = 0 := by rw [← hA1]; exact hC3
              have hA14 : A1.1 4 = 1 := by rw [← hA1]; rfl
              have hA1h : aHas A1 b = aHas C b := by rw [← hA1]; rfl
              have hXA : RX (rput s2 24 0) A1 := by
                rw [← hA1]
                exact (((hX2 0).pl 0 _ (by omega)).pl 8 _ (by omega)).pi 4 1 (by decide)
              have htop : aTop A1 = a := by
                unfold aTop
                rw [hA18, List.getLast?_append]
                rfl
              have hfs : aFs A1 = B.2.1 8 := by
                unfold aFs
                rw [hA18, List.dropLast_concat]
              have hiA := hinv rfl
              have hcanA : aCan (aPi A1 4 0) = aHas C b := by
                unfold aCan
                rw [show (aPi A1 4 0).1 3 = 0 from hA13, show (aPi A1 4 0).2.1 0 = b :: cs from hA10, ← hA1h]
                rfl
              obtain ⟨N1, rfl⟩ : ∃ N1, N = N1 + 1 := by
                cases N with
                | zero => simp [eLoop] at hL
                | succ N1 => exact ⟨N1, rfl⟩
              have hL1 : eLoop N1 (eTurn A1) = some res := by
                simp only [eLoop] at hL
                rw [if_pos trivial, if_neg (by rw [hA18, List.length_append]; simp)] at hL
                exact hL
              have hturn : eTurn A1 = if aHas C b = true then eFirst (aPi A1 4 0) else eBack (aPi A1 4 0) := by
                unfold eTurn eTurnB
                rw [htop, decide_eq_false ham, hA14, hcanA]
                cases aHas C b <;> rfl
              cases hhb : aHas C b with
              | false =>
                rw [hhb, if_neg (by decide)] at hbd0 hturn
                have hroom : ¬ 3000 ≤ (b :: cs).length := by
                  rw [hx] at hl
                  simp only [List.length_cons] at hl ⊢
                  omega
                have hback : eBack (aPi A1 4 0) = (0, aPi (aPl (aPl (aPi A1 4 0) 8 (B.2.1 8)) 0 (a :: b :: cs)) 3 0) := by
                  unfold eBack
                  rw [show (aPi A1 4 0).2.1 0 = b :: cs from hA10, if_neg hroom, show aFs (aPi A1 4 0) = B.2.1 8 from hfs, show aTop (aPi A1 4 0) = a from htop]
                have hiT := (eTurn_inv hiA (by rw [hA18, List.length_append]; simp) (by rw [hturn, hback])).1
                rw [hturn, hback] at hL1 hiT
                have hbd1 : g_start_b4 n (nI P, 1) st = some (.inl (nI P, 0), rput s2 24 0) := hbd0
                refine ⟨_, _, hloop _ _ hbd1, Or.inl ⟨rfl, Or.inl ⟨hs21 0, _, N1, by omega, ⟨(((hXA.pi 4 0 (by decide)).pl 8 _ (by omega)).pl 0 _ (by omega)).pi 3 0 (by decide), hFC _ (hs28 0) (hsA 0) _ ?_ (fun j h1 h2 => ?_) (hV3 0), ?_, hs21 0⟩, hiT, rfl, hL1⟩⟩, fun j hj => q2 j (by omega)⟩
                · show va_up (va_up A1.2.1 8 (B.2.1 8)) 0 (a :: b :: cs) 8 = B.2.1 8
                  rw [va_up_ne _ _ (by decide), va_up_self]
                · show va_up (va_up A1.2.1 8 (B.2.1 8)) 0 (a :: b :: cs) j = B.2.1 j
                  rw [va_up_ne _ _ (by omega), va_up_ne _ _ (by omega)]
                  exact hA1s j (by omega) (by omega)
                · show upd s2.1 24 0 24 = upd (upd A1.1 4 0) 3 0 3
                  rw [upd_same, upd_same]
              | true =>
                rw [hhb, if_pos rfl] at hbd0 hturn
                obtain ⟨s4, e4, p28, pk, p16, p17, p18, pj⟩ := g_pile_at (st := rput s2 24 0) (kd := 261) (p := nI P) (d := (B.2.1 8).length) ((hs28 0).trans hF.1) (by omega)
                rw [e4] at hbd0
                have hbd1 : g_start_b4 n (nI P, 1) st = some (.inl (nI (P + 1), 1), s4) := by
                  rw [hbd0]
                  simp only [gbW]
                  rfl
                rw [hturn] at hL1
                have hK4 : rK (rput s2 24 0) s4 := ⟨fun k hk => pk k (by omega), fun j h1 h2 => pj j (by omega) (by omega) (by omega)⟩
                have hXA4 : RX s4 (aPi A1 4 0) := (hXA.pi 4 0 (by decide)).k hK4 (pk 23 (by decide)) (pk 22 (by decide)) (pk 25 (by decide)) (pj 14 (by decide) (by decide) (by decide))
                have hFB : RFr (rput s2 24 0) C := hFC _ (hs28 0) (hsA 0) C hC8 (fun j h1 h2 => hCs j (by omega)) (by rw [hC0]; exact hV3 0)
                have hF4 : RFr s4 (aPi A1 4 0) := hFB.push (aPi A1 4 0) (a := a) (by rw [hC8]; exact hh) (by show A1.2.1 8 = _; rw [hA18, hC8]) (fun j h1 h2 => (hA1s j (by omega) (by omega)).trans (hCs j (by omega)).symm) (fun q => absurd q ham) (by rw [hC8]; exact p28) (by rw [hC8, if_neg ham]; exact p16) (by rw [hC8, hP]; exact p17) (by rw [hC8]; exact p18) (pj 15 (by decide) (by decide) (by decide)) (by
                    show RV s4 (pas (A1.2.1 8) ++ A1.2.1 0)
                    rw [hA18, hA10, pas_snoc, if_neg ham, List.append_assoc]
                    exact (hV3 0).same (pk 2 (by decide)) (pk 3 (by decide)) (pj 0 (by decide) (by decide) (by decide)))
                have hlenP : (pas ((aPi A1 4 0).2.1 8)).length = P + 1 := by
                  show (pas (A1.2.1 8)).length = P + 1
                  rw [hA18, pas_snoc, if_neg ham, List.length_append, hP]
                  rfl
                obtain ⟨b', st', eg, hout, hfr⟩ := ih N1 (by omega) m s4 (aPi A1 4 0) ⟨hXA4, hF4, by
                    rw [pk 24 (by decide)]
                    show upd s2.1 24 0 24 = A1.1 3
                    rw [upd_same, hA13], (pk 21 (by decide)).trans (hs21 0)⟩ hiA (by rw [hcanA]; exact hhb) rfl (by omega) hL1
                rw [hlenP] at eg
                refine ⟨b', st', by simp [gloopW, gbW, hbd1, eg], ?_, fun j hj => (hfr j hj).trans ((pj j (by omega) (by omega) (by omega)).trans (q2 j (by omega)))⟩
                rcases hout with ⟨w1, w2⟩ | w
                · refine Or.inl ⟨w1, ?_⟩
                  rcases w2 with ⟨w3, A', N', w4, w5⟩ | w3
                  · exact Or.inl ⟨w3, A', N', by omega, w5⟩
                  · exact Or.inr w3
                · exact Or.inr w
            · rw [if_neg hh] at hL
              rw [if_neg (show ¬ _ < (50 : Int32) from nI_nlt (b := 50) (by omega) (by omega))] at hbd0
              have hr := eLoop_c hL (by decide)
              subst hr
              exact ⟨_, _, hexit _ _ hbd0, Or.inr ⟨h211, hXC, Or.inr (Or.inr (Or.inr (Or.inl ⟨rfl, rfl⟩)))⟩, fun _ _ => rfl⟩
      · rw [if_neg h261] at hL hinv hbd0
        by_cases h262 : t = 262
        · rw [if_pos h262] at hL hinv hbd0
          unfold eNam at hL hinv
          rw [hC8] at hL hinv
          by_cases hh : (B.2.1 8).length < 50
          · rw [if_pos hh] at hL hinv
            rw [if_pos (show _ < (50 : Int32) from nI_lt (b := 50) hh (by decide)), e2'] at hbd0
            simp only [gbW] at hbd0
            rw [rputZ_at (Or.inl rfl), Option.bind_some] at hbd0
            obtain ⟨s4, e4, p28, pk, p16, p17, p18, pj⟩ := g_pile_at (st := rput s2 24 0) (kd := 262) (p := nI P) (d := (B.2.1 8).length) ((hs28 0).trans hF.1) (by omega)
            rw [e4] at hbd0
            have hbd1 : g_start_b4 n (nI P, 1) st = some (.inl (nI P, 0), s4) := hbd0
            have hK4 : rK (rput s2 24 0) s4 := ⟨fun k hk => pk k (by omega), fun j h1 h2 => pj j (by omega) (by omega) (by omega)⟩
            have hFB : RFr (rput s2 24 0) C := hFC _ (hs28 0) (hsA 0) C hC8 (fun j h1 h2 => hCs j (by omega)) (by rw [hC0]; exact hV3 0)
            have hlist : ∀ j, j ≠ 8 → j ≠ 200 + (B.2.1 8).length → (aPl (aPl C (200 + (B.2.1 8).length) []) 8 (B.2.1 8 ++ [-1])).2.1 j = C.2.1 j := fun j h1 h2 => by
              show va_up (va_up C.2.1 (200 + (B.2.1 8).length) []) 8 (B.2.1 8 ++ [-1]) j = C.2.1 j
              rw [va_up_ne _ _ h1, va_up_ne _ _ h2]
            refine ⟨_, _, hloop _ _ hbd1, Or.inl ⟨rfl, Or.inl ⟨(pk 21 (by decide)).trans (hs21 0), _, N, Nat.le_refl _, ⟨((((hX2 0).pl _ _ (by omega)).pl 8 _ (by omega)).k hK4 (pk 23 (by decide)) (pk 22 (by decide)) (pk 25 (by decide)) (pj 14 (by decide) (by decide) (by decide))), ?_, ?_, (pk 21 (by decide)).trans (hs21 0)⟩, hinv rfl, hC4, hL⟩⟩, fun j hj => (pj j (by omega) (by omega) (by omega)).trans (q2 j (by omega))⟩
            · refine hFB.push _ (a := -1) (by rw [hC8]; exact hh) (by rw [hC8]; rfl) (fun j h1 h2 => hlist j (by omega) (by rw [hC8] at h2; omega)) (fun _ => ?_) (by rw [hC8]; exact p28) (by rw [hC8]; exact p16) (by rw [hC8, hP]; exact p17) (by rw [hC8]; exact p18) (pj 15 (by decide) (by decide) (by decide)) ?_
              · rw [hC8]
                show va_up (va_up C.2.1 (200 + (B.2.1 8).length) []) 8 (B.2.1 8 ++ [-1]) (200 + (B.2.1 8).length) = []
                rw [va_up_ne _ _ (by omega), va_up_self]
              · rw [show (aPl (aPl C (200 + (B.2.1 8).length) []) 8 (B.2.1 8 ++ [-1])).2.1 8 = B.2.1 8 ++ [-1] from rfl, hlist 0 (by decide) (by omega), hC0, pas_snoc, if_pos rfl, List.append_nil]
                exact (hV3 0).same (pk 2 (by decide)) (pk 3 (by decide)) (pj 0 (by decide) (by decide) (by decide))
            · rw [pk 24 (by decide)]
              show upd s2.1 24 0 24 = C.1 3
              rw [upd_same, hC3]
          · rw [if_neg hh] at hL
            rw [if_neg (show ¬ _ < (50 : Int32) from nI_nlt (b := 50) (by omega) (by omega))] at hbd0
            have hr := eLoop_c hL (by decide)
            subst hr
            exact ⟨_, _, hexit _ _ hbd0, Or.inr ⟨h211, hXC, Or.inr (Or.inr (Or.inr (Or.inr ⟨rfl, rfl⟩)))⟩, fun _ _ => rfl⟩
        · rw [if_neg h262] at hL hinv hbd0
          have hneg : ¬ aMac B t < 0 := by
            rw [has_eq] at hhas
            simp only [h260, h261, h262, decide_false, Bool.false_or, decide_eq_true_eq] at hhas
            exact Int32.not_lt.mpr hhas
          obtain ⟨mm, hmm, hmn⟩ := aMac_pos hN hneg
          rw [hCm t, hmn, if_neg (nI_pos (by omega)), nI_clamp (by omega)] at hL hinv
          unfold eName at hL hinv
          have hMC := hXC.2.2.2.2.1
          have hlen2 : (C.2.1 2).length = (B.2.1 2).length := by rw [hCs 2 (by decide)]
          obtain ⟨w1, w2, w3, w4, w5⟩ := hMC.2.1 mm (by rw [hlen2]; exact hmm)
          have hpas : rAf ((rput st 23 (st.1 23 + 1)).2 16) (B.2.1 8).length = (pas (B.2.1 8)).length := by
            have := rAf_pas (f := st.2 16) (fs := B.2.1 8) (fun i u hu => (hF.2.2.2 i u hu).1) (B.2.1 8).length (Nat.le_refl _)
            rw [List.take_length] at this
            exact this
          obtain ⟨s5, e5, x5, M5⟩ := g_expandName_at (n := n) (st := rput st 23 (st.1 23 + 1)) (as := pas (B.2.1 8)) (t := t) (ts := ts) (body := aRow C mm 10) (m := mm) (k := aNum C mm) (dp := (B.2.1 8).length) (rows := aRow C mm) (tr := C.2.2.2) hV1 (hMC.mk hCN) (by rw [hMC.mac t, hCm t]; exact hmn) (by omega) w2 w1 (fun a ha => w5 a (by omega)) w4 hXC.2.2.2.1 h211 h281 (by omega) hpas (by omega)
          rw [hP] at e5
          rw [e5] at hbd0
          simp only [gbW] at hbd0
          rw [rputZ_at (Or.inl rfl), Option.bind_some] at hbd0
          have hbd1 : g_start_b4 n (nI P, 1) st = some (.inl (nI P, 0), rput s5 24 0) := hbd0
          rw [hMC.out hCN, w3, show (!(decide (aMk C mm &&& 1 = 0))) = aLng C mm from rfl] at M5
          rw [hC0] at hL hinv
          have hK5 : rK (rput st 23 (st.1 23 + 1)) (rput s5 24 0) := x5.k.tr (rK_put _ 24 0 (by decide))
          cases hmn2 : mName (aOut C) (aLng C mm) (aRow C mm) (aNum C mm) (aRow C mm 10) ts with
          | inl c =>
            rw [hmn2] at M5 hL
            obtain ⟨v1, v2, v3, v4⟩ := M5
            have hr := eLoop_bad v2 hL
            subst hr
            refine ⟨_, _, hloop _ _ hbd1, Or.inl ⟨rfl, Or.inr ⟨Eq.trans (by simp only [aPi, aPl, aPt, rput, va_up, upd] <;> (repeat rw [if_neg (by omega)])) v1, v2, hXC.to _ hK5 ?_ ?_ (v4.same ((by simp only [aPi, aPl, aPt, rput, va_up, upd] <;> (repeat rw [if_neg (by omega)]))) rfl) (fun j hj => (by simp only [aPi, aPl, aPt, rput, va_up, upd] <;> (repeat rw [if_neg (by omega)]))) (fun _ _ => rfl) rfl⟩⟩, fun j hj => x5.2 j (by omega) (by omega) (by omega) (by omega)⟩
            · rw [show (rput s5 24 0).1 23 = s5.1 23 from rfl, x5.1 23 (by decide) (by decide) (by decide) (by decide) (by decide)]
              exact hXC.2.1
            · rw [show (rput s5 24 0).1 22 = s5.1 22 from rfl, v3]
              rfl
          | inr q =>
            rw [hmn2] at M5 hL hinv
            dsimp only at M5 hL hinv
            obtain ⟨v1, v2, v3, v4⟩ := M5
            refine ⟨_, _, hloop _ _ hbd1, Or.inl ⟨rfl, Or.inl ⟨Eq.trans (by simp only [aPi, aPl, aPt, rput, va_up, upd] <;> (repeat rw [if_neg (by omega)])) v1, aPt (aPl C 0 q.2.2) (mTr C.2.2.2 (t, nI q.1, nI q.2.1)), N, Nat.le_refl _, ⟨hXC.to _ hK5 ?_ ?_ (v4.same ((by simp only [aPi, aPl, aPt, rput, va_up, upd] <;> (repeat rw [if_neg (by omega)]))) rfl) (fun _ _ => rfl) (fun j hj => (by simp only [aPi, aPl, aPt, rput, va_up, upd] <;> (repeat rw [if_neg (by omega)]))) rfl, ?_, ?_, Eq.trans (by simp only [aPi, aPl, aPt, rput, va_up, upd] <;> (repeat rw [if_neg (by omega)])) v1⟩, hinv rfl, hC4, hL⟩⟩, fun j hj => x5.2 j (by omega) (by omega) (by omega) (by omega)⟩
            · rw [show (rput s5 24 0).1 23 = s5.1 23 from rfl, x5.1 23 (by decide) (by decide) (by decide) (by decide) (by decide)]
              exact hXC.2.1
            · rw [show (rput s5 24 0).1 22 = s5.1 22 from rfl, v2]
              exact hXC.2.2.1
            · refine hFC _ ?_ ?_ _ (by show va_up C.2.1 0 q.2.2 8 = _; rw [va_up_ne _ _ (by decide)]; exact hC8) (fun j h1 h2 => by show va_up C.2.1 0 q.2.2 j = _; rw [va_up_ne _ _ (by omega)]; exact hCs j (by omega)) (v3.same ((by simp only [aPi, aPl, aPt, rput, va_up, upd] <;> (repeat rw [if_neg (by omega)]))) ((by simp only [aPi, aPl, aPt, rput, va_up, upd] <;> (repeat rw [if_neg (by omega)]))) rfl)
              · rw [show (rput s5 24 0).1 28 = s5.1 28 from rfl, x5.1 28 (by decide) (by decide) (by decide) (by decide) (by decide)]
                exact (by simp only [aPi, aPl, aPt, rput, va_up, upd] <;> (repeat rw [if_neg (by omega)]))
              · exact fun j h1 h2 => x5.2 j (by omega) (by omega) (by omega) (by omega)
            · show upd s5.1 24 0 24 = C.1 3
              rw [upd_same, hC3]
theorem RX.mark {st : rS} {A : aS} (c : Int32) (h : RX st A) : RX (rMarked c st) A := h.k (rRd.mark st c).xf.k ((rRd.mark st c).1 23 (by decide)) ((rRd.mark st c).1 22 (by decide)) ((rRd.mark st c).1 25 (by decide)) rfl
/-- how a part of the reference's expansion ends: a fault, or the machine goes on -/
def gOut (N : Nat) (res : Int32 × aS) (st' : rS) : Prop := (st'.1 21 = 0 ∧ ∃ A' N', N' ≤ N ∧ RQ st' A' ∧ aInv A' ∧ A'.1 4 = 0 ∧ eLoop N' (0, A') = some res) ∨ (st'.1 21 = res.1 ∧ res.1 ≠ 0 ∧ RX st' res.2)
theorem g_start_at {n N : Nat} {res : Int32 × aS} {st : rS} {B : aS} (hn : 7000 < n) (hN : N + 2 ≤ n) (hQ : RQ st B) (hi : aInv B) (hcan : aCan B = true) (h4 : B.1 4 = 0) (hL : eLoop N (eFirst B) = some res) : ∃ st', g_start n (nI (pas (B.2.1 8)).length) st = some ((), st') ∧ gOut N res st' ∧ F19 st st' := by
  obtain ⟨b, s1, e1, hout, hfr⟩ := g_start_loop hn N n st B hQ hi hcan h4 hN hL
  unfold g_start
  rw [e1]
  simp only [gbW]
  rcases hout with ⟨rfl, h⟩ | ⟨h21, hX, h⟩
  · exact ⟨s1, rfl, h, hfr⟩
  · rcases h with ⟨rfl, h⟩ | ⟨rfl, h⟩ | ⟨rfl, h⟩ | ⟨rfl, h⟩ | ⟨rfl, h⟩
    · exact ⟨rMarked 5 s1, by dsimp only; rw [g_mark_at]; rfl, Or.inr ⟨by rw [rMarked_0 h21, h], by rw [h]; decide, hX.mark 5⟩, hfr⟩
    · exact ⟨rMarked 1 s1, by dsimp only; rw [g_mark_at]; rfl, Or.inr ⟨by rw [rMarked_0 h21, h], by rw [h]; decide, hX.mark 1⟩, hfr⟩
    · exact ⟨rMarked 1 s1, by dsimp only; rw [g_mark_at]; rfl, Or.inr ⟨by rw [rMarked_0 h21, h], by rw [h]; decide, hX.mark 1⟩, hfr⟩
    · exact ⟨rMarked 8 s1, by dsimp only; rw [g_mark_at]; rfl, Or.inr ⟨by rw [rMarked_0 h21, h], by rw [h]; decide, hX.mark 8⟩, hfr⟩
    · exact ⟨rMarked 8 s1, by dsimp only; rw [g_mark_at]; rfl, Or.inr ⟨by rw [rMarked_0 h21, h], by rw [h]; decide, hX.mark 8⟩, hfr⟩
