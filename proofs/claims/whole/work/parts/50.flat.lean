/-! THE REFERENCE AS A STATE OF SCALARS AND ARRAYS -/
abbrev rS : Type := (Nat → Int32) × (Nat → Nat → Int32)
def rFs (m : Nat) (sc : Nat → Int32) : List Value := [.int (sc 0), .ref (m + 1), .int (sc 2), .int (sc 3), .int (sc 4), .ref (m + 2), .int (sc 6), .ref (m + 3), .ref (m + 4), .ref (m + 5), .ref (m + 6), .ref (m + 7), .ref (m + 8), .ref (m + 9), .int (sc 14), .ref (m + 10), .int (sc 16), .ref (m + 11), .ref (m + 12), .ref (m + 13), .ref (m + 14), .int (sc 21), .int (sc 22), .int (sc 23), .int (sc 24), .int (sc 25), .ref (m + 15), .ref (m + 16), .int (sc 28), .ref (m + 17), .ref (m + 18), .ref (m + 19), .int (sc 32), .int (sc 33), .ref (m + 20), .ref (m + 21), .ref (m + 22)]
def rLn : Nat → Nat
  | 0 => 4096
  | 1 => 3000
  | 2 => 100
  | 3 => 100
  | 4 => 100
  | 5 => 20000
  | 6 => 1000
  | 7 => 200000
  | 8 => 200
  | 9 => 4000
  | 10 => 100
  | 11 => 800
  | 12 => 10
  | 13 => 4000
  | 14 => 300
  | 15 => 512
  | 16 => 51
  | 17 => 51
  | 18 => 51
  | 19 => 2000
  | 20 => 10
  | 21 => 200
  | _ => 0
def rE (m : Nat) (st : rS) (h : hH) : hH := fun a => if a = m then some (.inr (1, rFs m st.1)) else if m < a ∧ a < m + 23 then some (.inl (0, rLn (a - (m + 1)), .inl (st.2 (a - (m + 1))))) else h a
def rput (st : rS) (k : Nat) (v : Int32) : rS := (upd st.1 k v, st.2)
def rputZ (st : rS) (k : Nat) (v : Int32) : Option rS := if v = 0 ∨ v = 1 then some (rput st k v) else none
def rget (st : rS) (j n : Nat) (i : Int32) : Option Int32 := if hIn i n then some (st.2 j i.toNatClampNeg) else none
def rset (st : rS) (j n : Nat) (i v : Int32) : Option rS := if hIn i n then some (st.1, fun q => if q = j then upd (st.2 j) i.toNatClampNeg v else st.2 q) else none
def gbW {α β σ : Type} (x : Option (α × σ)) (k : α → σ → Option β) : Option β := match x with
  | none => none
  | some q => k q.1 q.2
def gloopR {α β : Type} (body : α → Option (α ⊕ β)) : Nat → α → Option β
  | 0, _ => none
  | n + 1, x => (body x).bind fun q => match q with
    | .inl y => gloopR body n y
    | .inr b => some b
def gloopW {α β σ : Type} (body : α → σ → Option ((α ⊕ β) × σ)) : Nat → α → σ → Option (β × σ)
  | 0, _, _ => none
  | n + 1, x, h => gbW (body x h) fun q h1 => match q with
    | .inl y => gloopW body n y h1
    | .inr b => some (b, h1)
theorem pb_some {α β : Type} {x : Option α} {v : α} {F : α → Option β} {G : Option β} (hx : x = some v) (h : F v = G) : x.bind F = G := by
  rw [hx]
  exact h
theorem pb_sameR {α β : Type} {x y : Option α} {F G : α → Option β} (hx : x = y) (h : ∀ v, F v = G v) : x.bind F = y.bind G := by
  rw [hx]
  congr 1
  funext v
  exact h v
theorem pb_sameW {α β γ : Type} {x y : Option α} {F : α → Option γ} {G : α → Option β} {φ : β → γ} (hx : x = y) (h : ∀ v, F v = (G v).map φ) : x.bind F = (y.bind G).map φ := by
  rw [hx]
  cases y with
  | none => rfl
  | some v => exact h v
theorem pb_mapR {α τ β : Type} {x : Option α} {y : Option τ} {ε : τ → α} {F : α → Option β} {G : τ → Option β} (hx : x = y.map ε) (h : ∀ s, F (ε s) = G s) : x.bind F = y.bind G := by
  rw [hx]
  cases y with
  | none => rfl
  | some v => exact h v
theorem pb_mapW {α τ β γ : Type} {x : Option α} {y : Option τ} {ε : τ → α} {F : α → Option γ} {G : τ → Option β} {φ : β → γ} (hx : x = y.map ε) (h : ∀ s, F (ε s) = (G s).map φ) : x.bind F = (y.bind G).map φ := by
  rw [hx]
  cases y with
  | none => rfl
  | some v => exact h v
theorem pw_call {α τ β γ : Type} {x : Option (α × hH)} {y : Option (α × τ)} {ε : τ → hH} {F : α → hH → Option γ} {G : α → τ → Option β} {φ : β → γ} (hx : x = y.map (fun q => (q.1, ε q.2))) (h : ∀ v s, F v (ε s) = (G v s).map φ) : hbW x F = (gbW y G).map φ := by
  rw [hx]
  cases y with
  | none => rfl
  | some v => exact h v.1 v.2
theorem pi_iteR {β : Type} {c : Prop} [Decidable c] {A B A' B' : Option β} (h1 : c → A = A') (h2 : ¬ c → B = B') : (if c then A else B) = (if c then A' else B') := by
  by_cases hc : c
  · rw [if_pos hc, if_pos hc]
    exact h1 hc
  · rw [if_neg hc, if_neg hc]
    exact h2 hc
theorem pi_iteW {β γ : Type} {c : Prop} [Decidable c] {A B : Option γ} {A' B' : Option β} {φ : β → γ} (h1 : c → A = A'.map φ) (h2 : ¬ c → B = B'.map φ) : (if c then A else B) = (if c then A' else B').map φ := by
  by_cases hc : c
  · rw [if_pos hc, if_pos hc]
    exact h1 hc
  · rw [if_neg hc, if_neg hc]
    exact h2 hc
theorem pi_divR {β : Type} {c : Prop} [Decidable c] {B B' : Option β} (h2 : ¬ c → B = B') : (if c then none else B) = (if c then none else B') := pi_iteR (fun _ => rfl) h2
theorem pi_divW {β γ : Type} {c : Prop} [Decidable c] {B : Option γ} {B' : Option β} {φ : β → γ} (h2 : ¬ c → B = B'.map φ) : (if c then none else B) = (if c then none else B').map φ := pi_iteW (fun _ => rfl) h2
theorem pl_R {α β : Type} {f g : α → Option (α ⊕ β)} (hb : ∀ x, f x = g x) : ∀ (k : Nat) (x : α), hloopR f k x = gloopR g k x
  | 0, _ => rfl
  | k + 1, x => by
    unfold hloopR gloopR
    refine pb_sameR (hb x) (fun q => ?_)
    rcases q with y | b
    · exact pl_R hb k y
    · rfl
theorem pl_W {α β τ : Type} {ε : τ → hH} {f : α → hH → Option ((α ⊕ β) × hH)} {g : α → τ → Option ((α ⊕ β) × τ)} (hb : ∀ x s, f x (ε s) = (g x s).map (fun q => (q.1, ε q.2))) : ∀ (k : Nat) (x : α) (s : τ), hloopW f k x (ε s) = (gloopW g k x s).map (fun q => (q.1, ε q.2))
  | 0, _, _ => rfl
  | k + 1, x, s => by
    unfold hloopW gloopW
    refine pw_call (hb x s) (fun q s1 => ?_)
    rcases q with y | b
    · exact pl_W hb k y s1
    · rfl
theorem r_obj (m : Nat) (st : rS) (h : hH) : hObj (rE m st h) m 1 = some (rFs m st.1) := by simp [hObj, rE]
theorem r_put (m : Nat) (st : rS) (h : hH) (v : Int32) (k : Nat) (hk : k < (rFs m st.1).length) (he : (rFs m st.1).set k (.int v) = rFs m (upd st.1 k v)) : hpV (rE m st h) m 1 k (.int v) = some (rE m (rput st k v) h) := by
  unfold hpV
  rw [r_obj]
  show (if k < (rFs m st.1).length then _ else _) = _
  rw [if_pos hk, he]
  congr 1
  funext a
  by_cases ha : a = m
  · subst ha
    rw [va_up_self]
    simp [rE, rput]
  · rw [va_up_ne _ _ ha]
    simp [rE, rput, ha]
theorem r_arr (m : Nat) (st : rS) (h : hH) {j : Nat} (hj : j + 1 < 23) : rE m st h (m + (j + 1)) = some (.inl (0, rLn j, .inl (st.2 j))) := by
  unfold rE
  rw [if_neg (by omega), if_pos (by omega), show m + (j + 1) - (m + 1) = j by omega]
theorem ra (m : Nat) (st : rS) (h : hH) {j n : Nat} (hj : j + 1 < 23) (hn : rLn j = n) {i : Int32} : haI (rE m st h) (m + (j + 1)) 0 i = rget st j n i := by
  unfold haI rget
  rw [hAI_at (r_arr m st h hj)]
  show (if hIn i (rLn j) then _ else _) = _
  rw [hn]
theorem rs (m : Nat) (st : rS) (h : hH) {j n : Nat} (hj : j + 1 < 23) (hn : rLn j = n) {i v : Int32} : hsI (rE m st h) (m + (j + 1)) 0 i v = (rset st j n i v).map (fun s => rE m s h) := by
  unfold hsI rset
  rw [hAI_at (r_arr m st h hj)]
  show (if hIn i (rLn j) then _ else _) = _
  rw [hn]
  split
  · show some _ = some _
    congr 1
    funext a
    show va_up (rE m st h) (m + (j + 1)) _ a = rE m (st.1, fun q => if q = j then upd (st.2 j) i.toNatClampNeg v else st.2 q) h a
    by_cases ha : a = m + (j + 1)
    · subst ha
      rw [va_up_self, r_arr m _ h hj, hn]
      simp
    · rw [va_up_ne _ _ ha]
      unfold rE
      by_cases h1 : a = m
      · simp [h1]
      · rw [if_neg h1, if_neg h1]
        by_cases h2 : m < a ∧ a < m + 23
        · rw [if_pos h2, if_pos h2]
          have h3 : ¬ a - (m + 1) = j := by omega
          simp [h3]
        · rw [if_neg h2, if_neg h2]
  · rfl
theorem rg_0 (m : Nat) (st : rS) (h : hH) : hgI (rE m st h) m 1 0 = some (st.1 0) := by simp [hgI, r_obj, rFs]
theorem rp_0 (m : Nat) (st : rS) (h : hH) (v : Int32) : hpV (rE m st h) m 1 0 (.int v) = some (rE m (rput st 0 v) h) := r_put m st h v 0 (by simp [rFs]) (by simp [rFs, upd])
theorem rr_1 (m : Nat) (st : rS) (h : hH) : hgR (rE m st h) m 1 1 = some (some (m + 1)) := by simp [hgR, r_obj, rFs]
theorem rg_2 (m : Nat) (st : rS) (h : hH) : hgI (rE m st h) m 1 2 = some (st.1 2) := by simp [hgI, r_obj, rFs]
theorem rp_2 (m : Nat) (st : rS) (h : hH) (v : Int32) : hpV (rE m st h) m 1 2 (.int v) = some (rE m (rput st 2 v) h) := r_put m st h v 2 (by simp [rFs]) (by simp [rFs, upd])
theorem rg_3 (m : Nat) (st : rS) (h : hH) : hgI (rE m st h) m 1 3 = some (st.1 3) := by simp [hgI, r_obj, rFs]
theorem rp_3 (m : Nat) (st : rS) (h : hH) (v : Int32) : hpV (rE m st h) m 1 3 (.int v) = some (rE m (rput st 3 v) h) := r_put m st h v 3 (by simp [rFs]) (by simp [rFs, upd])
theorem rg_4 (m : Nat) (st : rS) (h : hH) : hgI (rE m st h) m 1 4 = some (st.1 4) := by simp [hgI, r_obj, rFs]
theorem rp_4 (m : Nat) (st : rS) (h : hH) (v : Int32) : hpV (rE m st h) m 1 4 (.int v) = some (rE m (rput st 4 v) h) := r_put m st h v 4 (by simp [rFs]) (by simp [rFs, upd])
theorem rr_5 (m : Nat) (st : rS) (h : hH) : hgR (rE m st h) m 1 5 = some (some (m + 2)) := by simp [hgR, r_obj, rFs]
theorem rg_6 (m : Nat) (st : rS) (h : hH) : hgI (rE m st h) m 1 6 = some (st.1 6) := by simp [hgI, r_obj, rFs]
theorem rp_6 (m : Nat) (st : rS) (h : hH) (v : Int32) : hpV (rE m st h) m 1 6 (.int v) = some (rE m (rput st 6 v) h) := r_put m st h v 6 (by simp [rFs]) (by simp [rFs, upd])
theorem rr_7 (m : Nat) (st : rS) (h : hH) : hgR (rE m st h) m 1 7 = some (some (m + 3)) := by simp [hgR, r_obj, rFs]
theorem rr_8 (m : Nat) (st : rS) (h : hH) : hgR (rE m st h) m 1 8 = some (some (m + 4)) := by simp [hgR, r_obj, rFs]
theorem rr_9 (m : Nat) (st : rS) (h : hH) : hgR (rE m st h) m 1 9 = some (some (m + 5)) := by simp [hgR, r_obj, rFs]
theorem rr_10 (m : Nat) (st : rS) (h : hH) : hgR (rE m st h) m 1 10 = some (some (m + 6)) := by simp [hgR, r_obj, rFs]
theorem rr_11 (m : Nat) (st : rS) (h : hH) : hgR (rE m st h) m 1 11 = some (some (m + 7)) := by simp [hgR, r_obj, rFs]
theorem rr_12 (m : Nat) (st : rS) (h : hH) : hgR (rE m st h) m 1 12 = some (some (m + 8)) := by simp [hgR, r_obj, rFs]
theorem rr_13 (m : Nat) (st : rS) (h : hH) : hgR (rE m st h) m 1 13 = some (some (m + 9)) := by simp [hgR, r_obj, rFs]
theorem rg_14 (m : Nat) (st : rS) (h : hH) : hgI (rE m st h) m 1 14 = some (st.1 14) := by simp [hgI, r_obj, rFs]
theorem rp_14 (m : Nat) (st : rS) (h : hH) (v : Int32) : hpV (rE m st h) m 1 14 (.int v) = some (rE m (rput st 14 v) h) := r_put m st h v 14 (by simp [rFs]) (by simp [rFs, upd])
theorem rr_15 (m : Nat) (st : rS) (h : hH) : hgR (rE m st h) m 1 15 = some (some (m + 10)) := by simp [hgR, r_obj, rFs]
theorem rg_16 (m : Nat) (st : rS) (h : hH) : hgI (rE m st h) m 1 16 = some (st.1 16) := by simp [hgI, r_obj, rFs]
theorem rp_16 (m : Nat) (st : rS) (h : hH) (v : Int32) : hpV (rE m st h) m 1 16 (.int v) = some (rE m (rput st 16 v) h) := r_put m st h v 16 (by simp [rFs]) (by simp [rFs, upd])
theorem rr_17 (m : Nat) (st : rS) (h : hH) : hgR (rE m st h) m 1 17 = some (some (m + 11)) := by simp [hgR, r_obj, rFs]
theorem rr_18 (m : Nat) (st : rS) (h : hH) : hgR (rE m st h) m 1 18 = some (some (m + 12)) := by simp [hgR, r_obj, rFs]
theorem rr_19 (m : Nat) (st : rS) (h : hH) : hgR (rE m st h) m 1 19 = some (some (m + 13)) := by simp [hgR, r_obj, rFs]
theorem rr_20 (m : Nat) (st : rS) (h : hH) : hgR (rE m st h) m 1 20 = some (some (m + 14)) := by simp [hgR, r_obj, rFs]
theorem rg_21 (m : Nat) (st : rS) (h : hH) : hgI (rE m st h) m 1 21 = some (st.1 21) := by simp [hgI, r_obj, rFs]
theorem rp_21 (m : Nat) (st : rS) (h : hH) (v : Int32) : hpV (rE m st h) m 1 21 (.int v) = some (rE m (rput st 21 v) h) := r_put m st h v 21 (by simp [rFs]) (by simp [rFs, upd])
theorem rg_22 (m : Nat) (st : rS) (h : hH) : hgI (rE m st h) m 1 22 = some (st.1 22) := by simp [hgI, r_obj, rFs]
theorem rp_22 (m : Nat) (st : rS) (h : hH) (v : Int32) : hpV (rE m st h) m 1 22 (.int v) = some (rE m (rput st 22 v) h) := r_put m st h v 22 (by simp [rFs]) (by simp [rFs, upd])
theorem rg_23 (m : Nat) (st : rS) (h : hH) : hgI (rE m st h) m 1 23 = some (st.1 23) := by simp [hgI, r_obj, rFs]
theorem rp_23 (m : Nat) (st : rS) (h : hH) (v : Int32) : hpV (rE m st h) m 1 23 (.int v) = some (rE m (rput st 23 v) h) := r_put m st h v 23 (by simp [rFs]) (by simp [rFs, upd])
theorem rg_24 (m : Nat) (st : rS) (h : hH) : hgI (rE m st h) m 1 24 = some (st.1 24) := by simp [hgI, r_obj, rFs]
theorem rp_24 (m : Nat) (st : rS) (h : hH) (v : Int32) : hpV (rE m st h) m 1 24 (.int v) = some (rE m (rput st 24 v) h) := r_put m st h v 24 (by simp [rFs]) (by simp [rFs, upd])
theorem rz_24 (m : Nat) (st : rS) (h : hH) (v : Int32) : hpZ (rE m st h) m 1 24 v = (rputZ st 24 v).map (fun s => rE m s h) := by
  unfold hpZ rputZ
  split
  · rw [rp_24]
    rfl
  · rfl
theorem rg_25 (m : Nat) (st : rS) (h : hH) : hgI (rE m st h) m 1 25 = some (st.1 25) := by simp [hgI, r_obj, rFs]
theorem rp_25 (m : Nat) (st : rS) (h : hH) (v : Int32) : hpV (rE m st h) m 1 25 (.int v) = some (rE m (rput st 25 v) h) := r_put m st h v 25 (by simp [rFs]) (by simp [rFs, upd])
theorem rr_26 (m : Nat) (st : rS) (h : hH) : hgR (rE m st h) m 1 26 = some (some (m + 15)) := by simp [hgR, r_obj, rFs]
theorem rr_27 (m : Nat) (st : rS) (h : hH) : hgR (rE m st h) m 1 27 = some (some (m + 16)) := by simp [hgR, r_obj, rFs]
theorem rg_28 (m : Nat) (st : rS) (h : hH) : hgI (rE m st h) m 1 28 = some (st.1 28) := by simp [hgI, r_obj, rFs]
theorem rp_28 (m : Nat) (st : rS) (h : hH) (v : Int32) : hpV (rE m st h) m 1 28 (.int v) = some (rE m (rput st 28 v) h) := r_put m st h v 28 (by simp [rFs]) (by simp [rFs, upd])
theorem rr_29 (m : Nat) (st : rS) (h : hH) : hgR (rE m st h) m 1 29 = some (some (m + 17)) := by simp [hgR, r_obj, rFs]
theorem rr_30 (m : Nat) (st : rS) (h : hH) : hgR (rE m st h) m 1 30 = some (some (m + 18)) := by simp [hgR, r_obj, rFs]
theorem rr_31 (m : Nat) (st : rS) (h : hH) : hgR (rE m st h) m 1 31 = some (some (m + 19)) := by simp [hgR, r_obj, rFs]
theorem rg_32 (m : Nat) (st : rS) (h : hH) : hgI (rE m st h) m 1 32 = some (st.1 32) := by simp [hgI, r_obj, rFs]
theorem rp_32 (m : Nat) (st : rS) (h : hH) (v : Int32) : hpV (rE m st h) m 1 32 (.int v) = some (rE m (rput st 32 v) h) := r_put m st h v 32 (by simp [rFs]) (by simp [rFs, upd])
theorem rg_33 (m : Nat) (st : rS) (h : hH) : hgI (rE m st h) m 1 33 = some (st.1 33) := by simp [hgI, r_obj, rFs]
theorem rp_33 (m : Nat) (st : rS) (h : hH) (v : Int32) : hpV (rE m st h) m 1 33 (.int v) = some (rE m (rput st 33 v) h) := r_put m st h v 33 (by simp [rFs]) (by simp [rFs, upd])
theorem rr_34 (m : Nat) (st : rS) (h : hH) : hgR (rE m st h) m 1 34 = some (some (m + 20)) := by simp [hgR, r_obj, rFs]
theorem rr_35 (m : Nat) (st : rS) (h : hH) : hgR (rE m st h) m 1 35 = some (some (m + 21)) := by simp [hgR, r_obj, rFs]
theorem rr_36 (m : Nat) (st : rS) (h : hH) : hgR (rE m st h) m 1 36 = some (some (m + 22)) := by simp [hgR, r_obj, rFs]
