/-! THE HEAD OF THE REFERENCE'S RING (printed by wip/gen/head.py) -/
def H2 (st : rS) : Prop := ∃ hd, hd < 4096 ∧ st.1 2 = nI hd
def K2 {α : Type} (x : Option (α × rS)) : Prop := ∀ r s, x = some (r, s) → H2 s
theorem H2_put {st : rS} {k : Nat} {v : Int32} (h : H2 st) (hk : k ≠ 2) : H2 (rput st k v) := by
  obtain ⟨hd, h1, h2⟩ := h
  exact ⟨hd, h1, (upd_other (Ne.symm hk)).trans h2⟩
theorem H2_mask {st : rS} {v : Int32} : H2 (rput st 2 (v &&& 4095)) := by
  have e := Jvm.Kit.i32_mask v 4095 (k := 12) (by decide) (by decide)
  have h0 : ¬ (v &&& 4095) < 0 := by
    rw [Int32.lt_iff_toInt_lt, e]
    show ¬ _ < (0 : Int)
    omega
  obtain ⟨k, hk, hk2⟩ := nI_of h0
  refine ⟨k, ?_, (show upd st.1 2 (v &&& 4095) 2 = _ from upd_same).trans hk2⟩
  rw [hk2, nI_toInt hk] at e
  omega
theorem H2_arr {st : rS} {f : Nat → Nat → Int32} (h : H2 st) : H2 (st.1, f) := h
theorem K2_none {α : Type} : K2 (none : Option (α × rS)) := fun _ _ h => by cases h
theorem K2_some {α : Type} {r : α} {s : rS} (h : H2 s) : K2 (some (r, s)) := fun r' s' e => by
  cases e
  exact h
theorem K2_bind {α β : Type} {x : Option α} {F : α → Option (β × rS)} (h : ∀ v, K2 (F v)) : K2 (x.bind F) := by
  cases x with
  | none => exact K2_none
  | some v => exact h v
theorem K2_rset {β : Type} {st : rS} {j n : Nat} {i v : Int32} {F : rS → Option (β × rS)} (h : H2 st) (hF : ∀ s, H2 s → K2 (F s)) : K2 ((rset st j n i v).bind F) := by
  unfold rset
  by_cases hc : hIn i n
  · rw [if_pos hc]
    exact hF _ h
  · rw [if_neg hc]
    exact K2_none
theorem K2_rputZ {β : Type} {st : rS} {k : Nat} {v : Int32} {F : rS → Option (β × rS)} (h : H2 st) (hk : k ≠ 2) (hF : ∀ s, H2 s → K2 (F s)) : K2 ((rputZ st k v).bind F) := by
  unfold rputZ
  by_cases hc : v = 0 ∨ v = 1
  · rw [if_pos hc]
    exact hF _ (H2_put h hk)
  · rw [if_neg hc]
    exact K2_none
theorem K2_gbW {α β : Type} {x : Option (α × rS)} {F : α → rS → Option (β × rS)} (h : K2 x) (hF : ∀ v s, H2 s → K2 (F v s)) : K2 (gbW x F) := by
  cases x with
  | none => exact K2_none
  | some q => exact hF q.1 q.2 (h q.1 q.2 rfl)
theorem K2_ite {α : Type} {c : Prop} [Decidable c] {a b : Option (α × rS)} (h1 : K2 a) (h2 : K2 b) : K2 (if c then a else b) := by
  by_cases h : c
  · rw [if_pos h]
    exact h1
  · rw [if_neg h]
    exact h2
theorem K2_loop {α β : Type} {body : α → rS → Option ((α ⊕ β) × rS)} (hb : ∀ x s, H2 s → K2 (body x s)) : ∀ (n : Nat) (x : α) (s : rS), H2 s → K2 (gloopW body n x s)
  | 0, _, _, _ => K2_none
  | n + 1, x, s, h => by
    unfold gloopW
    have h1 := hb x s h
    revert h1
    cases body x s with
    | none => exact fun _ => K2_none
    | some q =>
      obtain ⟨q1, q2⟩ := q
      intro h1
      cases q1 with
      | inl y => exact K2_loop hb n y q2 (h1 _ _ rfl)
      | inr b => exact K2_some (h1 _ _ rfl)
theorem h2_g_newMacro_b81 (n : Nat) (x1 : Int32) (x3 : Int32) (x4 : Int32) (x : (Int32)) (h : rS) (H : H2 h) : K2 (g_newMacro_b81 n x1 x3 x4 x h) := by
  unfold g_newMacro_b81
  try dsimp only
  repeat' (with_reducible first
    | assumption
    | exact K2_none
    | exact H2_mask
    | refine H2_put ?_ (by decide)
    | refine K2_some ?_
    | refine K2_ite ?_ ?_
    | refine K2_rset ?_ ?_
    | refine K2_rputZ ?_ (by decide) ?_
    | refine K2_gbW ?_ ?_
    | refine K2_loop ?_ _ _ _ ?_
    | refine K2_bind ?_
    | intro _
    | split)
theorem h2_g_newMacro_b33 (n : Nat) (x1 : Int32) (x3 : Int32) (x4 : Int32) (x : (Int32)) (h : rS) (H : H2 h) : K2 (g_newMacro_b33 n x1 x3 x4 x h) := by
  unfold g_newMacro_b33
  try dsimp only
  repeat' (with_reducible first
    | assumption
    | exact K2_none
    | exact H2_mask
    | refine H2_put ?_ (by decide)
    | refine K2_some ?_
    | refine K2_ite ?_ ?_
    | refine K2_rset ?_ ?_
    | refine K2_rputZ ?_ (by decide) ?_
    | refine K2_gbW ?_ ?_
    | refine K2_loop ?_ _ _ _ ?_
    | refine K2_bind ?_
    | intro _
    | split)
theorem h2_g_newMacro (n : Nat) (i1 : Int32) (i2 : Int32) (i3 : Int32) (h : rS) (H : H2 h) : K2 (g_newMacro n i1 i2 i3 h) := by
  unfold g_newMacro
  try dsimp only
  repeat' (with_reducible first
    | assumption
    | exact K2_none
    | exact H2_mask
    | refine H2_put ?_ (by decide)
    | refine K2_some ?_
    | refine K2_ite ?_ ?_
    | refine K2_rset ?_ ?_
    | refine K2_rputZ ?_ (by decide) ?_
    | refine K2_gbW ?_ ?_
    | refine K2_loop ?_ _ _ _ ?_
    | apply h2_g_newMacro_b81
    | apply h2_g_newMacro_b33
    | refine K2_bind ?_
    | intro _
    | split)
theorem h2_g_define (n : Nat) (i1 : Int32) (i2 : Int32) (i3 : Int32) (h : rS) (H : H2 h) : K2 (g_define n i1 i2 i3 h) := by
  unfold g_define
  try dsimp only
  repeat' (with_reducible first
    | assumption
    | exact K2_none
    | exact H2_mask
    | refine H2_put ?_ (by decide)
    | refine K2_some ?_
    | refine K2_ite ?_ ?_
    | refine K2_rset ?_ ?_
    | refine K2_rputZ ?_ (by decide) ?_
    | refine K2_gbW ?_ ?_
    | refine K2_loop ?_ _ _ _ ?_
    | apply h2_g_newMacro
    | refine K2_bind ?_
    | intro _
    | split)
theorem h2_g_body (i1 : Int32) (i2 : Int32) (h : rS) (H : H2 h) : K2 (g_body i1 i2 h) := by
  unfold g_body
  try dsimp only
  repeat' (with_reducible first
    | assumption
    | exact K2_none
    | exact H2_mask
    | refine H2_put ?_ (by decide)
    | refine K2_some ?_
    | refine K2_ite ?_ ?_
    | refine K2_rset ?_ ?_
    | refine K2_rputZ ?_ (by decide) ?_
    | refine K2_gbW ?_ ?_
    | refine K2_loop ?_ _ _ _ ?_
    | refine K2_bind ?_
    | intro _
    | split)
theorem h2_g_delimiter (i1 : Int32) (i2 : Int32) (i3 : Int32) (h : rS) (H : H2 h) : K2 (g_delimiter i1 i2 i3 h) := by
  unfold g_delimiter
  try dsimp only
  repeat' (with_reducible first
    | assumption
    | exact K2_none
    | exact H2_mask
    | refine H2_put ?_ (by decide)
    | refine K2_some ?_
    | refine K2_ite ?_ ?_
    | refine K2_rset ?_ ?_
    | refine K2_rputZ ?_ (by decide) ?_
    | refine K2_gbW ?_ ?_
    | refine K2_loop ?_ _ _ _ ?_
    | refine K2_bind ?_
    | intro _
    | split)
theorem h2_g_token (i1 : Int32) (h : rS) (H : H2 h) : K2 (g_token i1 h) := by
  unfold g_token
  try dsimp only
  repeat' (with_reducible first
    | assumption
    | exact K2_none
    | exact H2_mask
    | refine H2_put ?_ (by decide)
    | refine K2_some ?_
    | refine K2_ite ?_ ?_
    | refine K2_rset ?_ ?_
    | refine K2_rputZ ?_ (by decide) ?_
    | refine K2_gbW ?_ ?_
    | refine K2_loop ?_ _ _ _ ?_
    | refine K2_bind ?_
    | intro _
    | split)
theorem h2_g_group_b89 (n : Nat) (x : (Int32)) (h : rS) (H : H2 h) : K2 (g_group_b89 n x h) := by
  unfold g_group_b89
  try dsimp only
  repeat' (with_reducible first
    | assumption
    | exact K2_none
    | exact H2_mask
    | refine H2_put ?_ (by decide)
    | refine K2_some ?_
    | refine K2_ite ?_ ?_
    | refine K2_rset ?_ ?_
    | refine K2_rputZ ?_ (by decide) ?_
    | refine K2_gbW ?_ ?_
    | refine K2_loop ?_ _ _ _ ?_
    | refine K2_bind ?_
    | intro _
    | split)
theorem h2_g_group_b18 (n : Nat) (x : (Int32)) (h : rS) (H : H2 h) : K2 (g_group_b18 n x h) := by
  unfold g_group_b18
  try dsimp only
  repeat' (with_reducible first
    | assumption
    | exact K2_none
    | exact H2_mask
    | refine H2_put ?_ (by decide)
    | refine K2_some ?_
    | refine K2_ite ?_ ?_
    | refine K2_rset ?_ ?_
    | refine K2_rputZ ?_ (by decide) ?_
    | refine K2_gbW ?_ ?_
    | refine K2_loop ?_ _ _ _ ?_
    | refine K2_bind ?_
    | intro _
    | split)
theorem h2_g_group (n : Nat) (i1 : Int32) (h : rS) (H : H2 h) : K2 (g_group n i1 h) := by
  unfold g_group
  try dsimp only
  repeat' (with_reducible first
    | assumption
    | exact K2_none
    | exact H2_mask
    | refine H2_put ?_ (by decide)
    | refine K2_some ?_
    | refine K2_ite ?_ ?_
    | refine K2_rset ?_ ?_
    | refine K2_rputZ ?_ (by decide) ?_
    | refine K2_gbW ?_ ?_
    | refine K2_loop ?_ _ _ _ ?_
    | apply h2_g_group_b89
    | apply h2_g_group_b18
    | refine K2_bind ?_
    | intro _
    | split)
theorem h2_g_mark_j16 (y1 : Int32) (h : rS) (H : H2 h) : K2 (g_mark_j16 y1 h) := by
  unfold g_mark_j16
  try dsimp only
  repeat' (with_reducible first
    | assumption
    | exact K2_none
    | exact H2_mask
    | refine H2_put ?_ (by decide)
    | refine K2_some ?_
    | refine K2_ite ?_ ?_
    | refine K2_rset ?_ ?_
    | refine K2_rputZ ?_ (by decide) ?_
    | refine K2_gbW ?_ ?_
    | refine K2_loop ?_ _ _ _ ?_
    | refine K2_bind ?_
    | intro _
    | split)
theorem h2_g_mark (i1 : Int32) (h : rS) (H : H2 h) : K2 (g_mark i1 h) := by
  unfold g_mark
  try dsimp only
  repeat' (with_reducible first
    | assumption
    | exact K2_none
    | exact H2_mask
    | refine H2_put ?_ (by decide)
    | refine K2_some ?_
    | refine K2_ite ?_ ?_
    | refine K2_rset ?_ ?_
    | refine K2_rputZ ?_ (by decide) ?_
    | refine K2_gbW ?_ ?_
    | refine K2_loop ?_ _ _ _ ?_
    | apply h2_g_mark_j16
    | refine K2_bind ?_
    | intro _
    | split)
theorem h2_g_take_b4 (n : Nat) (x2 : Int32) (x : (Int32)) (h : rS) (H : H2 h) : K2 (g_take_b4 n x2 x h) := by
  unfold g_take_b4
  try dsimp only
  repeat' (with_reducible first
    | assumption
    | exact K2_none
    | exact H2_mask
    | refine H2_put ?_ (by decide)
    | refine K2_some ?_
    | refine K2_ite ?_ ?_
    | refine K2_rset ?_ ?_
    | refine K2_rputZ ?_ (by decide) ?_
    | refine K2_gbW ?_ ?_
    | refine K2_loop ?_ _ _ _ ?_
    | refine K2_bind ?_
    | intro _
    | split)
theorem h2_g_take (n : Nat) (i1 : Int32) (i2 : Int32) (h : rS) (H : H2 h) : K2 (g_take n i1 i2 h) := by
  unfold g_take
  try dsimp only
  repeat' (with_reducible first
    | assumption
    | exact K2_none
    | exact H2_mask
    | refine H2_put ?_ (by decide)
    | refine K2_some ?_
    | refine K2_ite ?_ ?_
    | refine K2_rset ?_ ?_
    | refine K2_rputZ ?_ (by decide) ?_
    | refine K2_gbW ?_ ?_
    | refine K2_loop ?_ _ _ _ ?_
    | apply h2_g_take_b4
    | refine K2_bind ?_
    | intro _
    | split)
theorem h2_g_spread_b26 (n : Nat) (x1 : Int32) (x2 : Int32) (x : (Int32)) (h : rS) (H : H2 h) : K2 (g_spread_b26 n x1 x2 x h) := by
  unfold g_spread_b26
  try dsimp only
  repeat' (with_reducible first
    | assumption
    | exact K2_none
    | exact H2_mask
    | refine H2_put ?_ (by decide)
    | refine K2_some ?_
    | refine K2_ite ?_ ?_
    | refine K2_rset ?_ ?_
    | refine K2_rputZ ?_ (by decide) ?_
    | refine K2_gbW ?_ ?_
    | refine K2_loop ?_ _ _ _ ?_
    | refine K2_bind ?_
    | intro _
    | split)
theorem h2_g_spread (n : Nat) (i1 : Int32) (i2 : Int32) (h : rS) (H : H2 h) : K2 (g_spread n i1 i2 h) := by
  unfold g_spread
  try dsimp only
  repeat' (with_reducible first
    | assumption
    | exact K2_none
    | exact H2_mask
    | refine H2_put ?_ (by decide)
    | refine K2_some ?_
    | refine K2_ite ?_ ?_
    | refine K2_rset ?_ ?_
    | refine K2_rputZ ?_ (by decide) ?_
    | refine K2_gbW ?_ ?_
    | refine K2_loop ?_ _ _ _ ?_
    | apply h2_g_spread_b26
    | refine K2_bind ?_
    | intro _
    | split)
theorem h2_g_set (i1 : Int32) (i2 : Int32) (h : rS) (H : H2 h) : K2 (g_set i1 i2 h) := by
  unfold g_set
  try dsimp only
  repeat' (with_reducible first
    | assumption
    | exact K2_none
    | exact H2_mask
    | refine H2_put ?_ (by decide)
    | refine K2_some ?_
    | refine K2_ite ?_ ?_
    | refine K2_rset ?_ ?_
    | refine K2_rputZ ?_ (by decide) ?_
    | refine K2_gbW ?_ ?_
    | refine K2_loop ?_ _ _ _ ?_
    | refine K2_bind ?_
    | intro _
    | split)
theorem h2_g_isThere_j50  (h : rS) (H : H2 h) : K2 (g_isThere_j50 h) := by
  unfold g_isThere_j50
  try dsimp only
  repeat' (with_reducible first
    | assumption
    | exact K2_none
    | exact H2_mask
    | refine H2_put ?_ (by decide)
    | refine K2_some ?_
    | refine K2_ite ?_ ?_
    | refine K2_rset ?_ ?_
    | refine K2_rputZ ?_ (by decide) ?_
    | refine K2_gbW ?_ ?_
    | refine K2_loop ?_ _ _ _ ?_
    | apply h2_g_mark
    | refine K2_bind ?_
    | intro _
    | split)
theorem h2_g_isThere_j36 (x1 : Int32) (x2 : Int32) (h : rS) (H : H2 h) : K2 (g_isThere_j36 x1 x2 h) := by
  unfold g_isThere_j36
  try dsimp only
  repeat' (with_reducible first
    | assumption
    | exact K2_none
    | exact H2_mask
    | refine H2_put ?_ (by decide)
    | refine K2_some ?_
    | refine K2_ite ?_ ?_
    | refine K2_rset ?_ ?_
    | refine K2_rputZ ?_ (by decide) ?_
    | refine K2_gbW ?_ ?_
    | refine K2_loop ?_ _ _ _ ?_
    | apply h2_g_isThere_j50
    | refine K2_bind ?_
    | intro _
    | split)
theorem h2_g_isThere (i1 : Int32) (i2 : Int32) (h : rS) (H : H2 h) : K2 (g_isThere i1 i2 h) := by
  unfold g_isThere
  try dsimp only
  repeat' (with_reducible first
    | assumption
    | exact K2_none
    | exact H2_mask
    | refine H2_put ?_ (by decide)
    | refine K2_some ?_
    | refine K2_ite ?_ ?_
    | refine K2_rset ?_ ?_
    | refine K2_rputZ ?_ (by decide) ?_
    | refine K2_gbW ?_ ?_
    | refine K2_loop ?_ _ _ _ ?_
    | apply h2_g_mark
    | apply h2_g_isThere_j50
    | apply h2_g_isThere_j36
    | refine K2_bind ?_
    | intro _
    | split)
theorem h2_g_give (i1 : Int32) (i2 : Int32) (h : rS) (H : H2 h) : K2 (g_give i1 i2 h) := by
  unfold g_give
  try dsimp only
  repeat' (with_reducible first
    | assumption
    | exact K2_none
    | exact H2_mask
    | refine H2_put ?_ (by decide)
    | refine K2_some ?_
    | refine K2_ite ?_ ?_
    | refine K2_rset ?_ ?_
    | refine K2_rputZ ?_ (by decide) ?_
    | refine K2_gbW ?_ ?_
    | refine K2_loop ?_ _ _ _ ?_
    | apply h2_g_mark
    | refine K2_bind ?_
    | intro _
    | split)
theorem h2_g_plain_j174 (n : Nat) (x1 : Int32) (x3 : Int32) (x4 : Int32) (x5 : Int32) (h : rS) (H : H2 h) : K2 (g_plain_j174 n x1 x3 x4 x5 h) := by
  unfold g_plain_j174
  try dsimp only
  repeat' (with_reducible first
    | assumption
    | exact K2_none
    | exact H2_mask
    | refine H2_put ?_ (by decide)
    | refine K2_some ?_
    | refine K2_ite ?_ ?_
    | refine K2_rset ?_ ?_
    | refine K2_rputZ ?_ (by decide) ?_
    | refine K2_gbW ?_ ?_
    | refine K2_loop ?_ _ _ _ ?_
    | refine K2_bind ?_
    | intro _
    | split)
theorem h2_g_plain_j155 (n : Nat) (x1 : Int32) (x3 : Int32) (x4 : Int32) (y0 : Int32) (y1 : Int32) (h : rS) (H : H2 h) : K2 (g_plain_j155 n x1 x3 x4 y0 y1 h) := by
  unfold g_plain_j155
  try dsimp only
  repeat' (with_reducible first
    | assumption
    | exact K2_none
    | exact H2_mask
    | refine H2_put ?_ (by decide)
    | refine K2_some ?_
    | refine K2_ite ?_ ?_
    | refine K2_rset ?_ ?_
    | refine K2_rputZ ?_ (by decide) ?_
    | refine K2_gbW ?_ ?_
    | refine K2_loop ?_ _ _ _ ?_
    | apply h2_g_give
    | apply h2_g_plain_j174
    | refine K2_bind ?_
    | intro _
    | split)
theorem h2_g_plain_b98 (n : Nat) (x1 : Int32) (x3 : Int32) (x : (Int32 × Int32)) (h : rS) (H : H2 h) : K2 (g_plain_b98 n x1 x3 x h) := by
  unfold g_plain_b98
  try dsimp only
  repeat' (with_reducible first
    | assumption
    | exact K2_none
    | exact H2_mask
    | refine H2_put ?_ (by decide)
    | refine K2_some ?_
    | refine K2_ite ?_ ?_
    | refine K2_rset ?_ ?_
    | refine K2_rputZ ?_ (by decide) ?_
    | refine K2_gbW ?_ ?_
    | refine K2_loop ?_ _ _ _ ?_
    | apply h2_g_isThere
    | apply h2_g_plain_j155
    | refine K2_bind ?_
    | intro _
    | split)
theorem h2_g_plain_b3 (n : Nat) (x1 : Int32) (x3 : Int32) (x : (Int32)) (h : rS) (H : H2 h) : K2 (g_plain_b3 n x1 x3 x h) := by
  unfold g_plain_b3
  try dsimp only
  repeat' (with_reducible first
    | assumption
    | exact K2_none
    | exact H2_mask
    | refine H2_put ?_ (by decide)
    | refine K2_some ?_
    | refine K2_ite ?_ ?_
    | refine K2_rset ?_ ?_
    | refine K2_rputZ ?_ (by decide) ?_
    | refine K2_gbW ?_ ?_
    | refine K2_loop ?_ _ _ _ ?_
    | refine K2_bind ?_
    | intro _
    | split)
theorem h2_g_plain (n : Nat) (i1 : Int32) (i2 : Int32) (i3 : Int32) (h : rS) (H : H2 h) : K2 (g_plain n i1 i2 i3 h) := by
  unfold g_plain
  try dsimp only
  repeat' (with_reducible first
    | assumption
    | exact K2_none
    | exact H2_mask
    | refine H2_put ?_ (by decide)
    | refine K2_some ?_
    | refine K2_ite ?_ ?_
    | refine K2_rset ?_ ?_
    | refine K2_rputZ ?_ (by decide) ?_
    | refine K2_gbW ?_ ?_
    | refine K2_loop ?_ _ _ _ ?_
    | apply h2_g_mark
    | apply h2_g_isThere
    | apply h2_g_give
    | apply h2_g_plain_b98
    | apply h2_g_plain_b3
    | refine K2_bind ?_
    | intro _
    | split)
theorem h2_g_delimited_j226 (n : Nat) (x2 : Int32) (x5 : Int32) (h : rS) (H : H2 h) : K2 (g_delimited_j226 n x2 x5 h) := by
  unfold g_delimited_j226
  try dsimp only
  repeat' (with_reducible first
    | assumption
    | exact K2_none
    | exact H2_mask
    | refine H2_put ?_ (by decide)
    | refine K2_some ?_
    | refine K2_ite ?_ ?_
    | refine K2_rset ?_ ?_
    | refine K2_rputZ ?_ (by decide) ?_
    | refine K2_gbW ?_ ?_
    | refine K2_loop ?_ _ _ _ ?_
    | refine K2_bind ?_
    | intro _
    | split)
theorem h2_g_delimited_b181 (n : Nat) (x1 : Int32) (x2 : Int32) (x5 : Int32) (x : (Int32)) (h : rS) (H : H2 h) : K2 (g_delimited_b181 n x1 x2 x5 x h) := by
  unfold g_delimited_b181
  try dsimp only
  repeat' (with_reducible first
    | assumption
    | exact K2_none
    | exact H2_mask
    | refine H2_put ?_ (by decide)
    | refine K2_some ?_
    | refine K2_ite ?_ ?_
    | refine K2_rset ?_ ?_
    | refine K2_rputZ ?_ (by decide) ?_
    | refine K2_gbW ?_ ?_
    | refine K2_loop ?_ _ _ _ ?_
    | refine K2_bind ?_
    | intro _
    | split)
theorem h2_g_delimited_j140 (n : Nat) (x1 : Int32) (x2 : Int32) (x3 : Int32) (x4 : Int32) (x5 : Int32) (x6 : Int32) (x7 : Int32) (h : rS) (H : H2 h) : K2 (g_delimited_j140 n x1 x2 x3 x4 x5 x6 x7 h) := by
  unfold g_delimited_j140
  try dsimp only
  repeat' (with_reducible first
    | assumption
    | exact K2_none
    | exact H2_mask
    | refine H2_put ?_ (by decide)
    | refine K2_some ?_
    | refine K2_ite ?_ ?_
    | refine K2_rset ?_ ?_
    | refine K2_rputZ ?_ (by decide) ?_
    | refine K2_gbW ?_ ?_
    | refine K2_loop ?_ _ _ _ ?_
    | refine K2_bind ?_
    | intro _
    | split)
theorem h2_g_delimited_j130 (n : Nat) (x1 : Int32) (x2 : Int32) (x3 : Int32) (x4 : Int32) (x5 : Int32) (x7 : Int32) (x8 : Int32) (y0 : Int32) (y1 : Int32) (h : rS) (H : H2 h) : K2 (g_delimited_j130 n x1 x2 x3 x4 x5 x7 x8 y0 y1 h) := by
  unfold g_delimited_j130
  try dsimp only
  repeat' (with_reducible first
    | assumption
    | exact K2_none
    | exact H2_mask
    | refine H2_put ?_ (by decide)
    | refine K2_some ?_
    | refine K2_ite ?_ ?_
    | refine K2_rset ?_ ?_
    | refine K2_rputZ ?_ (by decide) ?_
    | refine K2_gbW ?_ ?_
    | refine K2_loop ?_ _ _ _ ?_
    | apply h2_g_give
    | apply h2_g_delimited_j140
    | refine K2_bind ?_
    | intro _
    | split)
theorem h2_g_delimited_j103 (n : Nat) (x1 : Int32) (x2 : Int32) (x3 : Int32) (x4 : Int32) (x5 : Int32) (x6 : Int32) (x7 : Int32) (x8 : Int32) (h : rS) (H : H2 h) : K2 (g_delimited_j103 n x1 x2 x3 x4 x5 x6 x7 x8 h) := by
  unfold g_delimited_j103
  try dsimp only
  repeat' (with_reducible first
    | assumption
    | exact K2_none
    | exact H2_mask
    | refine H2_put ?_ (by decide)
    | refine K2_some ?_
    | refine K2_ite ?_ ?_
    | refine K2_rset ?_ ?_
    | refine K2_rputZ ?_ (by decide) ?_
    | refine K2_gbW ?_ ?_
    | refine K2_loop ?_ _ _ _ ?_
    | apply h2_g_delimited_j130
    | refine K2_bind ?_
    | intro _
    | split)
theorem h2_g_delimited_j79 (n : Nat) (x1 : Int32) (x2 : Int32) (x3 : Int32) (x4 : Int32) (x5 : Int32) (x6 : Int32) (x8 : Int32) (y0 : Int32) (h : rS) (H : H2 h) : K2 (g_delimited_j79 n x1 x2 x3 x4 x5 x6 x8 y0 h) := by
  unfold g_delimited_j79
  try dsimp only
  repeat' (with_reducible first
    | assumption
    | exact K2_none
    | exact H2_mask
    | refine H2_put ?_ (by decide)
    | refine K2_some ?_
    | refine K2_ite ?_ ?_
    | refine K2_rset ?_ ?_
    | refine K2_rputZ ?_ (by decide) ?_
    | refine K2_gbW ?_ ?_
    | refine K2_loop ?_ _ _ _ ?_
    | apply h2_g_mark
    | apply h2_g_delimited_j140
    | apply h2_g_delimited_j103
    | refine K2_bind ?_
    | intro _
    | split)
theorem h2_g_delimited_j78 (n : Nat) (x1 : Int32) (x2 : Int32) (x3 : Int32) (x4 : Int32) (x5 : Int32) (x6 : Int32) (x8 : Int32) (h : rS) (H : H2 h) : K2 (g_delimited_j78 n x1 x2 x3 x4 x5 x6 x8 h) := by
  unfold g_delimited_j78
  try dsimp only
  repeat' (with_reducible first
    | assumption
    | exact K2_none
    | exact H2_mask
    | refine H2_put ?_ (by decide)
    | refine K2_some ?_
    | refine K2_ite ?_ ?_
    | refine K2_rset ?_ ?_
    | refine K2_rputZ ?_ (by decide) ?_
    | refine K2_gbW ?_ ?_
    | refine K2_loop ?_ _ _ _ ?_
    | apply h2_g_delimited_j79
    | refine K2_bind ?_
    | intro _
    | split)
theorem h2_g_delimited_j74 (n : Nat) (x1 : Int32) (x2 : Int32) (x3 : Int32) (x4 : Int32) (x5 : Int32) (x6 : Int32) (x8 : Int32) (h : rS) (H : H2 h) : K2 (g_delimited_j74 n x1 x2 x3 x4 x5 x6 x8 h) := by
  unfold g_delimited_j74
  try dsimp only
  repeat' (with_reducible first
    | assumption
    | exact K2_none
    | exact H2_mask
    | refine H2_put ?_ (by decide)
    | refine K2_some ?_
    | refine K2_ite ?_ ?_
    | refine K2_rset ?_ ?_
    | refine K2_rputZ ?_ (by decide) ?_
    | refine K2_gbW ?_ ?_
    | refine K2_loop ?_ _ _ _ ?_
    | apply h2_g_delimited_j79
    | refine K2_bind ?_
    | intro _
    | split)
theorem h2_g_delimited_j31 (n : Nat) (x1 : Int32) (x2 : Int32) (x3 : Int32) (x4 : Int32) (x5 : Int32) (x6 : Int32) (x7 : Int32) (h : rS) (H : H2 h) : K2 (g_delimited_j31 n x1 x2 x3 x4 x5 x6 x7 h) := by
  unfold g_delimited_j31
  try dsimp only
  repeat' (with_reducible first
    | assumption
    | exact K2_none
    | exact H2_mask
    | refine H2_put ?_ (by decide)
    | refine K2_some ?_
    | refine K2_ite ?_ ?_
    | refine K2_rset ?_ ?_
    | refine K2_rputZ ?_ (by decide) ?_
    | refine K2_gbW ?_ ?_
    | refine K2_loop ?_ _ _ _ ?_
    | apply h2_g_isThere
    | apply h2_g_delimited_j78
    | apply h2_g_delimited_j74
    | refine K2_bind ?_
    | intro _
    | split)
theorem h2_g_delimited_b9 (n : Nat) (x1 : Int32) (x2 : Int32) (x3 : Int32) (x4 : Int32) (x : (Int32 × Int32 × Int32)) (h : rS) (H : H2 h) : K2 (g_delimited_b9 n x1 x2 x3 x4 x h) := by
  unfold g_delimited_b9
  try dsimp only
  repeat' (with_reducible first
    | assumption
    | exact K2_none
    | exact H2_mask
    | refine H2_put ?_ (by decide)
    | refine K2_some ?_
    | refine K2_ite ?_ ?_
    | refine K2_rset ?_ ?_
    | refine K2_rputZ ?_ (by decide) ?_
    | refine K2_gbW ?_ ?_
    | refine K2_loop ?_ _ _ _ ?_
    | apply h2_g_delimited_j31
    | refine K2_bind ?_
    | intro _
    | split)
theorem h2_g_delimited (n : Nat) (i1 : Int32) (i2 : Int32) (i3 : Int32) (i4 : Int32) (h : rS) (H : H2 h) : K2 (g_delimited n i1 i2 i3 i4 h) := by
  unfold g_delimited
  try dsimp only
  repeat' (with_reducible first
    | assumption
    | exact K2_none
    | exact H2_mask
    | refine H2_put ?_ (by decide)
    | refine K2_some ?_
    | refine K2_ite ?_ ?_
    | refine K2_rset ?_ ?_
    | refine K2_rputZ ?_ (by decide) ?_
    | refine K2_gbW ?_ ?_
    | refine K2_loop ?_ _ _ _ ?_
    | apply h2_g_delimited_j226
    | apply h2_g_delimited_b181
    | apply h2_g_delimited_b9
    | refine K2_bind ?_
    | intro _
    | split)
theorem h2_g_expandName_j501 (n : Nat) (x2 : Int32) (h : rS) (H : H2 h) : K2 (g_expandName_j501 n x2 h) := by
  unfold g_expandName_j501
  try dsimp only
  repeat' (with_reducible first
    | assumption
    | exact K2_none
    | exact H2_mask
    | refine H2_put ?_ (by decide)
    | refine K2_some ?_
    | refine K2_ite ?_ ?_
    | refine K2_rset ?_ ?_
    | refine K2_rputZ ?_ (by decide) ?_
    | refine K2_gbW ?_ ?_
    | refine K2_loop ?_ _ _ _ ?_
    | refine K2_bind ?_
    | intro _
    | split)
theorem h2_g_expandName_j433 (n : Nat) (x2 : Int32) (x3 : Int32) (x6 : Int32) (x7 : Int32) (x8 : Int32) (x9 : Int32) (x10 : Int32) (h : rS) (H : H2 h) : K2 (g_expandName_j433 n x2 x3 x6 x7 x8 x9 x10 h) := by
  unfold g_expandName_j433
  try dsimp only
  repeat' (with_reducible first
    | assumption
    | exact K2_none
    | exact H2_mask
    | refine H2_put ?_ (by decide)
    | refine K2_some ?_
    | refine K2_ite ?_ ?_
    | refine K2_rset ?_ ?_
    | refine K2_rputZ ?_ (by decide) ?_
    | refine K2_gbW ?_ ?_
    | refine K2_loop ?_ _ _ _ ?_
    | refine K2_bind ?_
    | intro _
    | split)
theorem h2_g_expandName_j427 (n : Nat) (x2 : Int32) (x3 : Int32) (x6 : Int32) (x7 : Int32) (x8 : Int32) (x9 : Int32) (x10 : Int32) (y1 : Int32) (y2 : Int32) (h : rS) (H : H2 h) : K2 (g_expandName_j427 n x2 x3 x6 x7 x8 x9 x10 y1 y2 h) := by
  unfold g_expandName_j427
  try dsimp only
  repeat' (with_reducible first
    | assumption
    | exact K2_none
    | exact H2_mask
    | refine H2_put ?_ (by decide)
    | refine K2_some ?_
    | refine K2_ite ?_ ?_
    | refine K2_rset ?_ ?_
    | refine K2_rputZ ?_ (by decide) ?_
    | refine K2_gbW ?_ ?_
    | refine K2_loop ?_ _ _ _ ?_
    | apply h2_g_set
    | apply h2_g_expandName_j433
    | refine K2_bind ?_
    | intro _
    | split)
theorem h2_g_expandName_b351 (n : Nat) (x2 : Int32) (x3 : Int32) (x6 : Int32) (x7 : Int32) (x8 : Int32) (x10 : Int32) (x12 : Int32) (x : (Int32 × Int32)) (h : rS) (H : H2 h) : K2 (g_expandName_b351 n x2 x3 x6 x7 x8 x10 x12 x h) := by
  unfold g_expandName_b351
  try dsimp only
  repeat' (with_reducible first
    | assumption
    | exact K2_none
    | exact H2_mask
    | refine H2_put ?_ (by decide)
    | refine K2_some ?_
    | refine K2_ite ?_ ?_
    | refine K2_rset ?_ ?_
    | refine K2_rputZ ?_ (by decide) ?_
    | refine K2_gbW ?_ ?_
    | refine K2_loop ?_ _ _ _ ?_
    | apply h2_g_set
    | refine K2_bind ?_
    | intro _
    | split)
theorem h2_g_expandName_b300 (n : Nat) (x2 : Int32) (x3 : Int32) (x6 : Int32) (x7 : Int32) (x8 : Int32) (x : (Int32 × Int32)) (h : rS) (H : H2 h) : K2 (g_expandName_b300 n x2 x3 x6 x7 x8 x h) := by
  unfold g_expandName_b300
  try dsimp only
  repeat' (with_reducible first
    | assumption
    | exact K2_none
    | exact H2_mask
    | refine H2_put ?_ (by decide)
    | refine K2_some ?_
    | refine K2_ite ?_ ?_
    | refine K2_rset ?_ ?_
    | refine K2_rputZ ?_ (by decide) ?_
    | refine K2_gbW ?_ ?_
    | refine K2_loop ?_ _ _ _ ?_
    | apply h2_g_expandName_j433
    | apply h2_g_expandName_j427
    | apply h2_g_expandName_b351
    | refine K2_bind ?_
    | intro _
    | split)
theorem h2_g_expandName_j264 (n : Nat) (x1 : Int32) (x2 : Int32) (x3 : Int32) (x5 : Int32) (x6 : Int32) (x7 : Int32) (h : rS) (H : H2 h) : K2 (g_expandName_j264 n x1 x2 x3 x5 x6 x7 h) := by
  unfold g_expandName_j264
  try dsimp only
  repeat' (with_reducible first
    | assumption
    | exact K2_none
    | exact H2_mask
    | refine H2_put ?_ (by decide)
    | refine K2_some ?_
    | refine K2_ite ?_ ?_
    | refine K2_rset ?_ ?_
    | refine K2_rputZ ?_ (by decide) ?_
    | refine K2_gbW ?_ ?_
    | refine K2_loop ?_ _ _ _ ?_
    | apply h2_g_take
    | apply h2_g_spread
    | apply h2_g_expandName_j501
    | apply h2_g_expandName_b300
    | refine K2_bind ?_
    | intro _
    | split)
theorem h2_g_expandName_j226 (n : Nat) (x1 : Int32) (x2 : Int32) (x3 : Int32) (x5 : Int32) (x6 : Int32) (y0 : Int32) (h : rS) (H : H2 h) : K2 (g_expandName_j226 n x1 x2 x3 x5 x6 y0 h) := by
  unfold g_expandName_j226
  try dsimp only
  repeat' (with_reducible first
    | assumption
    | exact K2_none
    | exact H2_mask
    | refine H2_put ?_ (by decide)
    | refine K2_some ?_
    | refine K2_ite ?_ ?_
    | refine K2_rset ?_ ?_
    | refine K2_rputZ ?_ (by decide) ?_
    | refine K2_gbW ?_ ?_
    | refine K2_loop ?_ _ _ _ ?_
    | apply h2_g_mark
    | apply h2_g_expandName_j264
    | refine K2_bind ?_
    | intro _
    | split)
theorem h2_g_expandName_j190 (n : Nat) (x1 : Int32) (x2 : Int32) (x3 : Int32) (x4 : Int32) (x6 : Int32) (x7 : Int32) (y0 : Int32) (h : rS) (H : H2 h) : K2 (g_expandName_j190 n x1 x2 x3 x4 x6 x7 y0 h) := by
  unfold g_expandName_j190
  try dsimp only
  repeat' (with_reducible first
    | assumption
    | exact K2_none
    | exact H2_mask
    | refine H2_put ?_ (by decide)
    | refine K2_some ?_
    | refine K2_ite ?_ ?_
    | refine K2_rset ?_ ?_
    | refine K2_rputZ ?_ (by decide) ?_
    | refine K2_gbW ?_ ?_
    | refine K2_loop ?_ _ _ _ ?_
    | refine K2_bind ?_
    | intro _
    | split)
theorem h2_g_expandName_b119 (n : Nat) (x1 : Int32) (x2 : Int32) (x3 : Int32) (x4 : Int32) (x : (Int32 × Int32 × Int32)) (h : rS) (H : H2 h) : K2 (g_expandName_b119 n x1 x2 x3 x4 x h) := by
  unfold g_expandName_b119
  try dsimp only
  repeat' (with_reducible first
    | assumption
    | exact K2_none
    | exact H2_mask
    | refine H2_put ?_ (by decide)
    | refine K2_some ?_
    | refine K2_ite ?_ ?_
    | refine K2_rset ?_ ?_
    | refine K2_rputZ ?_ (by decide) ?_
    | refine K2_gbW ?_ ?_
    | refine K2_loop ?_ _ _ _ ?_
    | apply h2_g_plain
    | apply h2_g_delimited
    | apply h2_g_expandName_j190
    | refine K2_bind ?_
    | intro _
    | split)
theorem h2_g_expandName_j104 (n : Nat) (x1 : Int32) (x2 : Int32) (x3 : Int32) (x4 : Int32) (x5 : Int32) (x6 : Int32) (h : rS) (H : H2 h) : K2 (g_expandName_j104 n x1 x2 x3 x4 x5 x6 h) := by
  unfold g_expandName_j104
  try dsimp only
  repeat' (with_reducible first
    | assumption
    | exact K2_none
    | exact H2_mask
    | refine H2_put ?_ (by decide)
    | refine K2_some ?_
    | refine K2_ite ?_ ?_
    | refine K2_rset ?_ ?_
    | refine K2_rputZ ?_ (by decide) ?_
    | refine K2_gbW ?_ ?_
    | refine K2_loop ?_ _ _ _ ?_
    | refine K2_bind ?_
    | intro _
    | split)
theorem h2_g_expandName_b46 (n : Nat) (x1 : Int32) (x2 : Int32) (x3 : Int32) (x4 : Int32) (x : (Int32 × Int32)) (h : rS) (H : H2 h) : K2 (g_expandName_b46 n x1 x2 x3 x4 x h) := by
  unfold g_expandName_b46
  try dsimp only
  repeat' (with_reducible first
    | assumption
    | exact K2_none
    | exact H2_mask
    | refine H2_put ?_ (by decide)
    | refine K2_some ?_
    | refine K2_ite ?_ ?_
    | refine K2_rset ?_ ?_
    | refine K2_rputZ ?_ (by decide) ?_
    | refine K2_gbW ?_ ?_
    | refine K2_loop ?_ _ _ _ ?_
    | apply h2_g_mark
    | apply h2_g_isThere
    | apply h2_g_expandName_j104
    | refine K2_bind ?_
    | intro _
    | split)
theorem h2_g_expandName_j36 (n : Nat) (x1 : Int32) (x2 : Int32) (x3 : Int32) (y0 : Int32) (h : rS) (H : H2 h) : K2 (g_expandName_j36 n x1 x2 x3 y0 h) := by
  unfold g_expandName_j36
  try dsimp only
  repeat' (with_reducible first
    | assumption
    | exact K2_none
    | exact H2_mask
    | refine H2_put ?_ (by decide)
    | refine K2_some ?_
    | refine K2_ite ?_ ?_
    | refine K2_rset ?_ ?_
    | refine K2_rputZ ?_ (by decide) ?_
    | refine K2_gbW ?_ ?_
    | refine K2_loop ?_ _ _ _ ?_
    | apply h2_g_expandName_j226
    | apply h2_g_expandName_b119
    | apply h2_g_expandName_b46
    | refine K2_bind ?_
    | intro _
    | split)
theorem h2_g_expandName (n : Nat) (i1 : Int32) (h : rS) (H : H2 h) : K2 (g_expandName n i1 h) := by
  unfold g_expandName
  try dsimp only
  repeat' (with_reducible first
    | assumption
    | exact K2_none
    | exact H2_mask
    | refine H2_put ?_ (by decide)
    | refine K2_some ?_
    | refine K2_ite ?_ ?_
    | refine K2_rset ?_ ?_
    | refine K2_rputZ ?_ (by decide) ?_
    | refine K2_gbW ?_ ?_
    | refine K2_loop ?_ _ _ _ ?_
    | apply h2_g_expandName_j36
    | refine K2_bind ?_
    | intro _
    | split)
theorem h2_g_nameOf_b117 (n : Nat) (x1 : Int32) (x2 : Int32) (x : (Int32)) (h : rS) (H : H2 h) : K2 (g_nameOf_b117 n x1 x2 x h) := by
  unfold g_nameOf_b117
  try dsimp only
  repeat' (with_reducible first
    | assumption
    | exact K2_none
    | exact H2_mask
    | refine H2_put ?_ (by decide)
    | refine K2_some ?_
    | refine K2_ite ?_ ?_
    | refine K2_rset ?_ ?_
    | refine K2_rputZ ?_ (by decide) ?_
    | refine K2_gbW ?_ ?_
    | refine K2_loop ?_ _ _ _ ?_
    | refine K2_bind ?_
    | intro _
    | split)
theorem h2_g_nameOf_j73 (n : Nat) (x1 : Int32) (x2 : Int32) (x3 : Int32) (x5 : Int32) (y0 : Int32) (h : rS) (H : H2 h) : K2 (g_nameOf_j73 n x1 x2 x3 x5 y0 h) := by
  unfold g_nameOf_j73
  try dsimp only
  repeat' (with_reducible first
    | assumption
    | exact K2_none
    | exact H2_mask
    | refine H2_put ?_ (by decide)
    | refine K2_some ?_
    | refine K2_ite ?_ ?_
    | refine K2_rset ?_ ?_
    | refine K2_rputZ ?_ (by decide) ?_
    | refine K2_gbW ?_ ?_
    | refine K2_loop ?_ _ _ _ ?_
    | refine K2_bind ?_
    | intro _
    | split)
theorem h2_g_nameOf_b30 (n : Nat) (x1 : Int32) (x2 : Int32) (x3 : Int32) (x : (Int32 × Int32)) (h : rS) (H : H2 h) : K2 (g_nameOf_b30 n x1 x2 x3 x h) := by
  unfold g_nameOf_b30
  try dsimp only
  repeat' (with_reducible first
    | assumption
    | exact K2_none
    | exact H2_mask
    | refine H2_put ?_ (by decide)
    | refine K2_some ?_
    | refine K2_ite ?_ ?_
    | refine K2_rset ?_ ?_
    | refine K2_rputZ ?_ (by decide) ?_
    | refine K2_gbW ?_ ?_
    | refine K2_loop ?_ _ _ _ ?_
    | apply h2_g_nameOf_j73
    | refine K2_bind ?_
    | intro _
    | split)
theorem h2_g_nameOf_j25 (n : Nat) (x1 : Int32) (x2 : Int32) (x3 : Int32) (y0 : Int32) (h : rS) (H : H2 h) : K2 (g_nameOf_j25 n x1 x2 x3 y0 h) := by
  unfold g_nameOf_j25
  try dsimp only
  repeat' (with_reducible first
    | assumption
    | exact K2_none
    | exact H2_mask
    | refine H2_put ?_ (by decide)
    | refine K2_some ?_
    | refine K2_ite ?_ ?_
    | refine K2_rset ?_ ?_
    | refine K2_rputZ ?_ (by decide) ?_
    | refine K2_gbW ?_ ?_
    | refine K2_loop ?_ _ _ _ ?_
    | apply h2_g_nameOf_b30
    | refine K2_bind ?_
    | intro _
    | split)
theorem h2_g_nameOf_b2 (n : Nat) (x1 : Int32) (x2 : Int32) (x : (Int32)) (h : rS) (H : H2 h) : K2 (g_nameOf_b2 n x1 x2 x h) := by
  unfold g_nameOf_b2
  try dsimp only
  repeat' (with_reducible first
    | assumption
    | exact K2_none
    | exact H2_mask
    | refine H2_put ?_ (by decide)
    | refine K2_some ?_
    | refine K2_ite ?_ ?_
    | refine K2_rset ?_ ?_
    | refine K2_rputZ ?_ (by decide) ?_
    | refine K2_gbW ?_ ?_
    | refine K2_loop ?_ _ _ _ ?_
    | apply h2_g_nameOf_j25
    | refine K2_bind ?_
    | intro _
    | split)
theorem h2_g_nameOf (n : Nat) (i1 : Int32) (i2 : Int32) (h : rS) (H : H2 h) : K2 (g_nameOf n i1 i2 h) := by
  unfold g_nameOf
  try dsimp only
  repeat' (with_reducible first
    | assumption
    | exact K2_none
    | exact H2_mask
    | refine H2_put ?_ (by decide)
    | refine K2_some ?_
    | refine K2_ite ?_ ?_
    | refine K2_rset ?_ ?_
    | refine K2_rputZ ?_ (by decide) ?_
    | refine K2_gbW ?_ ?_
    | refine K2_loop ?_ _ _ _ ?_
    | apply h2_g_mark
    | apply h2_g_nameOf_b117
    | apply h2_g_nameOf_b2
    | refine K2_bind ?_
    | intro _
    | split)
theorem h2_g_pile (i1 : Int32) (i2 : Int32) (h : rS) (H : H2 h) : K2 (g_pile i1 i2 h) := by
  unfold g_pile
  try dsimp only
  repeat' (with_reducible first
    | assumption
    | exact K2_none
    | exact H2_mask
    | refine H2_put ?_ (by decide)
    | refine K2_some ?_
    | refine K2_ite ?_ ?_
    | refine K2_rset ?_ ?_
    | refine K2_rputZ ?_ (by decide) ?_
    | refine K2_gbW ?_ ?_
    | refine K2_loop ?_ _ _ _ ?_
    | refine K2_bind ?_
    | intro _
    | split)
theorem h2_g_start_j222 (n : Nat) (x2 : Int32) (x3 : Int32) (h : rS) (H : H2 h) : K2 (g_start_j222 n x2 x3 h) := by
  unfold g_start_j222
  try dsimp only
  repeat' (with_reducible first
    | assumption
    | exact K2_none
    | exact H2_mask
    | refine H2_put ?_ (by decide)
    | refine K2_some ?_
    | refine K2_ite ?_ ?_
    | refine K2_rset ?_ ?_
    | refine K2_rputZ ?_ (by decide) ?_
    | refine K2_gbW ?_ ?_
    | refine K2_loop ?_ _ _ _ ?_
    | refine K2_bind ?_
    | intro _
    | split)
theorem h2_g_start_b4 (n : Nat) (x : (Int32 × Int32)) (h : rS) (H : H2 h) : K2 (g_start_b4 n x h) := by
  unfold g_start_b4
  try dsimp only
  repeat' (with_reducible first
    | assumption
    | exact K2_none
    | exact H2_mask
    | refine H2_put ?_ (by decide)
    | refine K2_some ?_
    | refine K2_ite ?_ ?_
    | refine K2_rset ?_ ?_
    | refine K2_rputZ ?_ (by decide) ?_
    | refine K2_gbW ?_ ?_
    | refine K2_loop ?_ _ _ _ ?_
    | apply h2_g_take
    | apply h2_g_expandName
    | apply h2_g_pile
    | apply h2_g_start_j222
    | refine K2_bind ?_
    | intro _
    | split)
theorem h2_g_start (n : Nat) (i1 : Int32) (h : rS) (H : H2 h) : K2 (g_start n i1 h) := by
  unfold g_start
  try dsimp only
  repeat' (with_reducible first
    | assumption
    | exact K2_none
    | exact H2_mask
    | refine H2_put ?_ (by decide)
    | refine K2_some ?_
    | refine K2_ite ?_ ?_
    | refine K2_rset ?_ ?_
    | refine K2_rputZ ?_ (by decide) ?_
    | refine K2_gbW ?_ ?_
    | refine K2_loop ?_ _ _ _ ?_
    | apply h2_g_mark
    | apply h2_g_start_b4
    | refine K2_bind ?_
    | intro _
    | split)
theorem h2_g_goOn_j165 (n : Nat) (x1 : Int32) (x2 : Int32) (x4 : Int32) (x5 : Int32) (y0 : Int32) (h : rS) (H : H2 h) : K2 (g_goOn_j165 n x1 x2 x4 x5 y0 h) := by
  unfold g_goOn_j165
  try dsimp only
  repeat' (with_reducible first
    | assumption
    | exact K2_none
    | exact H2_mask
    | refine H2_put ?_ (by decide)
    | refine K2_some ?_
    | refine K2_ite ?_ ?_
    | refine K2_rset ?_ ?_
    | refine K2_rputZ ?_ (by decide) ?_
    | refine K2_gbW ?_ ?_
    | refine K2_loop ?_ _ _ _ ?_
    | apply h2_g_mark
    | apply h2_g_take
    | apply h2_g_spread
    | apply h2_g_set
    | apply h2_g_nameOf
    | refine K2_bind ?_
    | intro _
    | split)
theorem h2_g_goOn_j164 (n : Nat) (x1 : Int32) (x2 : Int32) (x4 : Int32) (x5 : Int32) (h : rS) (H : H2 h) : K2 (g_goOn_j164 n x1 x2 x4 x5 h) := by
  unfold g_goOn_j164
  try dsimp only
  repeat' (with_reducible first
    | assumption
    | exact K2_none
    | exact H2_mask
    | refine H2_put ?_ (by decide)
    | refine K2_some ?_
    | refine K2_ite ?_ ?_
    | refine K2_rset ?_ ?_
    | refine K2_rputZ ?_ (by decide) ?_
    | refine K2_gbW ?_ ?_
    | refine K2_loop ?_ _ _ _ ?_
    | apply h2_g_goOn_j165
    | refine K2_bind ?_
    | intro _
    | split)
theorem h2_g_goOn_j105 (n : Nat) (x1 : Int32) (x2 : Int32) (h : rS) (H : H2 h) : K2 (g_goOn_j105 n x1 x2 h) := by
  unfold g_goOn_j105
  try dsimp only
  repeat' (with_reducible first
    | assumption
    | exact K2_none
    | exact H2_mask
    | refine H2_put ?_ (by decide)
    | refine K2_some ?_
    | refine K2_ite ?_ ?_
    | refine K2_rset ?_ ?_
    | refine K2_rputZ ?_ (by decide) ?_
    | refine K2_gbW ?_ ?_
    | refine K2_loop ?_ _ _ _ ?_
    | apply h2_g_goOn_j165
    | apply h2_g_goOn_j164
    | refine K2_bind ?_
    | intro _
    | split)
theorem h2_g_goOn (n : Nat) (h : rS) (H : H2 h) : K2 (g_goOn n h) := by
  unfold g_goOn
  try dsimp only
  repeat' (with_reducible first
    | assumption
    | exact K2_none
    | exact H2_mask
    | refine H2_put ?_ (by decide)
    | refine K2_some ?_
    | refine K2_ite ?_ ?_
    | refine K2_rset ?_ ?_
    | refine K2_rputZ ?_ (by decide) ?_
    | refine K2_gbW ?_ ?_
    | refine K2_loop ?_ _ _ _ ?_
    | apply h2_g_mark
    | apply h2_g_start
    | apply h2_g_goOn_j105
    | refine K2_bind ?_
    | intro _
    | split)
theorem h2_g_expandAt_b10 (n : Nat) (x : (Unit)) (h : rS) (H : H2 h) : K2 (g_expandAt_b10 n x h) := by
  unfold g_expandAt_b10
  try dsimp only
  repeat' (with_reducible first
    | assumption
    | exact K2_none
    | exact H2_mask
    | refine H2_put ?_ (by decide)
    | refine K2_some ?_
    | refine K2_ite ?_ ?_
    | refine K2_rset ?_ ?_
    | refine K2_rputZ ?_ (by decide) ?_
    | refine K2_gbW ?_ ?_
    | refine K2_loop ?_ _ _ _ ?_
    | apply h2_g_goOn
    | refine K2_bind ?_
    | intro _
    | split)
theorem h2_g_expandAt (n : Nat) (i1 : Int32) (h : rS) (H : H2 h) : K2 (g_expandAt n i1 h) := by
  unfold g_expandAt
  try dsimp only
  repeat' (with_reducible first
    | assumption
    | exact K2_none
    | exact H2_mask
    | refine H2_put ?_ (by decide)
    | refine K2_some ?_
    | refine K2_ite ?_ ?_
    | refine K2_rset ?_ ?_
    | refine K2_rputZ ?_ (by decide) ?_
    | refine K2_gbW ?_ ?_
    | refine K2_loop ?_ _ _ _ ?_
    | apply h2_g_start
    | apply h2_g_expandAt_b10
    | refine K2_bind ?_
    | intro _
    | split)
theorem h2_g_begin  (h : rS) (H : H2 h) : K2 (g_begin h) := by
  unfold g_begin
  try dsimp only
  repeat' (with_reducible first
    | assumption
    | exact K2_none
    | exact H2_mask
    | refine H2_put ?_ (by decide)
    | refine K2_some ?_
    | refine K2_ite ?_ ?_
    | refine K2_rset ?_ ?_
    | refine K2_rputZ ?_ (by decide) ?_
    | refine K2_gbW ?_ ?_
    | refine K2_loop ?_ _ _ _ ?_
    | refine K2_bind ?_
    | intro _
    | split)
theorem h2_g_defines_b586 (n : Nat) (x3 : Int32) (x7 : Int32) (x8 : Int32) (x : (Int32)) (h : rS) (H : H2 h) : K2 (g_defines_b586 n x3 x7 x8 x h) := by
  unfold g_defines_b586
  try dsimp only
  repeat' (with_reducible first
    | assumption
    | exact K2_none
    | exact H2_mask
    | refine H2_put ?_ (by decide)
    | refine K2_some ?_
    | refine K2_ite ?_ ?_
    | refine K2_rset ?_ ?_
    | refine K2_rputZ ?_ (by decide) ?_
    | refine K2_gbW ?_ ?_
    | refine K2_loop ?_ _ _ _ ?_
    | refine K2_bind ?_
    | intro _
    | split)
theorem h2_g_defines_b557 (n : Nat) (x3 : Int32) (x7 : Int32) (x : (Int32)) (h : rS) (H : H2 h) : K2 (g_defines_b557 n x3 x7 x h) := by
  unfold g_defines_b557
  try dsimp only
  repeat' (with_reducible first
    | assumption
    | exact K2_none
    | exact H2_mask
    | refine H2_put ?_ (by decide)
    | refine K2_some ?_
    | refine K2_ite ?_ ?_
    | refine K2_rset ?_ ?_
    | refine K2_rputZ ?_ (by decide) ?_
    | refine K2_gbW ?_ ?_
    | refine K2_loop ?_ _ _ _ ?_
    | apply h2_g_defines_b586
    | refine K2_bind ?_
    | intro _
    | split)
theorem h2_g_defines_b520 (n : Nat) (x3 : Int32) (x4 : Int32) (x7 : Int32) (x : (Int32)) (h : rS) (H : H2 h) : K2 (g_defines_b520 n x3 x4 x7 x h) := by
  unfold g_defines_b520
  try dsimp only
  repeat' (with_reducible first
    | assumption
    | exact K2_none
    | exact H2_mask
    | refine H2_put ?_ (by decide)
    | refine K2_some ?_
    | refine K2_ite ?_ ?_
    | refine K2_rset ?_ ?_
    | refine K2_rputZ ?_ (by decide) ?_
    | refine K2_gbW ?_ ?_
    | refine K2_loop ?_ _ _ _ ?_
    | refine K2_bind ?_
    | intro _
    | split)
theorem h2_g_defines_j488 (n : Nat) (x2 : Int32) (x3 : Int32) (x4 : Int32) (h : rS) (H : H2 h) : K2 (g_defines_j488 n x2 x3 x4 h) := by
  unfold g_defines_j488
  try dsimp only
  repeat' (with_reducible first
    | assumption
    | exact K2_none
    | exact H2_mask
    | refine H2_put ?_ (by decide)
    | refine K2_some ?_
    | refine K2_ite ?_ ?_
    | refine K2_rset ?_ ?_
    | refine K2_rputZ ?_ (by decide) ?_
    | refine K2_gbW ?_ ?_
    | refine K2_loop ?_ _ _ _ ?_
    | apply h2_g_newMacro
    | apply h2_g_mark
    | apply h2_g_spread
    | apply h2_g_set
    | apply h2_g_defines_b557
    | apply h2_g_defines_b520
    | refine K2_bind ?_
    | intro _
    | split)
theorem h2_g_defines_j463 (n : Nat) (x1 : Int32) (x2 : Int32) (x3 : Int32) (x4 : Int32) (x6 : Int32) (h : rS) (H : H2 h) : K2 (g_defines_j463 n x1 x2 x3 x4 x6 h) := by
  unfold g_defines_j463
  try dsimp only
  repeat' (with_reducible first
    | assumption
    | exact K2_none
    | exact H2_mask
    | refine H2_put ?_ (by decide)
    | refine K2_some ?_
    | refine K2_ite ?_ ?_
    | refine K2_rset ?_ ?_
    | refine K2_rputZ ?_ (by decide) ?_
    | refine K2_gbW ?_ ?_
    | refine K2_loop ?_ _ _ _ ?_
    | refine K2_bind ?_
    | intro _
    | split)
theorem h2_g_defines_j450 (n : Nat) (x1 : Int32) (x2 : Int32) (x3 : Int32) (x4 : Int32) (x6 : Int32) (h : rS) (H : H2 h) : K2 (g_defines_j450 n x1 x2 x3 x4 x6 h) := by
  unfold g_defines_j450
  try dsimp only
  repeat' (with_reducible first
    | assumption
    | exact K2_none
    | exact H2_mask
    | refine H2_put ?_ (by decide)
    | refine K2_some ?_
    | refine K2_ite ?_ ?_
    | refine K2_rset ?_ ?_
    | refine K2_rputZ ?_ (by decide) ?_
    | refine K2_gbW ?_ ?_
    | refine K2_loop ?_ _ _ _ ?_
    | apply h2_g_take
    | apply h2_g_defines_j463
    | refine K2_bind ?_
    | intro _
    | split)
theorem h2_g_defines_j433 (n : Nat) (x1 : Int32) (x2 : Int32) (x3 : Int32) (x4 : Int32) (x6 : Int32) (x8 : Int32) (h : rS) (H : H2 h) : K2 (g_defines_j433 n x1 x2 x3 x4 x6 x8 h) := by
  unfold g_defines_j433
  try dsimp only
  repeat' (with_reducible first
    | assumption
    | exact K2_none
    | exact H2_mask
    | refine H2_put ?_ (by decide)
    | refine K2_some ?_
    | refine K2_ite ?_ ?_
    | refine K2_rset ?_ ?_
    | refine K2_rputZ ?_ (by decide) ?_
    | refine K2_gbW ?_ ?_
    | refine K2_loop ?_ _ _ _ ?_
    | apply h2_g_defines_j450
    | refine K2_bind ?_
    | intro _
    | split)
theorem h2_g_defines_j411 (n : Nat) (x1 : Int32) (x2 : Int32) (x3 : Int32) (x4 : Int32) (x6 : Int32) (x8 : Int32) (h : rS) (H : H2 h) : K2 (g_defines_j411 n x1 x2 x3 x4 x6 x8 h) := by
  unfold g_defines_j411
  try dsimp only
  repeat' (with_reducible first
    | assumption
    | exact K2_none
    | exact H2_mask
    | refine H2_put ?_ (by decide)
    | refine K2_some ?_
    | refine K2_ite ?_ ?_
    | refine K2_rset ?_ ?_
    | refine K2_rputZ ?_ (by decide) ?_
    | refine K2_gbW ?_ ?_
    | refine K2_loop ?_ _ _ _ ?_
    | apply h2_g_mark
    | apply h2_g_defines_j450
    | apply h2_g_defines_j433
    | refine K2_bind ?_
    | intro _
    | split)
theorem h2_g_defines_j375 (n : Nat) (x1 : Int32) (x2 : Int32) (x3 : Int32) (x4 : Int32) (x8 : Int32) (y0 : Int32) (y1 : Int32) (h : rS) (H : H2 h) : K2 (g_defines_j375 n x1 x2 x3 x4 x8 y0 y1 h) := by
  unfold g_defines_j375
  try dsimp only
  repeat' (with_reducible first
    | assumption
    | exact K2_none
    | exact H2_mask
    | refine H2_put ?_ (by decide)
    | refine K2_some ?_
    | refine K2_ite ?_ ?_
    | refine K2_rset ?_ ?_
    | refine K2_rputZ ?_ (by decide) ?_
    | refine K2_gbW ?_ ?_
    | refine K2_loop ?_ _ _ _ ?_
    | apply h2_g_mark
    | apply h2_g_defines_j450
    | apply h2_g_defines_j411
    | refine K2_bind ?_
    | intro _
    | split)
theorem h2_g_defines_j341 (n : Nat) (x1 : Int32) (x2 : Int32) (x3 : Int32) (x4 : Int32) (x6 : Int32) (h : rS) (H : H2 h) : K2 (g_defines_j341 n x1 x2 x3 x4 x6 h) := by
  unfold g_defines_j341
  try dsimp only
  repeat' (with_reducible first
    | assumption
    | exact K2_none
    | exact H2_mask
    | refine H2_put ?_ (by decide)
    | refine K2_some ?_
    | refine K2_ite ?_ ?_
    | refine K2_rset ?_ ?_
    | refine K2_rputZ ?_ (by decide) ?_
    | refine K2_gbW ?_ ?_
    | refine K2_loop ?_ _ _ _ ?_
    | apply h2_g_defines_j375
    | refine K2_bind ?_
    | intro _
    | split)
theorem h2_g_defines_b278 (n : Nat) (x1 : Int32) (x2 : Int32) (x3 : Int32) (x : (Int32 × Int32)) (h : rS) (H : H2 h) : K2 (g_defines_b278 n x1 x2 x3 x h) := by
  unfold g_defines_b278
  try dsimp only
  repeat' (with_reducible first
    | assumption
    | exact K2_none
    | exact H2_mask
    | refine H2_put ?_ (by decide)
    | refine K2_some ?_
    | refine K2_ite ?_ ?_
    | refine K2_rset ?_ ?_
    | refine K2_rputZ ?_ (by decide) ?_
    | refine K2_gbW ?_ ?_
    | refine K2_loop ?_ _ _ _ ?_
    | apply h2_g_mark
    | apply h2_g_expandAt
    | apply h2_g_defines_j463
    | apply h2_g_defines_j341
    | refine K2_bind ?_
    | intro _
    | split)
theorem h2_g_defines_j267 (n : Nat) (x1 : Int32) (x2 : Int32) (x3 : Int32) (x4 : Int32) (x5 : Int32) (h : rS) (H : H2 h) : K2 (g_defines_j267 n x1 x2 x3 x4 x5 h) := by
  unfold g_defines_j267
  try dsimp only
  repeat' (with_reducible first
    | assumption
    | exact K2_none
    | exact H2_mask
    | refine H2_put ?_ (by decide)
    | refine K2_some ?_
    | refine K2_ite ?_ ?_
    | refine K2_rset ?_ ?_
    | refine K2_rputZ ?_ (by decide) ?_
    | refine K2_gbW ?_ ?_
    | refine K2_loop ?_ _ _ _ ?_
    | refine K2_bind ?_
    | intro _
    | split)
theorem h2_g_defines_j254 (n : Nat) (x1 : Int32) (x2 : Int32) (x3 : Int32) (x4 : Int32) (x5 : Int32) (h : rS) (H : H2 h) : K2 (g_defines_j254 n x1 x2 x3 x4 x5 h) := by
  unfold g_defines_j254
  try dsimp only
  repeat' (with_reducible first
    | assumption
    | exact K2_none
    | exact H2_mask
    | refine H2_put ?_ (by decide)
    | refine K2_some ?_
    | refine K2_ite ?_ ?_
    | refine K2_rset ?_ ?_
    | refine K2_rputZ ?_ (by decide) ?_
    | refine K2_gbW ?_ ?_
    | refine K2_loop ?_ _ _ _ ?_
    | apply h2_g_take
    | apply h2_g_defines_j267
    | refine K2_bind ?_
    | intro _
    | split)
theorem h2_g_defines_j176 (n : Nat) (x1 : Int32) (x2 : Int32) (x3 : Int32) (x4 : Int32) (x5 : Int32) (x6 : Int32) (h : rS) (H : H2 h) : K2 (g_defines_j176 n x1 x2 x3 x4 x5 x6 h) := by
  unfold g_defines_j176
  try dsimp only
  repeat' (with_reducible first
    | assumption
    | exact K2_none
    | exact H2_mask
    | refine H2_put ?_ (by decide)
    | refine K2_some ?_
    | refine K2_ite ?_ ?_
    | refine K2_rset ?_ ?_
    | refine K2_rputZ ?_ (by decide) ?_
    | refine K2_gbW ?_ ?_
    | refine K2_loop ?_ _ _ _ ?_
    | apply h2_g_mark
    | apply h2_g_defines_j254
    | refine K2_bind ?_
    | intro _
    | split)
theorem h2_g_defines_j167 (n : Nat) (x1 : Int32) (x2 : Int32) (x3 : Int32) (x4 : Int32) (x5 : Int32) (h : rS) (H : H2 h) : K2 (g_defines_j167 n x1 x2 x3 x4 x5 h) := by
  unfold g_defines_j167
  try dsimp only
  repeat' (with_reducible first
    | assumption
    | exact K2_none
    | exact H2_mask
    | refine H2_put ?_ (by decide)
    | refine K2_some ?_
    | refine K2_ite ?_ ?_
    | refine K2_rset ?_ ?_
    | refine K2_rputZ ?_ (by decide) ?_
    | refine K2_gbW ?_ ?_
    | refine K2_loop ?_ _ _ _ ?_
    | apply h2_g_mark
    | apply h2_g_defines_j254
    | refine K2_bind ?_
    | intro _
    | split)
theorem h2_g_defines_j118 (n : Nat) (x1 : Int32) (x2 : Int32) (x3 : Int32) (x4 : Int32) (x5 : Int32) (y0 : Int32) (h : rS) (H : H2 h) : K2 (g_defines_j118 n x1 x2 x3 x4 x5 y0 h) := by
  unfold g_defines_j118
  try dsimp only
  repeat' (with_reducible first
    | assumption
    | exact K2_none
    | exact H2_mask
    | refine H2_put ?_ (by decide)
    | refine K2_some ?_
    | refine K2_ite ?_ ?_
    | refine K2_rset ?_ ?_
    | refine K2_rputZ ?_ (by decide) ?_
    | refine K2_gbW ?_ ?_
    | refine K2_loop ?_ _ _ _ ?_
    | apply h2_g_mark
    | apply h2_g_defines_j254
    | apply h2_g_defines_j176
    | apply h2_g_defines_j167
    | refine K2_bind ?_
    | intro _
    | split)
theorem h2_g_defines_b90 (n : Nat) (x1 : Int32) (x2 : Int32) (x4 : Int32) (x : (Int32 × Int32)) (h : rS) (H : H2 h) : K2 (g_defines_b90 n x1 x2 x4 x h) := by
  unfold g_defines_b90
  try dsimp only
  repeat' (with_reducible first
    | assumption
    | exact K2_none
    | exact H2_mask
    | refine H2_put ?_ (by decide)
    | refine K2_some ?_
    | refine K2_ite ?_ ?_
    | refine K2_rset ?_ ?_
    | refine K2_rputZ ?_ (by decide) ?_
    | refine K2_gbW ?_ ?_
    | refine K2_loop ?_ _ _ _ ?_
    | apply h2_g_defines_j118
    | refine K2_bind ?_
    | intro _
    | split)
theorem h2_g_defines_b63 (n : Nat) (x1 : Int32) (x2 : Int32) (x : (Int32)) (h : rS) (H : H2 h) : K2 (g_defines_b63 n x1 x2 x h) := by
  unfold g_defines_b63
  try dsimp only
  repeat' (with_reducible first
    | assumption
    | exact K2_none
    | exact H2_mask
    | refine H2_put ?_ (by decide)
    | refine K2_some ?_
    | refine K2_ite ?_ ?_
    | refine K2_rset ?_ ?_
    | refine K2_rputZ ?_ (by decide) ?_
    | refine K2_gbW ?_ ?_
    | refine K2_loop ?_ _ _ _ ?_
    | refine K2_bind ?_
    | intro _
    | split)
theorem h2_g_defines (n : Nat) (i1 : Int32) (h : rS) (H : H2 h) : K2 (g_defines n i1 h) := by
  unfold g_defines
  try dsimp only
  repeat' (with_reducible first
    | assumption
    | exact K2_none
    | exact H2_mask
    | refine H2_put ?_ (by decide)
    | refine K2_some ?_
    | refine K2_ite ?_ ?_
    | refine K2_rset ?_ ?_
    | refine K2_rputZ ?_ (by decide) ?_
    | refine K2_gbW ?_ ?_
    | refine K2_loop ?_ _ _ _ ?_
    | apply h2_g_mark
    | apply h2_g_take
    | apply h2_g_defines_j488
    | apply h2_g_defines_b278
    | apply h2_g_defines_b90
    | apply h2_g_defines_b63
    | refine K2_bind ?_
    | intro _
    | split)
theorem h2_g_carryOut_j71 (n : Nat) (y1 : Int32) (h : rS) (H : H2 h) : K2 (g_carryOut_j71 n y1 h) := by
  unfold g_carryOut_j71
  try dsimp only
  repeat' (with_reducible first
    | assumption
    | exact K2_none
    | exact H2_mask
    | refine H2_put ?_ (by decide)
    | refine K2_some ?_
    | refine K2_ite ?_ ?_
    | refine K2_rset ?_ ?_
    | refine K2_rputZ ?_ (by decide) ?_
    | refine K2_gbW ?_ ?_
    | refine K2_loop ?_ _ _ _ ?_
    | apply h2_g_defines
    | refine K2_bind ?_
    | intro _
    | split)
theorem h2_g_carryOut_j58 (n : Nat) (x1 : Int32) (h : rS) (H : H2 h) : K2 (g_carryOut_j58 n x1 h) := by
  unfold g_carryOut_j58
  try dsimp only
  repeat' (with_reducible first
    | assumption
    | exact K2_none
    | exact H2_mask
    | refine H2_put ?_ (by decide)
    | refine K2_some ?_
    | refine K2_ite ?_ ?_
    | refine K2_rset ?_ ?_
    | refine K2_rputZ ?_ (by decide) ?_
    | refine K2_gbW ?_ ?_
    | refine K2_loop ?_ _ _ _ ?_
    | apply h2_g_carryOut_j71
    | refine K2_bind ?_
    | intro _
    | split)
theorem h2_g_carryOut (n : Nat) (h : rS) (H : H2 h) : K2 (g_carryOut n h) := by
  unfold g_carryOut
  try dsimp only
  repeat' (with_reducible first
    | assumption
    | exact K2_none
    | exact H2_mask
    | refine H2_put ?_ (by decide)
    | refine K2_some ?_
    | refine K2_ite ?_ ?_
    | refine K2_rset ?_ ?_
    | refine K2_rputZ ?_ (by decide) ?_
    | refine K2_gbW ?_ ?_
    | refine K2_loop ?_ _ _ _ ?_
    | apply h2_g_mark
    | apply h2_g_take
    | apply h2_g_carryOut_j58
    | refine K2_bind ?_
    | intro _
    | split)
theorem h2_g_ended (i1 : Int32) (h : rS) (H : H2 h) : K2 (g_ended i1 h) := by
  unfold g_ended
  try dsimp only
  repeat' (with_reducible first
    | assumption
    | exact K2_none
    | exact H2_mask
    | refine H2_put ?_ (by decide)
    | refine K2_some ?_
    | refine K2_ite ?_ ?_
    | refine K2_rset ?_ ?_
    | refine K2_rputZ ?_ (by decide) ?_
    | refine K2_gbW ?_ ?_
    | refine K2_loop ?_ _ _ _ ?_
    | refine K2_bind ?_
    | intro _
    | split)
theorem h2_g_expand_j112 (n : Nat) (h : rS) (H : H2 h) : K2 (g_expand_j112 n h) := by
  unfold g_expand_j112
  try dsimp only
  repeat' (with_reducible first
    | assumption
    | exact K2_none
    | exact H2_mask
    | refine H2_put ?_ (by decide)
    | refine K2_some ?_
    | refine K2_ite ?_ ?_
    | refine K2_rset ?_ ?_
    | refine K2_rputZ ?_ (by decide) ?_
    | refine K2_gbW ?_ ?_
    | refine K2_loop ?_ _ _ _ ?_
    | apply h2_g_ended
    | refine K2_bind ?_
    | intro _
    | split)
theorem h2_g_expand_j90 (n : Nat) (h : rS) (H : H2 h) : K2 (g_expand_j90 n h) := by
  unfold g_expand_j90
  try dsimp only
  repeat' (with_reducible first
    | assumption
    | exact K2_none
    | exact H2_mask
    | refine H2_put ?_ (by decide)
    | refine K2_some ?_
    | refine K2_ite ?_ ?_
    | refine K2_rset ?_ ?_
    | refine K2_rputZ ?_ (by decide) ?_
    | refine K2_gbW ?_ ?_
    | refine K2_loop ?_ _ _ _ ?_
    | refine K2_bind ?_
    | intro _
    | split)
theorem h2_g_expand_j86 (n : Nat) (h : rS) (H : H2 h) : K2 (g_expand_j86 n h) := by
  unfold g_expand_j86
  try dsimp only
  repeat' (with_reducible first
    | assumption
    | exact K2_none
    | exact H2_mask
    | refine H2_put ?_ (by decide)
    | refine K2_some ?_
    | refine K2_ite ?_ ?_
    | refine K2_rset ?_ ?_
    | refine K2_rputZ ?_ (by decide) ?_
    | refine K2_gbW ?_ ?_
    | refine K2_loop ?_ _ _ _ ?_
    | apply h2_g_carryOut
    | apply h2_g_expand_j90
    | refine K2_bind ?_
    | intro _
    | split)
theorem h2_g_expand_b42 (n : Nat) (x : (Unit)) (h : rS) (H : H2 h) : K2 (g_expand_b42 n x h) := by
  unfold g_expand_b42
  try dsimp only
  repeat' (with_reducible first
    | assumption
    | exact K2_none
    | exact H2_mask
    | refine H2_put ?_ (by decide)
    | refine K2_some ?_
    | refine K2_ite ?_ ?_
    | refine K2_rset ?_ ?_
    | refine K2_rputZ ?_ (by decide) ?_
    | refine K2_gbW ?_ ?_
    | refine K2_loop ?_ _ _ _ ?_
    | apply h2_g_expandAt
    | apply h2_g_expand_j90
    | apply h2_g_expand_j86
    | refine K2_bind ?_
    | intro _
    | split)
theorem h2_g_expand_j28 (n : Nat) (h : rS) (H : H2 h) : K2 (g_expand_j28 n h) := by
  unfold g_expand_j28
  try dsimp only
  repeat' (with_reducible first
    | assumption
    | exact K2_none
    | exact H2_mask
    | refine H2_put ?_ (by decide)
    | refine K2_some ?_
    | refine K2_ite ?_ ?_
    | refine K2_rset ?_ ?_
    | refine K2_rputZ ?_ (by decide) ?_
    | refine K2_gbW ?_ ?_
    | refine K2_loop ?_ _ _ _ ?_
    | apply h2_g_ended
    | refine K2_bind ?_
    | intro _
    | split)
theorem h2_g_expand (n : Nat) (i1 : Int32) (h : rS) (H : H2 h) : K2 (g_expand n i1 h) := by
  unfold g_expand
  try dsimp only
  repeat' (with_reducible first
    | assumption
    | exact K2_none
    | exact H2_mask
    | refine H2_put ?_ (by decide)
    | refine K2_some ?_
    | refine K2_ite ?_ ?_
    | refine K2_rset ?_ ?_
    | refine K2_rputZ ?_ (by decide) ?_
    | refine K2_gbW ?_ ?_
    | refine K2_loop ?_ _ _ _ ?_
    | apply h2_g_mark
    | apply h2_g_expandAt
    | apply h2_g_begin
    | apply h2_g_expand_j112
    | apply h2_g_expand_b42
    | apply h2_g_expand_j28
    | refine K2_bind ?_
    | intro _
    | split)
