/-! THE CLASS'S EXPANDER -/
def cE (x : Nat) (o : oT) (h : hH) (A : aS) : Prop := ∃ f s g : Nat → Int32, cEo x o h (A.1 0) (nI (A.2.1 8).length) (A.1 4) (A.1 3) (A.1 1) (A.1 2) ∧ h (x + 55) = kA 50 f ∧ h (x + 56) = kA 400 s ∧ h (x + 57) = kA 50 g ∧ o (x + 55) = some 10 ∧ o (x + 56) = some 10 ∧ o (x + 57) = some 10 ∧ (A.2.1 8).length ≤ 50 ∧ ∀ (i : Nat) (t : Int32), (A.2.1 8)[i]? = some t → f i = t ∧ (t = -1 → g i = nI (A.2.1 (200 + i)).length ∧ (A.2.1 (200 + i)).length ≤ 8 ∧ ∀ (j : Nat) (u : Int32), (A.2.1 (200 + i))[j]? = some u → s (8 * i + j) = u)
theorem cE.fr {W : Nat → Prop} {x : Nat} {o o' : oT} {h h' : hH} {A : aS} (hE : cE x o h A) (F : Fr W o o' h h') (w : ¬ W 4) (w2 : ¬ W 10) : cE x o' h' A := by
  obtain ⟨f, s, g, e0, e1, e2, e3, t1, t2, t3, r⟩ := hE
  exact ⟨f, s, g, e0.fr F w, ((F _ _ t1).2 w2).trans e1, ((F _ _ t2).2 w2).trans e2, ((F _ _ t3).2 w2).trans e3, (F _ _ t1).1, (F _ _ t2).1, (F _ _ t3).1, r⟩
theorem cE.eo {x : Nat} {o : oT} {h : hH} {A : aS} (hE : cE x o h A) : cEo x o h (A.1 0) (nI (A.2.1 8).length) (A.1 4) (A.1 3) (A.1 1) (A.1 2) := by
  obtain ⟨f, s, g, e0, -⟩ := hE
  exact e0
theorem cE.len {x : Nat} {o : oT} {h : hH} {A : aS} (hE : cE x o h A) : (A.2.1 8).length ≤ 50 := by
  obtain ⟨f, s, g, e0, e1, e2, e3, t1, t2, t3, hl, r⟩ := hE
  exact hl
/-- the expander's numbers change, its frames stay -/
theorem cE.to {W : Nat → Prop} {x : Nat} {o o' : oT} {h h' : hH} {A : aS} (B : aS) (hE : cE x o h A) (F : Fr W o o' h h') (w2 : ¬ W 10) (h8 : B.2.1 8 = A.2.1 8) (hs : ∀ j, 200 ≤ j → j < 250 → B.2.1 j = A.2.1 j) (hO : cEo x o' h' (B.1 0) (nI (B.2.1 8).length) (B.1 4) (B.1 3) (B.1 1) (B.1 2)) : cE x o' h' B := by
  obtain ⟨f, s, g, e0, e1, e2, e3, t1, t2, t3, hl, r⟩ := hE
  refine ⟨f, s, g, hO, ((F _ _ t1).2 w2).trans e1, ((F _ _ t2).2 w2).trans e2, ((F _ _ t3).2 w2).trans e3, (F _ _ t1).1, (F _ _ t2).1, (F _ _ t3).1, by rw [h8]; exact hl, fun i t hi => ?_⟩
  rw [h8] at hi
  have hil := (List.getElem?_eq_some_iff.mp hi).1
  rw [hs (200 + i) (by omega) (by omega)]
  exact r i t hi
theorem cE.up {x : Nat} {o : oT} {h : hH} {A : aS} (B : aS) {v : Option hC} (hE : cE x o h A) (h8 : B.2.1 8 = A.2.1 8) (hs : ∀ j, 200 ≤ j → j < 250 → B.2.1 j = A.2.1 j) (hv : v = k5 (B.1 0) (x + 28) (x + 1) (x + 25) (x + 31) (x + 35) (x + 55) (x + 56) (x + 57) (nI (B.2.1 8).length) (B.1 4) (B.1 3) (B.1 1) (B.1 2)) : cE x o (va_up h (x + 30) v) B ∧ Fr (fun b => b = 4) o o h (va_up h (x + 30) v) := by
  have F : Fr (fun b => b = 4) o o h (va_up h (x + 30) v) := Fr.u1 hE.eo.2
  exact ⟨hE.to B F (by decide) h8 hs ⟨by rw [va_up_self, hv], hE.eo.2⟩, F⟩
theorem aPl_same (A : aS) (k : Nat) : aPl A k (A.2.1 k) = A := by
  unfold aPl
  have : va_up A.2.1 k (A.2.1 k) = A.2.1 := by
    funext j
    by_cases h : j = k <;> simp [va_up, h]
  rw [this]
def cQ (x : Nat) (o : oT) (nx : Nat) (h : hH) (cp : Nat → Nat) (A : aS) : Prop := Own o nx ∧ cS x o h A ∧ cI x o h (A.2.1 0) ∧ cE x o h A ∧ cT x o h A.2.2.2 ∧ cA x o h ∧ cB x o h A ∧ ∃ ar, cR x o h cp ar
def cQr (x : Nat) (o : oT) (nx : Nat) (h : hH) (cp : Nat → Nat) (r : Int32 × aS) : Prop := (r.1 = 0 → cQ x o nx h cp r.2) ∧ (r.1 ≠ 0 → ∃ zs, cQ x o nx h cp (aPl r.2 0 zs))
theorem cQr_of {x nx : Nat} {o : oT} {h : hH} {cp : Nat → Nat} {r : Int32 × aS} (hQ : cQ x o nx h cp r.2) : cQr x o nx h cp r := ⟨fun _ => hQ, fun _ => ⟨r.2.2.1 0, by rw [aPl_same]; exact hQ⟩⟩
theorem cQr_bad {x nx : Nat} {o : oT} {h : hH} {cp : Nat → Nat} {r : Int32 × aS} {zs : List Int32} (hr : r.1 ≠ 0) (hQ : cQ x o nx h cp (aPl r.2 0 zs)) : cQr x o nx h cp r := ⟨fun q => absurd q hr, fun _ => ⟨zs, hQ⟩⟩
def cWf (b : Nat) : Prop := b = 2 ∨ b = 10 ∨ cWn b
theorem mAt_0 {xs : List Int32} : mAt xs 0 = match xs with
    | [] => -1
    | t :: _ => t := by
  cases xs with
  | nil => rfl
  | cons t ts => exact mAt_in (k := 0) rfl (by decide)
theorem has_eq {A : aS} {t : Int32} : aHas A t = (decide (t = 260) || decide (t = 261) || decide (t = 262) || decide (0 ≤ aMac A t)) := by
  unfold aHas
  congr 1
  by_cases h : 260 ≤ t ∧ t ≤ 262
  · rw [decide_eq_true h]
    obtain ⟨h1, h2⟩ := h
    obtain ⟨k, hk, rfl⟩ := nI_of (x := t) (Int32.not_lt.mpr (Int32.le_trans (by decide) h1))
    have h3 : 260 ≤ k := (nI_leI (a := 260) (by decide) hk).mp h1
    have h4 : k ≤ 262 := (nI_leI (b := 262) hk (by decide)).mp h2
    have h5 : k = 260 ∨ k = 261 ∨ k = 262 := by omega
    rcases h5 with rfl | rfl | rfl <;> rfl
  · rw [decide_eq_false h]
    have h1 : t ≠ 260 := fun q => h (by rw [q]; decide)
    have h2 : t ≠ 261 := fun q => h (by rw [q]; decide)
    have h3 : t ≠ 262 := fun q => h (by rw [q]; decide)
    simp [h1, h2, h3]
theorem c_can {x nx : Nat} {o : oT} {h : hH} {cp : Nat → Nat} {A : aS} (hQ : cQ x o nx h cp A) (hN : aNm A) : f_Expander_canExpand (x + 30) h = some (b01 (aCan A)) := by
  obtain ⟨ho, hS, hI, hE, hT, hA, hB, ar, hR⟩ := hQ
  have e := hE.eo.1
  obtain ⟨fsB, hoB⟩ := hB.obj
  unfold f_Expander_canExpand aCan
  rw [k5_g1 e, Option.bind_some, Option.bind_some, hI.obj, Option.bind_some, hI.get, Option.bind_some, k5_g11 e, Option.bind_some, mAt_0, k5_g2 e]
  simp only [Option.bind_some]
  by_cases h3 : A.1 3 = 0
  · rw [if_pos h3, decide_eq_true h3, Bool.true_and, hoB, Option.bind_some]
    have hmain : ∀ t : Int32, (if t = 260 then some (1 : Int32) else if t = 261 then some 1 else if t = 262 then some 1 else (f_Book_macroOf (x + 1) t h).bind fun v42 => hNull v42 (some 0) fun _ => some 1) = some (b01 (aHas A t)) := by
      intro t
      rw [has_eq]
      by_cases h1 : t = 260
      · simp [h1, b01]
      · by_cases h2 : t = 261
        · simp [h2, b01]
        · by_cases h4 : t = 262
          · simp [h4, b01]
          · rw [if_neg h1, if_neg h2, if_neg h4]
            rcases hB.macroOf hN t with ⟨q1, q2⟩ | ⟨m, a, q1, q2, q3, q4⟩
            · rw [q2, Option.bind_some, q1]
              simp [h1, h2, h4, b01, hNull]
            · have h100 := hN.1
              rw [q3, Option.bind_some, q1, decide_eq_true (nI_pos' (show m < 2 ^ 31 by omega))]
              simp [b01, hNull]
    cases hx : A.2.1 0 with
    | nil =>
      have := hmain (-1)
      have hm : aHas A (-1) = false := by
        rw [has_eq]
        have : aMac A (-1) = -1 := rfl
        rw [this]
        decide
      rw [hm] at this
      exact this
    | cons t ts => exact hmain t
  · rw [if_neg h3, decide_eq_false h3]
    rfl
/-- a frame more -/
theorem cE.push {x : Nat} {o : oT} {h : hH} {A : aS} (B : aS) {v : Option hC} (a : Int32) (f' s' g' : Nat → Int32) (hE : cE x o h A) (hf : h (x + 55) = kA 50 f') (hsg : h (x + 56) = kA 400 s') (hg : h (x + 57) = kA 50 g') (h50 : (A.2.1 8).length < 50) (h8 : B.2.1 8 = A.2.1 8 ++ [a]) (hs : ∀ j, 200 ≤ j → j < 200 + (A.2.1 8).length → B.2.1 j = A.2.1 j) (hf1 : f' (A.2.1 8).length = a) (hm : a = -1 → B.2.1 (200 + (A.2.1 8).length) = [] ∧ g' (A.2.1 8).length = 0) (hv : v = k5 (B.1 0) (x + 28) (x + 1) (x + 25) (x + 31) (x + 35) (x + 55) (x + 56) (x + 57) (nI ((A.2.1 8).length + 1)) (B.1 4) (B.1 3) (B.1 1) (B.1 2)) : cE x o (va_up h (x + 30) v) B ∧ Fr (fun b => b = 4) o o h (va_up h (x + 30) v) := by
  have F : Fr (fun b => b = 4) o o h (va_up h (x + 30) v) := Fr.u1 hE.eo.2
  obtain ⟨f, s, g, p0, p1, p2, p3, t1, t2, t3, hl, r⟩ := hE
  have hfe : f' = f := by
    rw [p1] at hf
    cases hf
    rfl
  have hge : g' = g := by
    rw [p3] at hg
    cases hg
    rfl
  subst hfe hge
  have hlen : (B.2.1 8).length = (A.2.1 8).length + 1 := by
    rw [h8, List.length_append]
    rfl
  refine ⟨⟨f', s, g', ⟨by rw [va_up_self, hv, hlen], p0.2⟩, ((F _ _ t1).2 (by decide)).trans p1, ((F _ _ t2).2 (by decide)).trans p2, ((F _ _ t3).2 (by decide)).trans p3, t1, t2, t3, by omega, fun i t hi => ?_⟩, F⟩
  rw [h8] at hi
  by_cases hil : i < (A.2.1 8).length
  · rw [List.getElem?_append_left hil] at hi
    rw [hs (200 + i) (by omega) (by omega)]
    exact r i t hi
  · rw [List.getElem?_append_right (by omega)] at hi
    have hi0 : i = (A.2.1 8).length := by
      have := (List.getElem?_eq_some_iff.mp hi).1
      simp at this
      omega
    subst hi0
    simp at hi
    subst hi
    refine ⟨hf1, fun q => ?_⟩
    obtain ⟨q1, q2⟩ := hm q
    rw [q1, q2]
    exact ⟨rfl, by decide, fun j u hj => by simp at hj⟩
/-- an array behind the frames is written -/
theorem cE.arr {x : Nat} {o : oT} {h : hH} {A : aS} {f s g f' s' g' : Nat → Int32} {h' : hH} (hE : cE x o h A) (ef : h (x + 55) = kA 50 f) (es : h (x + 56) = kA 400 s) (eg : h (x + 57) = kA 50 g) (F : Fr (fun b => b = 10) o o h h') (ef' : h' (x + 55) = kA 50 f') (es' : h' (x + 56) = kA 400 s') (eg' : h' (x + 57) = kA 50 g') (hf : ∀ i, i < (A.2.1 8).length → f' i = f i) (hg : ∀ i, i < (A.2.1 8).length → g' i = g i) (hs : ∀ i, i < 8 * (A.2.1 8).length → s' i = s i) : cE x o h' A := by
  obtain ⟨f0, s0, g0, p0, p1, p2, p3, t1, t2, t3, hl, r⟩ := hE
  rw [p1] at ef
  rw [p2] at es
  rw [p3] at eg
  cases ef
  cases es
  cases eg
  refine ⟨f', s', g', p0.fr F (by decide), ef', es', eg', t1, t2, t3, hl, fun i t hi => ?_⟩
  have hil := (List.getElem?_eq_some_iff.mp hi).1
  obtain ⟨r1, r2⟩ := r i t hi
  refine ⟨(hf i hil).trans r1, fun q => ?_⟩
  obtain ⟨q1, q2, q3⟩ := r2 q
  refine ⟨(hg i hil).trans q1, q2, fun j u hj => ?_⟩
  have hjl := (List.getElem?_eq_some_iff.mp hj).1
  rw [hs _ (by omega)]
  exact q3 j u hj
def aPos (xs : List Int32) : Prop := ∀ t : Int32, t ∈ xs → 0 ≤ t
theorem c_beginAfter {x nx : Nat} {o : oT} {h : hH} {cp : Nat → Nat} {A : aS} (hQ : cQ x o nx h cp A) (hpos : aPos (A.2.1 0)) : ∃ h', f_Expander_beginAfter (x + 30) h = some ((eAft A).1, h') ∧ Fr cWf o o h h' ∧ cQr x o nx h' cp (eAft A) := by
  have hQ0 := hQ
  obtain ⟨ho, hS, hI, hE, hT, hA, hB, ar, hR⟩ := hQ
  have e := hE.eo.1
  have hlen := hE.len
  have hil := hI.le
  have hpre : f_Expander_beginAfter (x + 30) h = if (2 : Int32) ≤ nI (A.2.1 0).length then (if nI (A.2.1 8).length < (50 : Int32) then hbW (f_Input_take (x + 28) h) fun v37 h37 => (hsI h37 (x + 55) 0 (nI (A.2.1 8).length) v37).bind fun h40 => (hgI h40 (x + 30) 5 9).bind fun v43 => (hpV h40 (x + 30) 5 9 (.int (v43 + (1 : Int32)))).bind fun h48 => (hpZ h48 (x + 30) 5 10 (1 : Int32)).bind fun h53 => some ((0 : Int32), h53) else some (8, h)) else some (1, h) := by
    unfold f_Expander_beginAfter
    rw [k5_g1 e, Option.bind_some, Option.bind_some, hI.size, Option.bind_some, k5_g9 e, Option.bind_some, k5_g6 e]
    simp only [Option.bind_some]
    rw [hI.obj]
    simp only [Option.bind_some]
  rw [hpre]
  unfold eAft
  cases hx : A.2.1 0 with
  | nil =>
    refine ⟨h, ?_, Fr.rf _ _ _, cQr_of (r := (1, A)) hQ0⟩
    rw [if_neg (by decide)]
  | cons a bs =>
    cases bs with
    | nil =>
      refine ⟨h, ?_, Fr.rf _ _ _, cQr_of (r := (1, A)) hQ0⟩
      rw [if_neg (show ¬ (2 : Int32) ≤ nI [a].length from (by decide : ¬ (2 : Int32) ≤ nI 1))]
    | cons b cs =>
      have ha : a ≠ -1 := fun q => by
        have := hpos a (by rw [hx]; simp)
        rw [q] at this
        exact absurd this (by decide)
      rw [hx] at hI hil
      simp only [List.length_cons] at hil
      rw [if_pos (by simp only [List.length_cons]; exact nI_le (a := 2) (by omega) (by omega))]
      dsimp only
      by_cases h50 : (A.2.1 8).length < 50
      · rw [if_pos h50, if_pos (show _ < (50 : Int32) from nI_lt (b := 50) h50 (by decide))]
        obtain ⟨h1, e1, I1, F1⟩ := hI.take
        rw [e1]
        simp only [hbW]
        have E1 := hE.fr F1 (by decide) (by decide)
        have E1' := E1
        obtain ⟨f, s, g, p0, p1, p2, p3, t1, t2, t3, hl, r⟩ := E1
        have F2 : Fr (fun b => b = 10) o o h1 (va_up h1 (x + 55) (kA 50 (upd f (A.2.1 8).length a))) := Fr.u1 t1
        have p1' : (va_up h1 (x + 55) (kA 50 (upd f (A.2.1 8).length a))) (x + 55) = kA 50 (upd f (A.2.1 8).length a) := va_up_self _ _ _
        have p2' : (va_up h1 (x + 55) (kA 50 (upd f (A.2.1 8).length a))) (x + 56) = kA 400 s := by rw [va_up_ne _ _ (by omega)]; exact p2
        have p3' : (va_up h1 (x + 55) (kA 50 (upd f (A.2.1 8).length a))) (x + 57) = kA 50 g := by rw [va_up_ne _ _ (by omega)]; exact p3
        have E2 := E1'.arr p1 p2 p3 F2 p1' p2' p3' (fun i hi => (by simp only [aPi, aPl, aPt, rput, va_up, upd] <;> (repeat rw [if_neg (by omega)]))) (fun _ _ => rfl) (fun _ _ => rfl)
        have p4 := E2.eo.1
        obtain ⟨E3, F3⟩ := E2.push (aPi (aPl (aPl A 0 (b :: cs)) 8 (A.2.1 8 ++ [a])) 4 1) (v := k5 (A.1 0) (x + 28) (x + 1) (x + 25) (x + 31) (x + 35) (x + 55) (x + 56) (x + 57) (nI ((A.2.1 8).length + 1)) 1 (A.1 3) (A.1 1) (A.1 2)) a _ _ _ p1' p2' p3' h50 rfl (fun j h1 h2 => by
            show va_up (va_up A.2.1 0 (b :: cs)) 8 (A.2.1 8 ++ [a]) j = A.2.1 j
            rw [va_up_ne _ _ (by omega), va_up_ne _ _ (by omega)]) upd_same (fun q => absurd q ha) rfl
        refine ⟨_, ?_, ((F1.mono (fun l q => Or.inr (Or.inr (Or.inl q)))).tr (F2.mono (fun l q => Or.inr (Or.inl q)))).tr (F3.mono (fun l q => Or.inr (Or.inr (Or.inr (Or.inl q))))), cQr_of ⟨ho, ?_, ?_, E3, ?_, ?_, ?_, ar, ?_⟩⟩
        · rw [kA_set p1 h50 (by decide), Option.bind_some, k5_g9 p4, Option.bind_some, nI_1, k5_p9 p4, Option.bind_some, k5_z10 (va_up_self _ _ _) 1 (Or.inr rfl), Option.bind_some, va_up_up]
        · exact (((hS.fr F1 (by decide)).fr F2 (by decide)).fr F3 (by decide)).abs rfl (fun j h1 h2 => by
            show va_up (va_up A.2.1 0 (b :: cs)) 8 (A.2.1 8 ++ [a]) j = A.2.1 j
            rw [va_up_ne _ _ (by omega), va_up_ne _ _ (by omega)])
        · exact ((I1.fr F2 (by decide)).fr F3 (by decide))
        · exact ((hT.fr F1 (by decide)).fr F2 (by decide)).fr F3 (by decide)
        · exact ((hA.fr F1 (by decide)).fr F2 (by decide)).fr F3 (by decide)
        · exact (((hB.fr F1 (by decide) (fun l _ => by show ¬ l = 3; omega)).fr F2 (by decide) (fun l _ => by show ¬ l = 10; omega)).fr F3 (by decide) (fun l _ => by show ¬ l = 4; omega)).abs rfl rfl (fun j h1 => by
            show va_up (va_up A.2.1 0 (b :: cs)) 8 (A.2.1 8 ++ [a]) j = A.2.1 j
            rw [va_up_ne _ _ (by omega), va_up_ne _ _ (by omega)]) rfl rfl
        · exact ((hR.fr F1 (fun a _ _ => by show ¬ 19 + a = 3; omega)).fr F2 (fun a _ _ => by show ¬ 19 + a = 10; omega)).fr F3 (fun a _ _ => by show ¬ 19 + a = 4; omega)
      · rw [if_neg h50, if_neg (show ¬ _ < (50 : Int32) from nI_nlt (b := 50) (by omega) (by omega))]
        exact ⟨h, rfl, Fr.rf _ _ _, cQr_of (r := (8, A)) hQ0⟩
theorem c_beginNaming {x nx : Nat} {o : oT} {h : hH} {cp : Nat → Nat} {A : aS} (hQ : cQ x o nx h cp A) : ∃ h', f_Expander_beginNaming (x + 30) h = some ((eNam A).1, h') ∧ Fr cWf o o h h' ∧ cQr x o nx h' cp (eNam A) := by
  have hQ0 := hQ
  obtain ⟨ho, hS, hI, hE, hT, hA, hB, ar, hR⟩ := hQ
  have e := hE.eo.1
  have hlen := hE.len
  unfold f_Expander_beginNaming eNam
  rw [k5_g9 e, Option.bind_some]
  by_cases h50 : (A.2.1 8).length < 50
  · rw [if_pos h50, if_pos (show _ < (50 : Int32) from nI_lt (b := 50) h50 (by decide))]
    have hE' := hE
    obtain ⟨f, s, g, p0, p1, p2, p3, t1, t2, t3, hl, r⟩ := hE
    have F2 : Fr (fun b => b = 10) o o h (va_up h (x + 55) (kA 50 (upd f (A.2.1 8).length (-1)))) := Fr.u1 t1
    have p3a : (va_up h (x + 55) (kA 50 (upd f (A.2.1 8).length (-1)))) (x + 57) = kA 50 g := by rw [va_up_ne _ _ (by omega)]; exact p3
    have ea := (p0.fr F2 (by decide)).1
    have F2b : Fr (fun b => b = 10) o o h (va_up (va_up h (x + 55) (kA 50 (upd f (A.2.1 8).length (-1)))) (x + 57) (kA 50 (upd g (A.2.1 8).length 0))) := F2.tr (Fr.u1 t3)
    have p1' : (va_up (va_up h (x + 55) (kA 50 (upd f (A.2.1 8).length (-1)))) (x + 57) (kA 50 (upd g (A.2.1 8).length 0))) (x + 55) = kA 50 (upd f (A.2.1 8).length (-1)) := by rw [va_up_ne _ _ (by omega), va_up_self]
    have p2' : (va_up (va_up h (x + 55) (kA 50 (upd f (A.2.1 8).length (-1)))) (x + 57) (kA 50 (upd g (A.2.1 8).length 0))) (x + 56) = kA 400 s := by rw [va_up_ne _ _ (by omega), va_up_ne _ _ (by omega)]; exact p2
    have p3' : (va_up (va_up h (x + 55) (kA 50 (upd f (A.2.1 8).length (-1)))) (x + 57) (kA 50 (upd g (A.2.1 8).length 0))) (x + 57) = kA 50 (upd g (A.2.1 8).length 0) := va_up_self _ _ _
    have E2 := hE'.arr p1 p2 p3 F2b p1' p2' p3' (fun i hi => (by simp only [aPi, aPl, aPt, rput, va_up, upd] <;> (repeat rw [if_neg (by omega)]))) (fun i hi => (by simp only [aPi, aPl, aPt, rput, va_up, upd] <;> (repeat rw [if_neg (by omega)]))) (fun _ _ => rfl)
    have p4 := E2.eo.1
    have hlist : ∀ j, j ≠ 8 → j ≠ 200 + (A.2.1 8).length → (aPl (aPl A (200 + (A.2.1 8).length) []) 8 (A.2.1 8 ++ [-1])).2.1 j = A.2.1 j := fun j h1 h2 => by
      show va_up (va_up A.2.1 (200 + (A.2.1 8).length) []) 8 (A.2.1 8 ++ [-1]) j = A.2.1 j
      rw [va_up_ne _ _ h1, va_up_ne _ _ h2]
    obtain ⟨E3, F3⟩ := E2.push (aPl (aPl A (200 + (A.2.1 8).length) []) 8 (A.2.1 8 ++ [-1])) (v := k5 (A.1 0) (x + 28) (x + 1) (x + 25) (x + 31) (x + 35) (x + 55) (x + 56) (x + 57) (nI ((A.2.1 8).length + 1)) (A.1 4) (A.1 3) (A.1 1) (A.1 2)) (-1) _ _ _ p1' p2' p3' h50 rfl (fun j h1 h2 => hlist j (by omega) (by omega)) upd_same (fun _ => ⟨by
        show va_up (va_up A.2.1 (200 + (A.2.1 8).length) []) 8 (A.2.1 8 ++ [-1]) (200 + (A.2.1 8).length) = []
        rw [va_up_ne _ _ (by omega), va_up_self], upd_same⟩) rfl
    refine ⟨_, ?_, (F2b.mono (fun l q => Or.inr (Or.inl q))).tr (F3.mono (fun l q => Or.inr (Or.inr (Or.inr (Or.inl q))))), cQr_of ⟨ho, ?_, ?_, E3, ?_, ?_, ?_, ar, ?_⟩⟩
    · rw [k5_g6 e]
      simp only [Option.bind_some]
      rw [kA_set p1 h50 (by decide), Option.bind_some, k5_g8 ea, Option.bind_some, k5_g9 ea, Option.bind_some, Option.bind_some, kA_set p3a h50 (by decide), Option.bind_some, k5_g9 p4, Option.bind_some, nI_1, k5_p9 p4, Option.bind_some]
    · exact ((hS.fr F2b (by decide)).fr F3 (by decide)).abs rfl (fun j h1 h2 => hlist j (by omega) (by omega))
    · show cI x o _ ((aPl (aPl A (200 + (A.2.1 8).length) []) 8 (A.2.1 8 ++ [-1])).2.1 0)
      rw [hlist 0 (by decide) (by omega)]
      exact (hI.fr F2b (by decide)).fr F3 (by decide)
    · exact (hT.fr F2b (by decide)).fr F3 (by decide)
    · exact (hA.fr F2b (by decide)).fr F3 (by decide)
    · exact ((hB.fr F2b (by decide) (fun l _ => by show ¬ l = 10; omega)).fr F3 (by decide) (fun l _ => by show ¬ l = 4; omega)).abs (hlist 2 (by decide) (by omega)) (hlist 3 (by decide) (by omega)) (fun j h1 => hlist j (by omega) (by omega)) rfl rfl
    · exact (hR.fr F2b (fun a _ _ => by show ¬ 19 + a = 10; omega)).fr F3 (fun a _ _ => by show ¬ 19 + a = 4; omega)
  · rw [if_neg h50, if_neg (show ¬ _ < (50 : Int32) from nI_nlt (b := 50) (by omega) (by omega))]
    exact ⟨h, rfl, Fr.rf _ _ _, cQr_of (r := (8, A)) hQ0⟩
