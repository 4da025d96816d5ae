/-! THE REFERENCE'S CONSTRUCTOR -/
def rB (m j : Nat) (fs : List Value) (h : hH) : hH := fun a => if a = m then some (.inr (1, fs)) else if m < a ∧ a < m + 1 + j then some (.inl (0, rLn (a - (m + 1)), .inl (fun _ => 0))) else h a
theorem rB_up {m j len : Nat} {fs gs : List Value} {h : hH} (hl : rLn j = len) : va_up (va_up (rB m j fs h) (m + 1 + j) (some (.inl (0, len, .inl (fun _ => 0))))) m (some (.inr (1, gs))) = rB m (j + 1) gs h := by
  funext a
  by_cases h0 : a = m
  · rw [h0, va_up_self]
    unfold rB
    rw [if_pos rfl]
  · rw [va_up_ne _ _ h0]
    by_cases h1 : a = m + 1 + j
    · rw [h1, va_up_self]
      unfold rB
      rw [if_neg (by omega), if_pos (by omega), show m + 1 + j - (m + 1) = j by omega, hl]
    · rw [va_up_ne _ _ h1]
      unfold rB
      rw [if_neg h0, if_neg h0]
      by_cases h2 : m < a ∧ a < m + 1 + j
      · rw [if_pos h2, if_pos (by omega)]
      · rw [if_neg h2, if_neg (by omega)]
def rf (m j i : Nat) : Value := if i < j then .ref (m + 1 + i) else .null
def rFj (m j : Nat) : List Value := [.int 0, rf m j 0, .int 0, .int 0, .int 0, rf m j 1, .int 0, rf m j 2, rf m j 3, rf m j 4, rf m j 5, rf m j 6, rf m j 7, rf m j 8, .int 0, rf m j 9, .int 0, rf m j 10, rf m j 11, rf m j 12, rf m j 13, .int 0, .int 0, .int 0, .int 0, .int 0, rf m j 14, rf m j 15, .int 0, rf m j 16, rf m j 17, rf m j 18, .int 0, .int 0, rf m j 19, rf m j 20, rf m j 21]
theorem Ev.ref {β : Type} {r : β} {m j k len d e D E : Nat} {h : hH} {K : Nat → hH → hR β} {P : hH → Prop} (d' : d + 1 = D) (e' : len + e ≤ E) (hl : rLn j = len) (hk : k < 37) (hg : (rFj m j).set k (.ref (m + 1 + j)) = rFj m (j + 1)) (hK : Ev r (K (m + 1 + (j + 1)) (rB m (j + 1) (rFj m (j + 1)) h)) d e P) : Ev r (hbind (hnew (.inl (0, len, .inl (fun _ => 0))) len (m + 1 + j) (rB m j (rFj m j) h)) (m + 1 + j) (fun _ nx' h' => (hpV h' m 1 k (.ref (m + 1 + j))).bind fun h'' => K nx' h'')) D E P := by
  refine Ev.newPut d' e' (fs := rFj m j) (gs := rFj m (j + 1)) (by unfold rB; rw [if_pos rfl]) (by omega) hk hg ?_
  rw [rB_up hl]
  exact hK
def rZ (G : Int32) (i : Nat) : rS := (upd (fun _ => 0) 0 G, fun j q => if j = 8 ∧ q < i then -1 else 0)
theorem r_j219 {n m nx : Nat} {G : Int32} {h : hH} (hn : 4000 < n) : Ev () (f_MacroExpandModel_init_j219 n m (some m) G nx (rE m (fun _ => 0, fun _ _ => 0) h)) 0 0 (fun h' => h' = rE m (rZ G 200) h) := by
  unfold f_MacroExpandModel_init_j219
  rw [Option.bind_some, rp_0, Option.bind_some]
  obtain ⟨b, d, e, h', el, hd, he, hh⟩ := hloopA_rule (body := f_MacroExpandModel_init_b224 n m)
    (fun k v nx1 sl h1 => ∃ i, k = 200 - i ∧ i ≤ 200 ∧ v = nI i ∧ nx1 = nx ∧ sl = 0 ∧ h1 = rE m (rZ G i) h)
    (fun _ nx1 sl h1 => nx1 = nx ∧ sl = 0 ∧ h1 = rE m (rZ G 200) h)
    (by
      rintro k v nx1 sl h1 ⟨i, rfl, hi, rfl, rfl, rfl, rfl⟩
      by_cases he : i = 200
      · refine Or.inr ⟨(), 0, 0, rE m (rZ G i) h, ?_, rfl, rfl, by rw [he]⟩
        unfold f_MacroExpandModel_init_b224
        dsimp only
        rw [if_pos (show (200 : Int32) ≤ _ from nI_le (a := 200) (by omega) (by omega))]
      · have hs : rset (rZ G i) 8 200 (nI i) (-1) = some (rZ G (i + 1)) := by
          rw [rset_at (by omega) (by decide)]
          have : (fun q => if q = 8 then upd ((rZ G i).2 8) i (-1) else (rZ G i).2 q) = (rZ G (i + 1)).2 := by
            funext j q
            by_cases hj : j = 8
            · subst hj
              show upd (fun q => if 8 = 8 ∧ q < i then (-1 : Int32) else 0) i (-1) q = (if 8 = 8 ∧ q < i + 1 then (-1 : Int32) else 0)
              by_cases hq : q = i
              · rw [hq, upd_same, if_pos ⟨rfl, by omega⟩]
              · rw [upd_other hq]
                by_cases hq2 : q < i
                · rw [if_pos ⟨rfl, hq2⟩, if_pos ⟨rfl, by omega⟩]
                · rw [if_neg (fun w => hq2 w.2), if_neg (fun w => by omega)]
            · rw [if_neg hj]
              show (if j = 8 ∧ q < i then (-1 : Int32) else 0) = (if j = 8 ∧ q < i + 1 then (-1 : Int32) else 0)
              rw [if_neg (fun w => hj w.1), if_neg (fun w => hj w.1)]
          rw [this]
          rfl
        refine Or.inl ⟨nI (i + 1), 200 - (i + 1), 0, 0, rE m (rZ G (i + 1)) h, ?_, by omega, i + 1, rfl, by omega, rfl, rfl, rfl, rfl⟩
        unfold f_MacroExpandModel_init_b224
        dsimp only
        rw [if_neg (show ¬ (200 : Int32) ≤ _ from nI_ge (b := 200) (by omega) (by decide)), rr_13, Option.bind_some, Option.bind_some, show hsI (rE m (rZ G i) h) (m + 9) 0 (nI i) (-1) = _ from rs m (rZ G i) h (j := 8) (n := 200) (by decide) rfl, hs]
        simp only [Option.map_some, Option.bind_some]
        rw [nI_1])
    n 200 (nI 0) nx 0 (rE m (rput (fun _ => 0, fun _ _ => 0) 0 G) h) (by omega) ⟨0, by omega, by omega, rfl, rfl, rfl, by
      congr 1
      show (upd (fun _ => 0) 0 G, fun _ _ => (0 : Int32)) = (upd (fun _ => 0) 0 G, fun j q => if j = 8 ∧ q < 0 then (-1 : Int32) else 0)
      congr 1
      funext j q
      rw [if_neg (fun w => by omega)]⟩
  refine ⟨0, h', ?_, by omega, hh⟩
  rw [show (0 : Int32) = nI 0 from rfl] at *
  rw [show (hloopA (f_MacroExpandModel_init_b224 n m) n (nI 0) nx (rE m (rput (fun _ => nI 0, fun _ _ => nI 0) 0 G) h)) = _ from el]
  simp only [hbind]
  rw [show d = 0 by omega, show e = 0 by omega]
def rG (s : Int64) : Int32 := if 0 ≤ lg_cmp s 1 then (if lg_cmp s 20000 ≤ 0 then s.toInt32 else 20000) else 1
theorem r_init {n m : Nat} {s : Int64} {h : hH} (hn : 4000 < n) : Ev () (f_MacroExpandModel_init n m s (m + 1) (va_up h m (some (.inr (1, [.int 0, .null, .int 0, .int 0, .int 0, .null, .int 0, .null, .null, .null, .null, .null, .null, .null, .int 0, .null, .int 0, .null, .null, .null, .null, .int 0, .int 0, .int 0, .int 0, .int 0, .null, .null, .int 0, .null, .null, .null, .int 0, .int 0, .null, .null, .null]))))) 22 300000 (fun h' => h' = rE m (rZ (rG s) 200) h) := by
  have h0 : va_up h m (some (.inr (1, [.int 0, .null, .int 0, .int 0, .int 0, .null, .int 0, .null, .null, .null, .null, .null, .null, .null, .int 0, .null, .int 0, .null, .null, .null, .null, .int 0, .int 0, .int 0, .int 0, .int 0, .null, .null, .int 0, .null, .null, .null, .int 0, .int 0, .null, .null, .null]))) = rB m 0 (rFj m 0) h := by
    funext a
    by_cases ha : a = m
    · rw [ha, va_up_self]
      unfold rB
      rw [if_pos rfl]
      rfl
    · rw [va_up_ne _ _ ha]
      unfold rB
      rw [if_neg ha, if_neg (by omega)]
  have hE : rB m 22 (rFj m 22) h = rE m (fun _ => 0, fun _ _ => 0) h := by
    funext a
    unfold rB rE
    by_cases ha : a = m
    · simp only [if_pos ha]
      rfl
    · simp only [if_neg ha]
  have hj : ∀ (G : Int32), Ev () (f_MacroExpandModel_init_j219 n m (some m) G (m + 1 + (21 + 1)) (rB m (21 + 1) (rFj m (21 + 1)) h)) 0 0 (fun h' => h' = rE m (rZ G 200) h) := fun G => by
    rw [show rB m (21 + 1) (rFj m (21 + 1)) h = rE m (fun _ => 0, fun _ _ => 0) h from hE]
    exact r_j219 hn
  have hend : Ev () (if 0 ≤ (lg_cmp s (1 : Int64)) then (if (lg_cmp s (20000 : Int64)) ≤ 0 then f_MacroExpandModel_init_j219 n m (some m) s.toInt32 (m + 1 + (21 + 1)) (rB m (21 + 1) (rFj m (21 + 1)) h) else f_MacroExpandModel_init_j219 n m (some m) (20000 : Int32) (m + 1 + (21 + 1)) (rB m (21 + 1) (rFj m (21 + 1)) h)) else f_MacroExpandModel_init_j219 n m (some m) (1 : Int32) (m + 1 + (21 + 1)) (rB m (21 + 1) (rFj m (21 + 1)) h)) 0 0 (fun h' => h' = rE m (rZ (rG s) 200) h) := by
    unfold rG
    by_cases q1 : 0 ≤ lg_cmp s 1
    · simp only [if_pos q1]
      by_cases q2 : lg_cmp s 20000 ≤ 0
      · simp only [if_pos q2]
        exact hj _
      · simp only [if_neg q2]
        exact hj _
    · simp only [if_neg q1]
      exact hj _
  rw [h0]
  unfold f_MacroExpandModel_init
  refine Ev.ref (j := 0) (d := 21) (e := 295000) rfl (by omega) rfl (by decide) rfl ?_
  refine Ev.ref (j := 1) (d := 20) (e := 290000) rfl (by omega) rfl (by decide) rfl ?_
  refine Ev.ref (j := 2) (d := 19) (e := 289000) rfl (by omega) rfl (by decide) rfl ?_
  refine Ev.ref (j := 3) (d := 18) (e := 288000) rfl (by omega) rfl (by decide) rfl ?_
  refine Ev.ref (j := 4) (d := 17) (e := 287000) rfl (by omega) rfl (by decide) rfl ?_
  refine Ev.ref (j := 5) (d := 16) (e := 266000) rfl (by omega) rfl (by decide) rfl ?_
  refine Ev.ref (j := 6) (d := 15) (e := 264000) rfl (by omega) rfl (by decide) rfl ?_
  refine Ev.ref (j := 7) (d := 14) (e := 63000) rfl (by omega) rfl (by decide) rfl ?_
  refine Ev.ref (j := 8) (d := 13) (e := 62000) rfl (by omega) rfl (by decide) rfl ?_
  refine Ev.ref (j := 9) (d := 12) (e := 57000) rfl (by omega) rfl (by decide) rfl ?_
  refine Ev.ref (j := 10) (d := 11) (e := 56000) rfl (by omega) rfl (by decide) rfl ?_
  refine Ev.ref (j := 11) (d := 10) (e := 55000) rfl (by omega) rfl (by decide) rfl ?_
  refine Ev.ref (j := 12) (d := 9) (e := 54000) rfl (by omega) rfl (by decide) rfl ?_
  refine Ev.ref (j := 13) (d := 8) (e := 49000) rfl (by omega) rfl (by decide) rfl ?_
  refine Ev.ref (j := 14) (d := 7) (e := 48000) rfl (by omega) rfl (by decide) rfl ?_
  refine Ev.ref (j := 15) (d := 6) (e := 47000) rfl (by omega) rfl (by decide) rfl ?_
  refine Ev.ref (j := 16) (d := 5) (e := 46000) rfl (by omega) rfl (by decide) rfl ?_
  refine Ev.ref (j := 17) (d := 4) (e := 45000) rfl (by omega) rfl (by decide) rfl ?_
  refine Ev.ref (j := 18) (d := 3) (e := 44000) rfl (by omega) rfl (by decide) rfl ?_
  refine Ev.ref (j := 19) (d := 2) (e := 41000) rfl (by omega) rfl (by decide) rfl ?_
  refine Ev.ref (j := 20) (d := 1) (e := 40000) rfl (by omega) rfl (by decide) rfl ?_
  refine Ev.ref (j := 21) (d := 0) (e := 0) rfl (by omega) rfl (by decide) rfl ?_
  exact hend
