/-! THE CLASS READS ARGUMENTS -/
def cA (x : Nat) (o : oT) (h : hH) : Prop := ∃ f : Nat → Option Nat, h (x + 35) = k2 (x + 28) (x + 1) (x + 36) ∧ h (x + 36) = kR 3 9 f ∧ o (x + 35) = some 6 ∧ o (x + 36) = some 6 ∧ ∀ j, j < 9 → f j = some (x + 37 + 2 * j)
theorem cA.fr {W : Nat → Prop} {x : Nat} {o o' : oT} {h h' : hH} (hA : cA x o h) (F : Fr W o o' h h') (w : ¬ W 6) : cA x o' h' := by
  obtain ⟨f, e1, e2, t1, t2, r⟩ := hA
  exact ⟨f, ((F _ _ t1).2 w).trans e1, ((F _ _ t2).2 w).trans e2, (F _ _ t1).1, (F _ _ t2).1, r⟩
theorem cA.obj {x : Nat} {o : oT} {h : hH} (hA : cA x o h) : ∃ fs, hObj h (x + 35) 2 = some fs := by
  obtain ⟨f, e1, -⟩ := hA
  exact ⟨_, k2_o e1⟩
theorem cA.g0 {x : Nat} {o : oT} {h : hH} (hA : cA x o h) : hgR h (x + 35) 2 0 = some (some (x + 28)) := by
  obtain ⟨f, e1, -⟩ := hA
  exact k2_g0 e1
theorem cA.g1 {x : Nat} {o : oT} {h : hH} (hA : cA x o h) : hgR h (x + 35) 2 1 = some (some (x + 1)) := by
  obtain ⟨f, e1, -⟩ := hA
  exact k2_g1 e1
theorem cA.arg {x a : Nat} {o : oT} {h : hH} (hA : cA x o h) (h1 : 1 ≤ a) (h9 : a ≤ 9) : f_Arguments_argument (x + 35) (nI a) h = some (some (x + 35 + 2 * a)) := by
  obtain ⟨f, e1, e2, t1, t2, hf⟩ := hA
  have hix : (if (0 : Int32) < (if (nI 9 - (1 : Int32)) < nI (a - 1) then (nI 9 - (1 : Int32)) else nI (a - 1)) then (if (nI 9 - (1 : Int32)) < nI (a - 1) then (nI 9 - (1 : Int32)) else nI (a - 1)) else (0 : Int32)) = nI (a - 1) := by
    rw [show nI 9 - (1 : Int32) = nI 8 from rfl, if_neg (nI_nlt (by omega) (by omega))]
    by_cases h0 : a - 1 = 0
    · rw [h0]
      rfl
    · rw [if_pos (by rw [← nI_0]; exact nI_lt (by omega) (by omega))]
  unfold f_Arguments_argument
  rw [k2_g2 e1]
  simp only [Option.bind_some]
  rw [kR_len e2, Option.bind_some, show nI a - 1 = nI (a - 1) from pk_sub (b := 1) h1, hix, kR_get e2 (by omega) (by omega), Option.bind_some, hf (a - 1) (by omega), show x + 37 + 2 * (a - 1) = x + 35 + 2 * a by omega]
theorem c_forb {x m ma : Nat} {o : oT} {h : hH} {A : aS} (hB : cB x o h A) (hN : aNm A) (hA : cA x o h) (hM : cMac o h A m ma) (t : Int32) : f_Arguments_isForbidden (x + 35) t ma h = some (b01 (mForb (aOut A) (aLng A m) t)) := by
  obtain ⟨fs, ho⟩ := hB.obj
  have h13 : f_Arguments_isForbidden_j13 (x + 35) t h = some (b01 (aOut A t)) := by
    unfold f_Arguments_isForbidden_j13
    rw [hA.g1, Option.bind_some, Option.bind_some, ho, Option.bind_some, hB.isOuter hN, Option.bind_some]
    cases aOut A t <;> rfl
  obtain ⟨ra, ta, f, e1, -⟩ := hM
  unfold f_Arguments_isForbidden
  by_cases h10 : t = 10
  · rw [if_pos h10, k7_g1 e1, Option.bind_some, h13]
    cases hl : aLng A m
    · rw [if_pos (by decide)]
      simp [mForb, h10, b01]
    · rw [if_neg (by decide)]
      simp [mForb]
  · rw [if_neg h10, h13]
    simp [mForb, h10]
theorem c_readRow {n x l a c : Nat} {o : oT} {h : hH} {A : aS} {ys row : List Int32} (hI : cI x o h ys) (hB : cB x o h A) (hN : aNm A) (hA : cA x o h) (hR : Rw o h l a 200 c row) (hl : l ≠ 3) (hn : 300 < n) : ∃ code h', f_Arguments_readRow n (x + 35) a h = some (code, h') ∧ Fr (fun b => b = 3) o o h h' ∧ match mRow (aOut A) row ys with
    | .inl f => code = f ∧ ∃ zs, cI x o h' zs
    | .inr zs => code = 0 ∧ cI x o h' zs := by
  have hrl := hR.le
  obtain ⟨b, h', e, F, hb⟩ := hloopW_rule (body := f_Arguments_readRow_b2 n (x + 35) a) (fun k v h1 => ∃ i zs, k = row.length - i ∧ i ≤ row.length ∧ v = nI i ∧ cI x o h1 zs ∧ Fr (fun b => b = 3) o o h h1 ∧ mRow (aOut A) row ys = mRow (aOut A) (row.drop i) zs) (fun b h1 => Fr (fun b => b = 3) o o h h1 ∧ ((b = .inl () ∧ mRow (aOut A) row ys = .inl 1 ∧ ∃ zs, cI x o h1 zs) ∨ (b = .inr (.inl ()) ∧ mRow (aOut A) row ys = .inl 2 ∧ ∃ zs, cI x o h1 zs) ∨ (b = .inr (.inr (.inl ())) ∧ mRow (aOut A) row ys = .inl 3 ∧ ∃ zs, cI x o h1 zs) ∨ (b = .inr (.inr (.inr ())) ∧ ∃ zs, mRow (aOut A) row ys = .inr zs ∧ cI x o h1 zs)))
    (by
      rintro k v h1 ⟨i, zs, rfl, hi, rfl, I1, F1, hmi⟩
      have R1 := hR.fr F1 hl
      have A1 := hA.fr F1 (by decide)
      have B1 := hB.fr F1 (by decide) (fun l _ => by show ¬ l = 3; omega)
      obtain ⟨fs, ho⟩ := R1.obj
      by_cases he : i = row.length
      · refine Or.inr ⟨.inr (.inr (.inr ())), h1, ?_, F1, Or.inr (Or.inr (Or.inr ⟨rfl, zs, ?_, I1⟩))⟩
        · unfold f_Arguments_readRow_b2
          dsimp only
          rw [R1.size, Option.bind_some, if_pos (nI_le (by omega) (by omega))]
        · rw [hmi, he, List.drop_length]
          rfl
      · have hri : row[i]? = some (row[i]'(by omega)) := List.getElem?_eq_getElem (by omega)
        rw [List.drop_eq_getElem_cons (by omega)] at hmi
        cases zs with
        | nil =>
          refine Or.inr ⟨.inl (), h1, ?_, F1, Or.inl ⟨rfl, hmi, [], I1⟩⟩
          unfold f_Arguments_readRow_b2
          dsimp only
          rw [R1.size, Option.bind_some, if_neg (nI_ge (by omega) (by omega)), A1.g0]
          simp only [Option.bind_some]
          rw [I1.obj, Option.bind_some, I1.isEmpty, Option.bind_some]
          rfl
        | cons t ts =>
          obtain ⟨h2, e2, I2, F2⟩ := I1.take
          have R2 := R1.fr F2 hl
          have A2 := A1.fr F2 (by decide)
          have B2 := B1.fr F2 (by decide) (fun l _ => by show ¬ l = 3; omega)
          obtain ⟨fs2, ho2⟩ := R2.obj
          obtain ⟨fs3, ho3⟩ := B2.obj
          have hbd : f_Arguments_readRow_b2 n (x + 35) a (nI i) h1 = if b01 (aOut A t) = 0 then (if t = row[i]'(by omega) then some (.inl (nI (i + 1)), h2) else some (.inr (.inr (.inr (.inl ()))), h2)) else some (.inr (.inr (.inl ())), h2) := by
            unfold f_Arguments_readRow_b2
            dsimp only
            rw [R1.size, Option.bind_some, if_neg (nI_ge (by omega) (by omega)), A1.g0]
            simp only [Option.bind_some]
            rw [I1.obj, Option.bind_some, I1.isEmpty, Option.bind_some, if_pos (by simp), Option.bind_some, e2]
            simp only [hbW]
            rw [A2.g1, Option.bind_some, Option.bind_some, ho3, Option.bind_some, B2.isOuter hN, Option.bind_some, ho2, Option.bind_some, R2.get (by decide), Option.bind_some, mAt_in hri (by omega), nI_1]
          simp only [mRow] at hmi
          cases hout : aOut A t with
          | true =>
            rw [hout] at hbd
            rw [if_pos hout] at hmi
            exact Or.inr ⟨.inr (.inl ()), h2, by rw [hbd, if_neg (by decide)], F1.tr F2, Or.inr (Or.inl ⟨rfl, hmi, ts, I2⟩)⟩
          | false =>
            rw [hout, if_pos (by decide)] at hbd
            rw [hout, if_neg (by decide)] at hmi
            by_cases htr : t = row[i]'(by omega)
            · rw [if_pos htr] at hbd hmi
              exact Or.inl ⟨nI (i + 1), row.length - (i + 1), h2, hbd, by omega, i + 1, ts, rfl, by omega, rfl, I2, F1.tr F2, hmi⟩
            · rw [if_neg htr] at hbd hmi
              exact Or.inr ⟨.inr (.inr (.inl ())), h2, hbd, F1.tr F2, Or.inr (Or.inr (Or.inl ⟨rfl, hmi, ts, I2⟩))⟩)
    n row.length (nI 0) h (by omega) ⟨0, ys, by omega, by omega, rfl, hI, Fr.rf _ _ _, rfl⟩
  unfold f_Arguments_readRow
  rw [show (0 : Int32) = nI 0 from rfl, e]
  simp only [hbW]
  rcases hb with ⟨rfl, hm, hz⟩ | ⟨rfl, hm, hz⟩ | ⟨rfl, hm, hz⟩ | ⟨rfl, zs, hm, hz⟩
  · exact ⟨1, h', rfl, F, by rw [hm]; exact ⟨rfl, hz⟩⟩
  · exact ⟨2, h', rfl, F, by rw [hm]; exact ⟨rfl, hz⟩⟩
  · exact ⟨3, h', rfl, F, by rw [hm]; exact ⟨rfl, hz⟩⟩
  · exact ⟨nI 0, h', rfl, F, by rw [hm]; exact ⟨rfl, hz⟩⟩
/-- how reading argument a ended -/
def cRd (x : Nat) (o : oT) (h : hH) (a c : Nat) (code : Int32) (res : Int32 ⊕ (List Int32 × List Int32)) : Prop := match res with
  | .inl f => code = f ∧ (∃ zs, cI x o h zs) ∧ ∃ as, Rf o h (19 + a) (x + 35 + 2 * a) 400 c as
  | .inr q => code = 0 ∧ cI x o h q.2 ∧ Rf o h (19 + a) (x + 35 + 2 * a) 400 c q.1
theorem c_blanks {n x nx a p : Nat} {ma : Nat} {o : oT} {h : hH} {ys : List Int32} {fb : Int32 → Bool} (hI : cI x o h ys) (hA : cA x o h) (hn : 3000 < n) : ∃ h' zs, hloopA (f_Arguments_readNext_b13 n (x + 35) ma (some p)) n (0 : Int32) nx h = some ((), 0, 0, h') ∧ cI x o h' zs ∧ Fr (fun b => b = 3) o o h h' ∧ mPlain fb ys = mPlain fb zs ∧ zs.length ≤ ys.length ∧ ∀ t ts, zs = t :: ts → t ≠ 256 := by
  have hle := hI.le
  obtain ⟨b, d, e, h', e1, hd, he, zs, I1, F1, hm, hz, hne⟩ := hloopA_rule (body := f_Arguments_readNext_b13 n (x + 35) ma (some p)) (fun k v nx1 sl h1 => nx1 = nx ∧ sl = 0 ∧ ∃ i zs, k = zs.length ∧ v = nI i ∧ i + zs.length = ys.length ∧ cI x o h1 zs ∧ Fr (fun b => b = 3) o o h h1 ∧ mPlain fb ys = mPlain fb zs) (fun _ nx1 sl h1 => nx1 = nx ∧ sl = 0 ∧ ∃ zs, cI x o h1 zs ∧ Fr (fun b => b = 3) o o h h1 ∧ mPlain fb ys = mPlain fb zs ∧ zs.length ≤ ys.length ∧ ∀ t ts, zs = t :: ts → t ≠ 256)
    (by
      rintro k v nx1 sl h1 ⟨rfl, rfl, i, zs, rfl, rfl, hiz, I1, F1, hmi⟩
      have A1 := hA.fr F1 (by decide)
      by_cases h3 : 3000 ≤ i
      · refine Or.inr ⟨(), 0, 0, h1, ?_, rfl, rfl, zs, I1, F1, hmi, by omega, fun t ts hz => ?_⟩
        · unfold f_Arguments_readNext_b13
          dsimp only
          rw [if_pos (show (3000 : Int32) ≤ _ from nI_le (a := 3000) h3 (by omega))]
        · rw [hz, List.length_cons] at hiz
          omega
      · have hbd : f_Arguments_readNext_b13 n (x + 35) ma (some p) (nI i) nx1 h1 = if mAt zs 0 = 256 then hbW (f_Input_take (x + 28) h1) (fun _ h39 => some (.inl (nI (i + 1)), 0, 0, h39)) else some (.inr (), 0, 0, h1) := by
          unfold f_Arguments_readNext_b13
          dsimp only
          rw [if_neg (show ¬ (3000 : Int32) ≤ _ from nI_ge (b := 3000) (by omega) (by omega)), A1.g0]
          simp only [Option.bind_some]
          rw [I1.obj]
          simp only [Option.bind_some]
          rw [I1.get, Option.bind_some, nI_1]
        cases zs with
        | nil => exact Or.inr ⟨(), 0, 0, h1, by rw [hbd, if_neg (by decide)], rfl, rfl, [], I1, F1, hmi, by simp, fun t ts hz => by cases hz⟩
        | cons t ts =>
          have h0 : mAt (t :: ts) 0 = t := mAt_in (k := 0) rfl (by decide)
          rw [h0] at hbd
          by_cases ht : t = 256
          · obtain ⟨h2, e2, I2, F2⟩ := I1.take
            rw [if_pos ht, e2] at hbd
            refine Or.inl ⟨nI (i + 1), ts.length, 0, 0, h2, hbd, by simp, rfl, rfl, i + 1, ts, rfl, rfl, ?_, I2, F1.tr F2, ?_⟩
            · rw [List.length_cons] at hiz
              omega
            · rw [hmi]
              simp [mPlain, ht]
          · refine Or.inr ⟨(), 0, 0, h1, by rw [hbd, if_neg ht], rfl, rfl, t :: ts, I1, F1, hmi, by omega, fun u us hz => ?_⟩
            cases hz
            exact ht)
    n ys.length (nI 0) nx 0 h (by omega) ⟨rfl, rfl, 0, ys, rfl, rfl, by omega, hI, Fr.rf _ _ _, rfl⟩
  refine ⟨h', zs, ?_, I1, F1, hm, hz, hne⟩
  rw [show (0 : Int32) = nI 0 from rfl, e1, show d = 0 by omega, show e = 0 by omega]
