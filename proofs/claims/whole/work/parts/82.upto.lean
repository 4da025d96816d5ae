/-! AN ARGUMENT UP TO ITS ROW: the class -/
theorem c_upto {n x nx m ma a c0 lr ar cr : Nat} {o : oT} {h : hH} {A : aS} {ys old row : List Int32} (hI : cI x o h ys) (hB : cB x o h A) (hN : aNm A) (hA : cA x o h) (hM : cMac o h A m ma) (hRow : Rw o h lr ar 200 cr row) (hlr : 100 ≤ lr) (hr0 : row.length ≠ 0) (hR : Rf o h (19 + a) (x + 35 + 2 * a) 400 c0 old) (h1 : 1 ≤ a) (h9 : a ≤ 9) (ho : Own o nx) (hn : 7000 < n) : ∃ (code : Int32) (dn ds c' : Nat) (o' : oT) (h' : hH), f_Arguments_readUpTo n (x + 35) ar (nI a) ma nx h = some (code, dn, ds, h') ∧ Own o' (nx + dn) ∧ Fr (fun b => b = 3 ∨ b = 19 + a) o o' h h' ∧ dn + c0 ≤ c' ∧ ds + 4 * c0 ≤ 4 * c' ∧ cRd x o' h' a c' code (mDelimS (mForb (aOut A) (aLng A m)) row ys) := by
  obtain ⟨fsA, hoA⟩ := hA.obj
  obtain ⟨fsR, hoR⟩ := hR.1.obj
  obtain ⟨hc, ec, Rc, Fc⟩ := hR.clear
  have Ic := hI.fr Fc (by show ¬ 3 = 19 + a; omega)
  have hle := hI.le
  have F0 : Fr (fun b => b = 3 ∨ b = 19 + a) o o h hc := Fc.mono (fun l q => Or.inr q)
  generalize hfb : mForb (aOut A) (aLng A m) = fb
  obtain ⟨b, d, e, h', el, hP⟩ := hloopA_rule (body := f_Arguments_readUpTo_b18 n (x + 35) ar ma (some (x + 35 + 2 * a)))
    (fun k v nx1 sl h1 => ∃ (dp i c1 : Nat) (acc zs : List Int32) (o1 : oT), k = zs.length ∧ v = (nI dp, nI i) ∧ i + zs.length = ys.length ∧ Own o1 nx1 ∧ cI x o1 h1 zs ∧ Rf o1 h1 (19 + a) (x + 35 + 2 * a) 400 c1 acc ∧ Fr (fun b => b = 3 ∨ b = 19 + a) o o1 h h1 ∧ nx1 + c0 ≤ nx + c1 ∧ sl + 4 * c0 ≤ 4 * c1 ∧ dp ≤ i ∧ dp = (mWD acc).1 ∧ mFine acc ∧ mDelim fb row ys 0 [] = mDelim fb row zs dp acc)
    (fun b nx1 sl h1 => ∃ (c1 : Nat) (o1 : oT), Own o1 nx1 ∧ Fr (fun b => b = 3 ∨ b = 19 + a) o o1 h h1 ∧ nx1 + c0 ≤ nx + c1 ∧ sl + 4 * c0 ≤ 4 * c1 ∧ ((b = .inl () ∧ ∃ acc zs, cI x o1 h1 zs ∧ Rf o1 h1 (19 + a) (x + 35 + 2 * a) 400 c1 acc ∧ (mWD acc).1 = 0 ∧ mFine acc ∧ row.length ≤ zs.length ∧ mDelim fb row ys 0 [] = .inr (acc, zs.drop row.length)) ∨ ∃ code, mDelim fb row ys 0 [] = .inl code ∧ (∃ zs, cI x o1 h1 zs) ∧ (∃ as, Rf o1 h1 (19 + a) (x + 35 + 2 * a) 400 c1 as) ∧ ((b = .inr (.inl ()) ∧ code = 2) ∨ (b = .inr (.inr (.inl ())) ∧ code = 7) ∨ (b = .inr (.inr (.inr (.inl ()))) ∧ code = 8) ∨ (b = .inr (.inr (.inr (.inr ()))) ∧ code = 1))))
    (by
      rintro k v nx1 sl h1 ⟨dp, i, c1, acc, zs, o1, rfl, rfl, hiz, O1, I1, R1, F1, hn1, hs1, hdi, hdw, hfine, hmi⟩
      have A1 := hA.fr F1 (by show ¬ (6 = 3 ∨ 6 = 19 + a); omega)
      have W1 := hRow.fr F1 (by show ¬ (lr = 3 ∨ lr = 19 + a); omega)
      have hnil : zs = [] → mDelim fb row ys 0 [] = .inl 1 := by
        intro hz
        rw [hmi, hz]
        simp only [mDelim]
        rw [if_neg (fun q => ?_)]
        cases row with
        | nil => exact hr0 rfl
        | cons r rs => simp [List.isPrefixOf] at q
      by_cases h3 : 3000 ≤ i
      · have hz : zs = [] := List.length_eq_zero_iff.mp (by omega)
        refine Or.inr ⟨_, 0, 0, h1, ?_, c1, o1, O1, F1, hn1, hs1, Or.inr ⟨1, hnil hz, ⟨zs, I1⟩, ⟨acc, R1⟩, Or.inr (Or.inr (Or.inr ⟨rfl, rfl⟩))⟩⟩
        unfold f_Arguments_readUpTo_b18
        dsimp only
        rw [if_pos (show (3000 : Int32) ≤ _ from nI_le (a := 3000) h3 (by omega))]
      · cases hzs : zs with
        | nil =>
          refine Or.inr ⟨_, 0, 0, h1, ?_, c1, o1, O1, F1, hn1, hs1, Or.inr ⟨1, hnil hzs, ⟨zs, I1⟩, ⟨acc, R1⟩, Or.inr (Or.inr (Or.inr ⟨rfl, rfl⟩))⟩⟩
          unfold f_Arguments_readUpTo_b18
          dsimp only
          rw [if_neg (show ¬ (3000 : Int32) ≤ _ from nI_ge (b := 3000) (by omega) (by omega)), A1.g0]
          simp only [Option.bind_some]
          rw [I1.obj]
          simp only [Option.bind_some]
          rw [I1.isEmpty, Option.bind_some, hzs]
          rfl
        | cons t ts =>
          rw [hzs] at I1 hiz hmi
          rw [mDelim_cons] at hmi
          have hle1 := I1.le
          have hpre : f_Arguments_readUpTo_b18 n (x + 35) ar ma (some (x + 35 + 2 * a)) (nI dp, nI i) nx1 h1 = if dp = 0 ∧ row.isPrefixOf (t :: ts) = true then some (.inr (.inl ()), 0, 0, h1) else f_Arguments_readUpTo_j70 n (x + 35) ar ma (some (x + 35 + 2 * a)) (nI dp) (nI i) nx1 h1 := by
            unfold f_Arguments_readUpTo_b18
            dsimp only
            rw [if_neg (show ¬ (3000 : Int32) ≤ _ from nI_ge (b := 3000) (by omega) (by omega)), A1.g0]
            simp only [Option.bind_some]
            rw [I1.obj]
            simp only [Option.bind_some]
            rw [I1.isEmpty, Option.bind_some, if_pos (by simp)]
            by_cases hd0 : dp = 0
            · rw [hd0, if_pos (by decide), cI.beginsWith I1 W1 (by decide) (by omega), Option.bind_some]
              cases hp : row.isPrefixOf (t :: ts)
              · rw [if_pos (by decide), if_neg (fun q => by cases q.2)]
              · rw [if_neg (by decide), if_pos ⟨rfl, rfl⟩]
            · rw [if_neg (nI_ne0 (by omega) (by omega)), if_neg (fun q => hd0 q.1)]
          by_cases hp : dp = 0 ∧ row.isPrefixOf (t :: ts) = true
          · rw [if_pos hp] at hpre hmi
            exact Or.inr ⟨_, 0, 0, h1, hpre, c1, o1, O1, F1, hn1, hs1, Or.inl ⟨rfl, acc, t :: ts, I1, R1, by omega, hfine, (List.isPrefixOf_iff_prefix.mp hp.2).length_le, hmi⟩⟩
          · rw [if_neg hp] at hpre hmi
            rw [List.length_cons] at hiz
            obtain ⟨h2, e2, I2, F2⟩ := I1.take
            have F12 : Fr (fun b => b = 3 ∨ b = 19 + a) o o1 h h2 := F1.tr (F2.mono (fun l q => Or.inl q))
            have A2 := hA.fr F12 (by show ¬ (6 = 3 ∨ 6 = 19 + a); omega)
            have B2 := hB.fr F12 (by show ¬ (1 = 3 ∨ 1 = 19 + a); omega) (fun l _ => by show ¬ (l = 3 ∨ l = 19 + a); omega)
            have M2 := hM.fr F12 (fun l _ _ => by show ¬ (l = 3 ∨ l = 19 + a); omega)
            have R2 := R1.fr F2 (by show ¬ 19 + a = 3; omega)
            obtain ⟨fs2, ho2⟩ := A2.obj
            obtain ⟨fs3, ho3⟩ := R2.1.obj
            have hal := R2.1.le
            have hbd : f_Arguments_readUpTo_j70 n (x + 35) ar ma (some (x + 35 + 2 * a)) (nI dp) (nI i) nx1 h1 = if fb t = true then some (.inr (.inr (.inl ())), 0, 0, h2) else if 0 ≤ nI dp + mNest t then (if acc.length = 400 then some (.inr (.inr (.inr (.inr (.inl ())))), 0, 0, h2) else hbind (f_Row_add (x + 35 + 2 * a) t nx1 h2) nx1 fun _ nx124 h124 => some (.inl (nI dp + mNest t, nI (i + 1)), 0, 0, h124)) else some (.inr (.inr (.inr (.inl ()))), 0, 0, h2) := by
              unfold f_Arguments_readUpTo_j70
              rw [A1.g0]
              simp only [Option.bind_some]
              rw [I1.obj, Option.bind_some, e2]
              simp only [hbW]
              rw [ho2, Option.bind_some, c_forb B2 hN A2 M2, Option.bind_some, hfb, b01_if, c_nest, Option.bind_some, ho3]
              simp only [Option.bind_some]
              rw [R2.1.full (by decide), Option.bind_some, nI_1]
              by_cases h4 : acc.length = 400
              · rw [if_pos h4, if_neg (show ¬ (if acc.length < 400 then (0 : Int32) else 1) = 0 by rw [if_neg (by omega)]; decide)]
              · rw [if_neg h4, if_pos (show (if acc.length < 400 then (0 : Int32) else 1) = 0 by rw [if_pos (by omega)])]
            rw [hbd] at hpre
            by_cases hf : fb t = true
            · rw [if_pos hf] at hpre hmi
              exact Or.inr ⟨_, 0, 0, h2, hpre, c1, o1, O1, F12, hn1, hs1, Or.inr ⟨2, hmi, ⟨ts, I2⟩, ⟨acc, R2⟩, Or.inl ⟨rfl, rfl⟩⟩⟩
            · rw [if_neg hf] at hpre hmi
              by_cases h7 : t = 258 ∧ dp = 0
              · rw [if_pos h7] at hmi
                rw [h7.1, h7.2, if_neg (by decide)] at hpre
                exact Or.inr ⟨_, 0, 0, h2, by rw [h7.2]; exact hpre, c1, o1, O1, F12, hn1, hs1, Or.inr ⟨7, hmi, ⟨ts, I2⟩, ⟨acc, R2⟩, Or.inr (Or.inl ⟨rfl, rfl⟩)⟩⟩
              · rw [if_neg h7] at hmi
                have h58 : t = 258 → 0 < dp := fun q => Nat.pos_of_ne_zero (fun z => h7 ⟨q, z⟩)
                have hml := mDep_le (t := t) (d := dp)
                rw [mNest_nat h58 (by omega), if_pos (nI_pos' (by omega))] at hpre
                by_cases h4 : acc.length = 400
                · rw [if_pos h4] at hpre hmi
                  exact Or.inr ⟨_, 0, 0, h2, hpre, c1, o1, O1, F12, hn1, hs1, Or.inr ⟨8, hmi, ⟨ts, I2⟩, ⟨acc, R2⟩, Or.inr (Or.inr (Or.inl ⟨rfl, rfl⟩))⟩⟩
                · rw [if_neg h4] at hpre hmi
                  obtain ⟨c2, dn, ds, o2, h3', e3, O3, R3, F3, g1, g2⟩ := R2.add t O1 (by omega)
                  refine Or.inl ⟨(nI (mDep t dp), nI (i + 1)), ts.length, dn, ds, h3', ?_, by simp, mDep t dp, i + 1, c2, acc ++ [t], ts, o2, rfl, rfl, by omega, O3, I2.fr F3 (by show ¬ 3 = 19 + a; omega), R3, F12.tr (F3.mono (fun l q => Or.inr q)), by omega, by omega, by omega, ?_, hfine.snoc (fun q => by rw [← hdw]; exact h58 q), hmi⟩
                  · rw [hpre, e3]
                    simp [hbind]
                  · rw [mWD_snoc, hdw]
                    rfl)
    n ys.length (nI 0, nI 0) nx 0 hc (by omega) ⟨0, 0, c0, [], ys, o, rfl, rfl, by omega, ho, Ic, Rc, F0, by omega, by omega, by omega, rfl, mFine_nil, rfl⟩
  obtain ⟨c1, o1, O1, F1, g1, g2, hres⟩ := hP
  have hhead : f_Arguments_readUpTo n (x + 35) ar (nI a) ma nx h = hbind (some (b, d, e, h')) nx fun b18 nx18l h18l => match b18 with
      | .inl z18 =>
        (hgR h18l (x + 35) 2 0).bind fun v53 =>
        (hgI h18l ar 8 2).bind fun v57 =>
        (v53).bind fun p60 =>
        (hObj h18l p60 6).bind fun c60 =>
        hbW (f_Input_drop p60 v57 h18l) fun _ h60 =>
        (hObj h60 (x + 35 + 2 * a) 8).bind fun c65 =>
        hbW (f_Row_leaveOutOuterPair n (x + 35 + 2 * a) h60) fun _ h65 =>
        some ((0 : Int32), 0, 0, h65)
      | .inr (.inl z18) => some ((2 : Int32), 0, 0, h18l)
      | .inr (.inr (.inl z18)) => some ((7 : Int32), 0, 0, h18l)
      | .inr (.inr (.inr (.inl z18))) => some ((8 : Int32), 0, 0, h18l)
      | .inr (.inr (.inr (.inr (z18)))) => some ((1 : Int32), 0, 0, h18l) := by
    unfold f_Arguments_readUpTo
    rw [hoA, Option.bind_some, hA.arg h1 h9, Option.bind_some, Option.bind_some, hoR, Option.bind_some, ec]
    simp only [hbW]
    rw [show ((0 : Int32), (0 : Int32)) = (nI 0, nI 0) from rfl, el]
    all_goals rfl
  rw [hhead]
  unfold mDelimS
  rcases hres with ⟨rfl, acc, zs, I1, R1, hd0, hfine, hzl, hm⟩ | ⟨code, hm, hz, has, hb4⟩
  · have A1 := hA.fr F1 (by show ¬ (6 = 3 ∨ 6 = 19 + a); omega)
    have W1 := hRow.fr F1 (by show ¬ (lr = 3 ∨ lr = 19 + a); omega)
    obtain ⟨h2, e2, I2, F2⟩ := I1.dropN hzl
    have R2 := R1.fr F2 (by show ¬ 19 + a = 3; omega)
    obtain ⟨fs2, ho2⟩ := R2.1.obj
    obtain ⟨h3, e3, R3, F3⟩ := R2.1.outer (n := n) (by decide) hfine hd0 (by omega)
    refine ⟨0, d, e, c1, o1, h3, ?_, O1, (F1.tr (F2.mono (fun l q => Or.inl q))).tr (F3.mono (fun l q => Or.inr q)), by omega, by omega, ?_⟩
    · simp only [hbind]
      rw [A1.g0]
      simp only [Option.bind_some]
      rw [W1.size, Option.bind_some, I1.obj, Option.bind_some, e2]
      simp only [hbW]
      rw [ho2, Option.bind_some, e3]
      simp
    · rw [hm]
      exact ⟨rfl, I2.fr F3 (by show ¬ 3 = 19 + a; omega), R3, R2.2⟩
  · refine ⟨code, d, e, c1, o1, h', ?_, O1, F1, by omega, by omega, ?_⟩
    · simp only [hbind]
      rcases hb4 with ⟨rfl, rfl⟩ | ⟨rfl, rfl⟩ | ⟨rfl, rfl⟩ | ⟨rfl, rfl⟩ <;> simp
    · rw [hm]
      exact ⟨rfl, hz, has⟩
