/-! AN ARGUMENT WITHOUT A ROW BEHIND IT, AND ONE WITH: the class -/
theorem b01_if {α : Type} {b : Bool} {p q : α} : (if b01 b = 0 then p else q) = if b = true then q else p := by
  cases b <;> rfl
theorem c_next {n x nx m ma a c0 : Nat} {o : oT} {h : hH} {A : aS} {ys old : List Int32} (hI : cI x o h ys) (hB : cB x o h A) (hN : aNm A) (hA : cA x o h) (hM : cMac o h A m ma) (hR : Rf o h (19 + a) (x + 35 + 2 * a) 400 c0 old) (h1 : 1 ≤ a) (h9 : a ≤ 9) (ho : Own o nx) (hn : 7000 < n) : ∃ (code : Int32) (dn ds c' : Nat) (o' : oT) (h' : hH), f_Arguments_readNext n (x + 35) (nI a) ma nx h = some (code, dn, ds, h') ∧ Own o' (nx + dn) ∧ Fr (fun b => b = 3 ∨ b = 19 + a) o o' h h' ∧ dn + c0 ≤ c' ∧ ds + 4 * c0 ≤ 4 * c' ∧ cRd x o' h' a c' code (mPlain (mForb (aOut A) (aLng A m)) ys) := by
  obtain ⟨fsA, hoA⟩ := hA.obj
  obtain ⟨fsR, hoR⟩ := hR.1.obj
  obtain ⟨hc, ec, Rc, Fc⟩ := hR.clear
  have Ic := hI.fr Fc (by show ¬ 3 = 19 + a; omega)
  have Ac := hA.fr Fc (by show ¬ 6 = 19 + a; omega)
  have Bc := hB.fr Fc (by show ¬ 1 = 19 + a; omega) (fun l _ => by show ¬ l = 19 + a; omega)
  have Mc := hM.fr Fc (fun l _ _ => by show ¬ l = 19 + a; omega)
  generalize hfb : mForb (aOut A) (aLng A m) = fb
  obtain ⟨hb, zs0, eb, Ib, Fb, hmb, hzb, hne⟩ := c_blanks (n := n) (nx := nx) (p := x + 35 + 2 * a) (ma := ma) (a := a) (fb := fb) Ic Ac (by omega)
  have hle := Ib.le
  have Rb := Rc.fr Fb (by show ¬ 19 + a = 3; omega)
  have F0 : Fr (fun b => b = 3 ∨ b = 19 + a) o o h hb := (Fc.mono (fun l q => Or.inr q)).tr (Fb.mono (fun l q => Or.inl q))
  obtain ⟨b, d, e, h', el, hP⟩ := hloopA_rule (body := f_Arguments_readNext_b55 n (x + 35) ma (some (x + 35 + 2 * a)))
    (fun k v nx1 sl h1 => ∃ (dp i c1 : Nat) (acc zs : List Int32) (o1 : oT), k = zs.length ∧ v = (nI dp, nI i) ∧ i + zs.length = zs0.length ∧ Own o1 nx1 ∧ cI x o1 h1 zs ∧ Rf o1 h1 (19 + a) (x + 35 + 2 * a) 400 c1 acc ∧ Fr (fun b => b = 3 ∨ b = 19 + a) o o1 h h1 ∧ nx1 + c0 ≤ nx + c1 ∧ sl + 4 * c0 ≤ 4 * c1 ∧ ((dp = 0 ∧ acc = [] ∧ zs = zs0) ∨ (0 < dp ∧ dp ≤ i ∧ mPlain fb zs0 = mIn fb zs dp acc)))
    (fun b nx1 sl h1 => ∃ (code : Int32) (c1 : Nat) (o1 : oT), Own o1 nx1 ∧ Fr (fun b => b = 3 ∨ b = 19 + a) o o1 h h1 ∧ nx1 + c0 ≤ nx + c1 ∧ sl + 4 * c0 ≤ 4 * c1 ∧ cRd x o1 h1 a c1 code (mPlain fb zs0) ∧ ((b = .inl () ∧ code = 2) ∨ (b = .inr (.inl ()) ∧ code = 7) ∨ (b = .inr (.inr (.inl ())) ∧ code = 0) ∨ (b = .inr (.inr (.inr (.inl ()))) ∧ code = 8) ∨ (b = .inr (.inr (.inr (.inr (.inl ())))) ∧ code = 0) ∨ (b = .inr (.inr (.inr (.inr (.inr ())))) ∧ code = 1)))
    (by
      rintro k v nx1 sl h1 ⟨dp, i, c1, acc, zs, o1, rfl, rfl, hiz, O1, I1, R1, F1, hn1, hs1, hcase⟩
      have A1 := hA.fr F1 (by show ¬ (6 = 3 ∨ 6 = 19 + a); omega)
      have hdp : dp ≤ i := by rcases hcase with ⟨q, -, -⟩ | ⟨-, q, -⟩ <;> omega
      have hnil : zs = [] → mPlain fb zs0 = .inl 1 := by
        intro hz
        rcases hcase with ⟨-, -, q⟩ | ⟨-, -, q⟩
        · rw [← q, hz]
          rfl
        · rw [q, hz]
          rfl
      by_cases h3 : 3000 ≤ i
      · have hz : zs = [] := List.length_eq_zero_iff.mp (by omega)
        refine Or.inr ⟨_, 0, 0, h1, ?_, 1, c1, o1, O1, F1, hn1, hs1, ?_, Or.inr (Or.inr (Or.inr (Or.inr (Or.inr ⟨rfl, rfl⟩))))⟩
        · unfold f_Arguments_readNext_b55
          dsimp only
          rw [if_pos (show (3000 : Int32) ≤ _ from nI_le (a := 3000) h3 (by omega))]
        · rw [hnil hz]
          exact ⟨rfl, ⟨zs, I1⟩, acc, R1⟩
      · cases hzs : zs with
        | nil =>
          refine Or.inr ⟨_, 0, 0, h1, ?_, 1, c1, o1, O1, F1, hn1, hs1, ?_, Or.inr (Or.inr (Or.inr (Or.inr (Or.inr ⟨rfl, rfl⟩))))⟩
          · unfold f_Arguments_readNext_b55
            dsimp only
            rw [if_neg (show ¬ (3000 : Int32) ≤ _ from nI_ge (b := 3000) (by omega) (by omega)), A1.g0]
            simp only [Option.bind_some]
            rw [I1.obj]
            simp only [Option.bind_some]
            rw [I1.isEmpty, Option.bind_some, hzs]
            rfl
          · rw [hnil hzs]
            exact ⟨rfl, ⟨zs, I1⟩, acc, R1⟩
        | cons t ts =>
          rw [hzs] at I1 hiz hcase
          rw [List.length_cons] at hiz
          obtain ⟨h2, e2, I2, F2⟩ := I1.take
          have F12 : Fr (fun b => b = 3 ∨ b = 19 + a) o o1 h h2 := F1.tr (F2.mono (fun l q => Or.inl q))
          have A2 := hA.fr F12 (by show ¬ (6 = 3 ∨ 6 = 19 + a); omega)
          have B2 := hB.fr F12 (by show ¬ (1 = 3 ∨ 1 = 19 + a); omega) (fun l _ => by show ¬ (l = 3 ∨ l = 19 + a); omega)
          have M2 := hM.fr F12 (fun l _ _ => by show ¬ (l = 3 ∨ l = 19 + a); omega)
          have R2 := R1.fr F2 (by show ¬ 19 + a = 3; omega)
          obtain ⟨fs2, ho2⟩ := A2.obj
          obtain ⟨fs3, ho3⟩ := R2.1.obj
          have hbd : f_Arguments_readNext_b55 n (x + 35) ma (some (x + 35 + 2 * a)) (nI dp, nI i) nx1 h1 = if fb t = true then some (.inr (.inl ()), 0, 0, h2) else if 0 ≤ nI dp + mNest t then (if nI dp = 0 then (if nI dp + mNest t = 1 then f_Arguments_readNext_j166 n (x + 35) ma (some (x + 35 + 2 * a)) (nI dp + mNest t) (nI i) nx1 h2 else f_Arguments_readNext_j130 n (x + 35) ma (some (x + 35 + 2 * a)) (nI dp + mNest t) (nI i) t (nI dp) nx1 h2) else f_Arguments_readNext_j130 n (x + 35) ma (some (x + 35 + 2 * a)) (nI dp + mNest t) (nI i) t (nI dp) nx1 h2) else some (.inr (.inr (.inl ())), 0, 0, h2) := by
            unfold f_Arguments_readNext_b55
            dsimp only
            rw [if_neg (show ¬ (3000 : Int32) ≤ _ from nI_ge (b := 3000) (by omega) (by omega)), A1.g0]
            simp only [Option.bind_some]
            rw [I1.obj]
            simp only [Option.bind_some]
            rw [I1.isEmpty, Option.bind_some, if_pos (by simp), e2]
            simp only [hbW]
            rw [ho2, Option.bind_some, c_forb B2 hN A2 M2, Option.bind_some, hfb, b01_if, c_nest, Option.bind_some]
          have hfull := R2.1.full (by decide)
          have hal := R2.1.le
          have hkind : ∀ (p : Int32), f_Arguments_readNext_j143 n (x + 35) ma (some (x + 35 + 2 * a)) p (nI i) t nx1 h2 = if acc.length = 400 then some (.inr (.inr (.inr (.inr (.inl ())))), 0, 0, h2) else hbind (f_Row_add (x + 35 + 2 * a) t nx1 h2) nx1 fun _ nx156 h156 => if p = 0 then some (.inr (.inr (.inr (.inr (.inr (.inl ()))))), 0, 0, h156) else some (.inl (p, nI (i + 1)), 0, 0, h156) := by
            intro p
            unfold f_Arguments_readNext_j143 f_Arguments_readNext_j166
            rw [Option.bind_some, ho3]
            simp only [Option.bind_some]
            rw [hfull, Option.bind_some, nI_1]
            by_cases h4 : acc.length = 400
            · rw [if_pos h4, if_neg (by rw [if_neg (by omega)]; decide)]
            · rw [if_neg h4, if_pos (by rw [if_pos (by omega)])]
          rcases hcase with ⟨rfl, rfl, hz0⟩ | ⟨hd0, hdi, hmi⟩
          · have hm0 : mPlain fb zs0 = if fb t then .inl 2 else if t = 258 then .inl 7 else if t = 257 then mIn fb ts 1 [] else .inr ([t], ts) := by
              rw [← hz0]
              have := hne t ts hz0.symm
              simp [mPlain, this]
            by_cases hf : fb t = true
            · refine Or.inr ⟨_, 0, 0, h2, by rw [hbd, if_pos hf], 2, c1, o1, O1, F12, hn1, hs1, ?_, Or.inl ⟨rfl, rfl⟩⟩
              rw [hm0, if_pos hf]
              exact ⟨rfl, ⟨ts, I2⟩, [], R2⟩
            · rw [if_neg hf] at hbd hm0
              by_cases h58 : t = 258
              · rw [if_pos h58] at hm0
                refine Or.inr ⟨_, 0, 0, h2, ?_, 7, c1, o1, O1, F12, hn1, hs1, ?_, Or.inr (Or.inl ⟨rfl, rfl⟩)⟩
                · rw [hbd, h58, if_neg (by decide)]
                · rw [hm0]
                  exact ⟨rfl, ⟨ts, I2⟩, [], R2⟩
              · rw [if_neg h58] at hm0
                by_cases h57 : t = 257
                · rw [if_pos h57] at hm0
                  refine Or.inl ⟨(nI 1, nI (i + 1)), ts.length, 0, 0, h2, ?_, by simp, 1, i + 1, c1, [], ts, o1, rfl, rfl, by omega, O1, I2, R2, F12, hn1, hs1, Or.inr ⟨by omega, by omega, hm0⟩⟩
                  rw [hbd, h57, if_pos (by decide), if_pos (by decide), if_pos (by decide)]
                  unfold f_Arguments_readNext_j166
                  rw [nI_1]
                  rfl
                · rw [if_neg h57] at hm0
                  have hnest : mNest t = 0 := by simp [mNest, h57, h58]
                  obtain ⟨c2, dn, ds, o2, h3, e3, O3, R3, F3, g1, g2⟩ := R2.add t O1 (by decide)
                  refine Or.inr ⟨_, dn, ds, h3, ?_, 0, c2, o2, O3, F12.tr (F3.mono (fun l q => Or.inr q)), by omega, by omega, ?_, Or.inr (Or.inr (Or.inr (Or.inr (Or.inl ⟨rfl, rfl⟩))))⟩
                  · rw [hbd, hnest, if_pos (by decide), if_pos (by decide), if_neg (by decide)]
                    unfold f_Arguments_readNext_j130
                    rw [if_neg (by decide), hkind, if_neg (by decide), e3]
                    simp only [hbind]
                    rw [if_pos (by decide)]
                    simp
                  · rw [hm0]
                    exact ⟨rfl, I2.fr F3 (by show ¬ 3 = 19 + a; omega), R3⟩
          · rw [mIn_cons] at hmi
            have hdn : nI dp ≠ 0 := nI_ne0 hd0 (by omega)
            have hnx : nI dp + mNest t = nI (mDep t dp) := mNest_nat (fun _ => hd0) (by omega)
            have hml := mDep_le (t := t) (d := dp)
            rw [hnx] at hbd
            by_cases hf : fb t = true
            · rw [if_pos hf] at hmi
              refine Or.inr ⟨_, 0, 0, h2, by rw [hbd, if_pos hf], 2, c1, o1, O1, F12, hn1, hs1, ?_, Or.inl ⟨rfl, rfl⟩⟩
              rw [hmi]
              exact ⟨rfl, ⟨ts, I2⟩, acc, R2⟩
            · rw [if_neg hf] at hbd hmi
              rw [if_pos (nI_pos' (by omega)), if_neg hdn] at hbd
              unfold f_Arguments_readNext_j130 at hbd
              by_cases hend : t = 258 ∧ dp = 1
              · rw [if_pos hend] at hmi
                refine Or.inr ⟨_, 0, 0, h2, ?_, 0, c1, o1, O1, F12, hn1, hs1, ?_, Or.inr (Or.inr (Or.inl ⟨rfl, rfl⟩))⟩
                · rw [hbd, hend.1, hend.2, if_pos (by decide), if_pos (by decide)]
                · rw [hmi]
                  exact ⟨rfl, I2, R2⟩
              · rw [if_neg hend] at hmi
                have hpos : 0 < mDep t dp := by
                  unfold mDep
                  split
                  · omega
                  · split
                    · rename_i h58
                      have : dp ≠ 1 := fun q => hend ⟨h58, q⟩
                      omega
                    · exact hd0
                have hz : nI (mDep t dp) ≠ 0 := nI_ne0 hpos (by omega)
                have hbd2 : f_Arguments_readNext_b55 n (x + 35) ma (some (x + 35 + 2 * a)) (nI dp, nI i) nx1 h1 = f_Arguments_readNext_j143 n (x + 35) ma (some (x + 35 + 2 * a)) (nI (mDep t dp)) (nI i) t nx1 h2 := by
                  rw [hbd]
                  split
                  · first
                    | rfl
                    | rw [if_neg hz]
                  · rfl
                rw [hkind] at hbd2
                by_cases h4 : acc.length = 400
                · rw [if_pos h4] at hbd2 hmi
                  refine Or.inr ⟨_, 0, 0, h2, hbd2, 8, c1, o1, O1, F12, hn1, hs1, ?_, Or.inr (Or.inr (Or.inr (Or.inl ⟨rfl, rfl⟩)))⟩
                  rw [hmi]
                  exact ⟨rfl, ⟨ts, I2⟩, acc, R2⟩
                · rw [if_neg h4] at hbd2 hmi
                  obtain ⟨c2, dn, ds, o2, h3, e3, O3, R3, F3, g1, g2⟩ := R2.add t O1 (by omega)
                  refine Or.inl ⟨(nI (mDep t dp), nI (i + 1)), ts.length, dn, ds, h3, ?_, by simp, mDep t dp, i + 1, c2, acc ++ [t], ts, o2, rfl, rfl, by omega, O3, I2.fr F3 (by show ¬ 3 = 19 + a; omega), R3, F12.tr (F3.mono (fun l q => Or.inr q)), by omega, by omega, Or.inr ⟨hpos, by omega, hmi⟩⟩
                  rw [hbd2, e3]
                  simp only [hbind]
                  rw [if_neg hz]
                  simp)
    n zs0.length (nI 0, nI 0) nx 0 hb (by omega) ⟨0, 0, c0, [], zs0, o, rfl, rfl, by omega, ho, Ib, Rb, F0, by omega, by omega, Or.inl ⟨rfl, rfl, rfl⟩⟩
  obtain ⟨code, c1, o1, O1, F1, g1, g2, hres, hb6⟩ := hP
  refine ⟨code, d, e, c1, o1, h', ?_, O1, F1, by omega, by omega, by rw [hfb] at *; rw [show mPlain fb ys = mPlain fb zs0 from hmb]; exact hres⟩
  unfold f_Arguments_readNext
  rw [hoA, Option.bind_some, hA.arg h1 h9, Option.bind_some, Option.bind_some, hoR, Option.bind_some, ec]
  simp only [hbW]
  rw [eb]
  simp only [hbind, Nat.add_zero]
  rw [show ((0 : Int32), (0 : Int32)) = (nI 0, nI 0) from rfl, el]
  rcases hb6 with ⟨rfl, rfl⟩ | ⟨rfl, rfl⟩ | ⟨rfl, rfl⟩ | ⟨rfl, rfl⟩ | ⟨rfl, rfl⟩ | ⟨rfl, rfl⟩ <;> simp
