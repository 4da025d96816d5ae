/-! THE CLASS EXPANDS A MACRO -/
def sumN (f : Nat → Nat) : Nat → Nat
  | 0 => 0
  | j + 1 => sumN f j + f (j + 1)
def nUp (f : Nat → Nat) (a c : Nat) : Nat → Nat := fun b => if b = a then c else f b
theorem nUp_self (f : Nat → Nat) (a c : Nat) : nUp f a c a = c := by simp [nUp]
theorem nUp_ne (f : Nat → Nat) {a b : Nat} (c : Nat) (h : b ≠ a) : nUp f a c b = f b := by simp [nUp, h]
theorem sumN_out (f : Nat → Nat) {a c : Nat} : ∀ n, n < a → sumN (nUp f a c) n = sumN f n
  | 0, _ => rfl
  | n + 1, h => by
    simp only [sumN]
    rw [sumN_out f n (by omega), nUp_ne _ _ (by omega)]
theorem sumN_up (f : Nat → Nat) {a c : Nat} (ha : 1 ≤ a) : ∀ n, a ≤ n → sumN (nUp f a c) n + f a = sumN f n + c
  | 0, h => by omega
  | n + 1, h => by
    simp only [sumN]
    by_cases hn : a = n + 1
    · rw [← hn, sumN_out f n (by omega), nUp_self]
      omega
    · have := sumN_up f (c := c) ha n (by omega)
      rw [nUp_ne _ _ (Ne.symm hn)]
      omega
def cWn (b : Nat) : Prop := b = 3 ∨ b = 4 ∨ b = 5 ∨ (20 ≤ b ∧ b ≤ 28)
theorem c_argsLoop {n x nx m ma : Nat} {x1 x3 : Int32} {o : oT} {h : hH} {A : aS} {ar : Nat → List Int32} {cp : Nat → Nat} {ys : List Int32} {code0 : Int32} {g fr nw hd st nm : Int32} (hB : cB x o h A) (hN : aNm A) (hA : cA x o h) (hE : cEo x o h g fr nw hd st nm) (hM : cMac o h A m ma) (hR : cR x o h cp ar) (ho : Own o nx) (hI : ∃ zs, cI x o h zs ∧ (code0 = 0 → zs = ys)) (hn : 7000 < n) : ∃ (code : Int32) (dn ds : Nat) (cp' : Nat → Nat) (ar' : Nat → List Int32) (o' : oT) (h' : hH), hloopA (f_Expander_expandName_b27 n (x + 30) x1 ma x3) n (code0, (1 : Int32)) nx h = some (code, dn, ds, h') ∧ Own o' (nx + dn) ∧ Fr (fun b => b = 3 ∨ (20 ≤ b ∧ b ≤ 28)) o o' h h' ∧ dn + sumN cp 21 ≤ sumN cp' 21 ∧ ds + 4 * sumN cp 21 ≤ 4 * sumN cp' 21 ∧ cR x o' h' cp' ar' ∧ (∀ j, 9 < j → cp' j = cp j) ∧ (∃ zs, cI x o' h' zs) ∧ (code0 ≠ 0 → code = code0) ∧ (code0 = 0 → match mArgs (mForb (aOut A) (aLng A m)) (aRow A m) (aNum A m) 1 ys (fun _ => []) with
    | .inl c => code = c
    | .inr q => code = 0 ∧ cI x o' h' q.2 ∧ ∀ b, 1 ≤ b → b ≤ aNum A m → ar' b = q.1 b) := by
  have hk : aNum A m ≤ 9 := by
    obtain ⟨ra, ta, f, e1, e2, t1, t2, hk, -⟩ := hM
    exact hk
  generalize hfb : mForb (aOut A) (aLng A m) = fb
  obtain ⟨zs0, I0, hz0⟩ := hI
  obtain ⟨b, d, e, h', el, hP⟩ := hloopA_rule (body := f_Expander_expandName_b27 n (x + 30) x1 ma x3)
    (fun k v nx1 sl h1 => ∃ (code : Int32) (a : Nat) (cp1 : Nat → Nat) (ar1 as : Nat → List Int32) (zs : List Int32) (o1 : oT), k = aNum A m + 1 - a ∧ v = (code, nI a) ∧ 1 ≤ a ∧ a ≤ aNum A m + 1 ∧ Own o1 nx1 ∧ Fr (fun b => b = 3 ∨ (20 ≤ b ∧ b ≤ 28)) o o1 h h1 ∧ nx1 + sumN cp 21 ≤ nx + sumN cp1 21 ∧ sl + 4 * sumN cp 21 ≤ 4 * sumN cp1 21 ∧ cR x o1 h1 cp1 ar1 ∧ (∀ j, 9 < j → cp1 j = cp j) ∧ cI x o1 h1 zs ∧ (code0 ≠ 0 → code = code0) ∧ (code0 = 0 → (code = 0 ∧ (∀ b, 1 ≤ b → b < a → ar1 b = as b) ∧ mArgs fb (aRow A m) (aNum A m) 1 ys (fun _ => []) = mArgs fb (aRow A m) (aNum A m + 1 - a) a zs as) ∨ (code ≠ 0 ∧ mArgs fb (aRow A m) (aNum A m) 1 ys (fun _ => []) = .inl code)))
    (fun b nx1 sl h1 => ∃ (cp1 : Nat → Nat) (ar1 : Nat → List Int32) (o1 : oT), Own o1 nx1 ∧ Fr (fun b => b = 3 ∨ (20 ≤ b ∧ b ≤ 28)) o o1 h h1 ∧ nx1 + sumN cp 21 ≤ nx + sumN cp1 21 ∧ sl + 4 * sumN cp 21 ≤ 4 * sumN cp1 21 ∧ cR x o1 h1 cp1 ar1 ∧ (∀ j, 9 < j → cp1 j = cp j) ∧ (∃ zs, cI x o1 h1 zs) ∧ (code0 ≠ 0 → b = code0) ∧ (code0 = 0 → match mArgs fb (aRow A m) (aNum A m) 1 ys (fun _ => []) with
      | .inl c => b = c
      | .inr q => b = 0 ∧ cI x o1 h1 q.2 ∧ ∀ b, 1 ≤ b → b ≤ aNum A m → ar1 b = q.1 b))
    (by
      rintro k v nx1 sl h1 ⟨code, a, cp1, ar1, as, zs, o1, rfl, rfl, ha1, hak, O1, F1, g1, g2, R1, hcp, I1, hc1, hc2⟩
      have w1 : ∀ l, (l < 3 ∨ 100 ≤ l ∨ l = 4 ∨ l = 6) → ¬ (l = 3 ∨ (20 ≤ l ∧ l ≤ 28)) := fun l hl => by omega
      have A1 := hA.fr F1 (w1 6 (by omega))
      have B1 := hB.fr F1 (w1 1 (by omega)) (fun l hl => w1 l (by omega))
      have M1 := hM.fr F1 (fun l hl _ => w1 l (by omega))
      have E1 := hE.fr F1 (w1 4 (by omega))
      obtain ⟨fsA, hoA⟩ := A1.obj
      have hk0 : hgI h1 ma 7 0 = some (nI (aNum A m)) := by
        obtain ⟨ra, ta, f, e1, -⟩ := M1
        exact k7_g0 e1
      have hM7 : ∃ fs, hObj h1 ma 7 = some fs := by
        obtain ⟨ra, ta, f, e1, -⟩ := M1
        exact ⟨_, k7_o e1⟩
      obtain ⟨fs7, ho7⟩ := hM7
      by_cases he : a = aNum A m + 1
      · refine Or.inr ⟨code, 0, 0, h1, ?_, cp1, ar1, o1, O1, F1, g1, g2, R1, hcp, ⟨zs, I1⟩, hc1, fun q => ?_⟩
        · unfold f_Expander_expandName_b27
          dsimp only
          rw [hk0, Option.bind_some, if_pos (nI_lt (by omega) (by omega))]
        · rcases hc2 q with ⟨q1, q2, q3⟩ | ⟨q1, q2⟩
          · rw [q3, show aNum A m + 1 - a = 0 by omega]
            exact ⟨q1, I1, fun b h3 h4 => q2 b h3 (by omega)⟩
          · rw [q2]
      · by_cases hcode : code = 0
        · obtain ⟨b, c, er, hrow⟩ := M1.row (r := a) (by omega)
          obtain ⟨fsb, hob⟩ := hrow.obj
          have hstep : ∃ (v : Int32) (dn ds c' : Nat) (o2 : oT) (h2 : hH), f_Expander_expandName_b27 n (x + 30) x1 ma x3 (code, nI a) nx1 h1 = some (.inl (v, nI (a + 1)), dn, ds, h2) ∧ Own o2 (nx1 + dn) ∧ Fr (fun b => b = 3 ∨ b = 19 + a) o1 o2 h1 h2 ∧ dn + cp1 a ≤ c' ∧ ds + 4 * cp1 a ≤ 4 * c' ∧ cRd x o2 h2 a c' v (mArg fb (aRow A m a) zs) := by
            by_cases hs : (aRow A m a).length = 0
            · obtain ⟨v, dn, ds, c', o2, h2, p1, p2, p3, p4, p5, p6⟩ := c_next (n := n) (nx := nx1) I1 B1 hN A1 M1 (R1 a ha1 (by omega)) ha1 (by omega) O1 hn
              refine ⟨v, dn, ds, c', o2, h2, ?_, p2, p3, p4, p5, ?_⟩
              · unfold f_Expander_expandName_b27 f_Expander_expandName_j82
                dsimp only
                rw [hk0, Option.bind_some, if_neg (nI_nlt (by omega) (by omega)), if_pos hcode, ho7, Option.bind_some, er, Option.bind_some, Option.bind_some, hrow.size, Option.bind_some, hs, if_pos (show nI 0 = 0 from rfl), k5_g5 E1.1]
                simp only [Option.bind_some]
                rw [hoA, Option.bind_some, p1, nI_1]
                simp [hbind]
              · rw [hfb] at p6
                unfold mArg
                rw [if_pos hs]
                exact p6
            · obtain ⟨v, dn, ds, c', o2, h2, p1, p2, p3, p4, p5, p6⟩ := c_upto (n := n) (nx := nx1) I1 B1 hN A1 M1 hrow (by omega) hs (R1 a ha1 (by omega)) ha1 (by omega) O1 hn
              have hrl := hrow.le
              refine ⟨v, dn, ds, c', o2, h2, ?_, p2, p3, p4, p5, ?_⟩
              · unfold f_Expander_expandName_b27 f_Expander_expandName_j82
                dsimp only
                rw [hk0, Option.bind_some, if_neg (nI_nlt (by omega) (by omega)), if_pos hcode, ho7, Option.bind_some, er, Option.bind_some, Option.bind_some, hrow.size, Option.bind_some, if_neg (nI_ne0 (by omega) (by omega)), k5_g5 E1.1]
                simp only [Option.bind_some]
                rw [hoA, Option.bind_some, p1, nI_1]
                simp [hbind]
              · rw [hfb] at p6
                unfold mArg
                rw [if_neg hs]
                exact p6
          obtain ⟨v, dn, ds, c', o2, h2, p1, p2, p3, p4, p5, p6⟩ := hstep
          have hc0 : code0 = 0 := by
            by_cases q : code0 = 0
            · exact q
            · rw [← hc1 q]
              exact hcode
          have hsum := sumN_up cp1 (c := c') ha1 21 (by omega)
          have F2 : Fr (fun b => b = 3 ∨ (20 ≤ b ∧ b ≤ 28)) o o2 h h2 := F1.tr (p3.mono (fun l q => by show l = 3 ∨ (20 ≤ l ∧ l ≤ 28); omega))
          rcases hc2 hc0 with ⟨-, q2, q3⟩ | ⟨q1, -⟩
          · rw [show aNum A m + 1 - a = (aNum A m - a) + 1 by omega] at q3
            simp only [mArgs] at q3
            cases hres : mArg fb (aRow A m a) zs with
            | inl f =>
              rw [hres] at p6 q3
              obtain ⟨rfl, ⟨zs2, I2⟩, as2, R2⟩ := p6
              refine Or.inl ⟨(v, nI (a + 1)), aNum A m + 1 - (a + 1), dn, ds, h2, p1, by omega, v, a + 1, nUp cp1 a c', (fun b => if b = a then as2 else ar1 b), as, zs2, o2, rfl, rfl, by omega, by omega, p2, F2, by omega, by omega, fun b h3 h4 => ?_, fun j hj => by rw [nUp_ne _ _ (by omega)]; exact hcp j hj, I2, fun q => absurd hc0 q, fun _ => Or.inr ⟨mArg_ne hres, q3⟩⟩
              by_cases hba : b = a
              · subst hba
                rw [nUp_self]
                simpa using R2
              · rw [nUp_ne _ _ hba]
                simp only [if_neg hba]
                exact (R1 b h3 h4).fr p3 (by show ¬ (19 + b = 3 ∨ 19 + b = 19 + a); omega)
            | inr q =>
              rw [hres] at p6 q3
              obtain ⟨rfl, I2, R2⟩ := p6
              refine Or.inl ⟨(0, nI (a + 1)), aNum A m + 1 - (a + 1), dn, ds, h2, p1, by omega, 0, a + 1, nUp cp1 a c', (fun b => if b = a then q.1 else ar1 b), (fun b => if b = a then q.1 else as b), q.2, o2, rfl, rfl, by omega, by omega, p2, F2, by omega, by omega, fun b h3 h4 => ?_, fun j hj => by rw [nUp_ne _ _ (by omega)]; exact hcp j hj, I2, fun q => absurd hc0 q, fun _ => Or.inl ⟨rfl, fun b h3 h4 => ?_, ?_⟩⟩
              · by_cases hba : b = a
                · subst hba
                  rw [nUp_self]
                  simpa using R2
                · rw [nUp_ne _ _ hba]
                  simp only [if_neg hba]
                  exact (R1 b h3 h4).fr p3 (by show ¬ (19 + b = 3 ∨ 19 + b = 19 + a); omega)
              · by_cases hba : b = a
                · simp [hba]
                · simp only [if_neg hba]
                  exact q2 b h3 (by omega)
              · rw [q3, show aNum A m + 1 - (a + 1) = aNum A m - a by omega]
          · exact absurd hcode q1
        · refine Or.inr ⟨code, 0, 0, h1, ?_, cp1, ar1, o1, O1, F1, g1, g2, R1, hcp, ⟨zs, I1⟩, hc1, fun q => ?_⟩
          · unfold f_Expander_expandName_b27
            dsimp only
            rw [hk0, Option.bind_some, if_neg (nI_nlt (by omega) (by omega)), if_neg hcode]
          · rcases hc2 q with ⟨q1, -, -⟩ | ⟨-, q2⟩
            · exact absurd q1 hcode
            · rw [q2])
    n (aNum A m) (code0, nI 1) nx 0 h (by omega) ⟨code0, 1, cp, ar, (fun _ => []), zs0, o, by omega, rfl, by omega, by omega, ho, Fr.rf _ _ _, by omega, by omega, hR, fun _ _ => rfl, I0, fun _ => rfl, fun q => Or.inl ⟨q, fun b h3 h4 => by omega, by rw [hz0 q, show aNum A m + 1 - 1 = aNum A m by omega]⟩⟩
  obtain ⟨cp1, ar1, o1, O1, F1, g1, g2, R1, hcp, hz, hc1, hc2⟩ := hP
  exact ⟨b, d, e, cp1, ar1, o1, h', el, O1, F1, by omega, by omega, R1, hcp, hz, hc1, hc2⟩
theorem c_expandName {n x nx m ma : Nat} {o : oT} {h : hH} {A : aS} {ar : Nat → List Int32} {cp : Nat → Nat} {ts : List Int32} {tr : List (Int32 × Int32 × Int32)} {t g fr nw hd st nm : Int32} (hI : cI x o h ts) (hB : cB x o h A) (hN : aNm A) (hA : cA x o h) (hE : cEo x o h g fr nw hd st nm) (hT : cT x o h tr) (hM : cMac o h A m ma) (hR : cR x o h cp ar) (ho : Own o nx) (hn : 7000 < n) : ∃ (code : Int32) (dn ds : Nat) (cp' : Nat → Nat) (ar' : Nat → List Int32) (o' : oT) (h' : hH), f_Expander_expandName n (x + 30) t ma nx h = some (code, dn, ds, h') ∧ Own o' (nx + dn) ∧ Fr cWn o o' h h' ∧ dn + sumN cp 21 ≤ sumN cp' 21 ∧ ds + 4 * sumN cp 21 ≤ 4 * sumN cp' 21 ∧ cR x o' h' cp' ar' ∧ (∀ j, 9 < j → cp' j = cp j) ∧ match mName (aOut A) (aLng A m) (aRow A m) (aNum A m) (aRow A m 10) ts with
    | .inl c => code = c ∧ c ≠ 0 ∧ (∃ zs, cI x o' h' zs) ∧ cEo x o' h' g fr nw hd st t ∧ cT x o' h' tr
    | .inr q => code = 0 ∧ cI x o' h' q.2.2 ∧ cEo x o' h' g fr nw hd st nm ∧ cT x o' h' (mTr tr (t, nI q.1, nI q.2.1)) := by
  have hk : aNum A m ≤ 9 := by
    obtain ⟨ra, ta, f, e1, e2, t1, t2, hk, -⟩ := hM
    exact hk
  have F0 : Fr cWn o o h (va_up h (x + 30) (k5 g (x + 28) (x + 1) (x + 25) (x + 31) (x + 35) (x + 55) (x + 56) (x + 57) fr nw hd st t)) := Fr.up hE.2 (by unfold cWn; omega)
  have F0' : Fr (fun b => b = 4) o o h (va_up h (x + 30) (k5 g (x + 28) (x + 1) (x + 25) (x + 31) (x + 35) (x + 55) (x + 56) (x + 57) fr nw hd st t)) := Fr.u1 hE.2
  generalize hh0 : va_up h (x + 30) (k5 g (x + 28) (x + 1) (x + 25) (x + 31) (x + 35) (x + 55) (x + 56) (x + 57) fr nw hd st t) = h0 at F0 F0'
  have E0 : cEo x o h0 g fr nw hd st t := ⟨by rw [← hh0, va_up_self], hE.2⟩
  have I0 := hI.fr F0' (by decide)
  have A0 := hA.fr F0' (by decide)
  have B0 := hB.fr F0' (by decide) (fun l hl => by show ¬ l = 4; omega)
  have M0 := hM.fr F0' (fun l hl _ => by show ¬ l = 4; omega)
  have T0 := hT.fr F0' (by decide)
  have R0 := hR.fr F0' (fun a _ _ => by show ¬ 19 + a = 4; omega)
  obtain ⟨fsA, hoA⟩ := A0.obj
  have hM7 : ∃ fs, hObj h0 ma 7 = some fs := by
    obtain ⟨ra, ta, f, e1, -⟩ := M0
    exact ⟨_, k7_o e1⟩
  obtain ⟨fs7, ho7⟩ := hM7
  obtain ⟨b, c, er, hrow⟩ := M0.row (r := 0) (Nat.zero_le _)
  obtain ⟨code1, h1, e1, F1, hres1⟩ := c_readRow (n := n) I0 B0 hN A0 hrow (by omega) (by omega)
  have E1 := E0.fr F1 (by decide)
  have A1 := A0.fr F1 (by decide)
  have B1 := B0.fr F1 (by decide) (fun l hl => by show ¬ l = 3; omega)
  have M1 := M0.fr F1 (fun l hl _ => by show ¬ l = 3; omega)
  have R1 := R0.fr F1 (fun a _ _ => by show ¬ 19 + a = 3; omega)
  have hr : (∃ c, mRow (aOut A) (aRow A m 0) ts = .inl c ∧ code1 = c ∧ c ≠ 0 ∧ ∃ zs, cI x o h1 zs) ∨ ∃ ys, mRow (aOut A) (aRow A m 0) ts = .inr ys ∧ code1 = 0 ∧ cI x o h1 ys := by
    cases hr : mRow (aOut A) (aRow A m 0) ts with
    | inl c =>
      rw [hr] at hres1
      refine Or.inl ⟨c, rfl, hres1.1, ?_, hres1.2⟩
      exact mRow_ne _ _ _ hr
    | inr ys =>
      rw [hr] at hres1
      exact Or.inr ⟨ys, rfl, hres1.1, hres1.2⟩
  have hys : ∃ ys, (∃ zs, cI x o h1 zs ∧ (code1 = 0 → zs = ys)) ∧ (code1 = 0 → mRow (aOut A) (aRow A m 0) ts = .inr ys) := by
    rcases hr with ⟨c, q1, q2, q3, zs, q4⟩ | ⟨ys, q1, q2, q3⟩
    · exact ⟨[], ⟨zs, q4, fun q => absurd (q2.symm.trans q) q3⟩, fun q => absurd (q2.symm.trans q) q3⟩
    · exact ⟨ys, ⟨ys, q3, fun _ => rfl⟩, fun _ => q1⟩
  obtain ⟨ys, hIy, hry⟩ := hys
  obtain ⟨code, dn, ds, cp2, ar2, o2, h2, e2, O2, F2, g1, g2, R2, hcp, hz, hc1, hc2⟩ := c_argsLoop (n := n) (x1 := t) (x3 := nm) (code0 := code1) (ys := ys) B1 hN A1 E1 M1 R1 ho hIy hn
  have w2 : ∀ l, (l < 3 ∨ 100 ≤ l ∨ l = 4 ∨ l = 5 ∨ l = 6) → ¬ (l = 3 ∨ (20 ≤ l ∧ l ≤ 28)) := fun l hl => by omega
  have E2 := E1.fr F2 (w2 4 (by omega))
  have A2 := A1.fr F2 (w2 6 (by omega))
  have M2 := M1.fr F2 (fun l hl _ => w2 l (by omega))
  have T2 := (T0.fr F1 (by decide)).fr F2 (w2 5 (by omega))
  have FF : Fr cWn o o2 h h2 := (F0.tr (F1.mono (fun l q => Or.inl q))).tr (F2.mono (fun l q => by unfold cWn; omega))
  have hpre : f_Expander_expandName n (x + 30) t ma nx h = hbind (some (code, dn, ds, h2)) nx fun b27 nx27l h27l => if b27 = 0 then
        (hObj h27l (x + 30) 5).bind fun c100 =>
        (f_Expander_sizeOfText n (x + 30) ma h27l).bind fun v100 =>
        (hgR h27l (x + 30) 5 1).bind fun v111 =>
        (v111).bind fun p114 =>
        (hgI h27l p114 6 1).bind fun v114 =>
        if v100 ≤ ((3000 : Int32) - v114) then
          (hObj h27l (x + 30) 5).bind fun c126 =>
          hbW (f_Expander_putText n (x + 30) ma h27l) fun _ h126 =>
          (hgR h126 (x + 30) 5 4).bind fun v130 =>
          (hgR h126 (x + 30) 5 5).bind fun v135 =>
          (hgI h126 ma 7 0).bind fun v139 =>
          (v135).bind fun p142 =>
          (hObj h126 p142 2).bind fun c142 =>
          (f_Arguments_sizeOfAll n p142 v139 h126).bind fun v142 =>
          (v130).bind fun p147 =>
          (hObj h126 p147 10).bind fun c147 =>
          hbW (f_Trace_add p147 t v142 v100 h126) fun _ h147 =>
          (hpV h147 (x + 30) 5 13 (.int nm)).bind fun h152 =>
          some ((0 : Int32), 0, 0, h152)
        else
          some ((8 : Int32), 0, 0, h27l)
      else
        some (b27, 0, 0, h27l) := by
    unfold f_Expander_expandName
    rw [k5_g13 hE.1, Option.bind_some, k5_p13 hE.1, Option.bind_some, hh0, k5_g5 E0.1, Option.bind_some, ho7, Option.bind_some, show (0 : Int32) = nI 0 from rfl, er, Option.bind_some, Option.bind_some, Option.bind_some, hoA, Option.bind_some, e1]
    simp only [hbW]
    rw [e2]
  rw [hpre]
  unfold mName
  by_cases hc0 : code1 = 0
  · rw [hry hc0]
    dsimp only
    have hc2' := hc2 hc0
    cases ha : mArgs (mForb (aOut A) (aLng A m)) (aRow A m) (aNum A m) 1 ys (fun _ => []) with
    | inl c =>
      rw [ha] at hc2'
      have hcn : c ≠ 0 := mArgs_ne _ _ _ _ _ ha
      refine ⟨c, dn, ds, cp2, ar2, o2, h2, ?_, O2, FF, g1, g2, R2, hcp, rfl, hcn, hz, E2, T2⟩
      simp only [hbind]
      rw [hc2', if_neg hcn]
      simp
    | inr q =>
      rw [ha] at hc2'
      obtain ⟨rfl, I2, har⟩ := hc2'
      have hput : (aRow A m 10).flatMap (mPut (aNum A m) ar2) = (aRow A m 10).flatMap (mPut (aNum A m) q.1) := mPut_congr hk har
      have hsz := c_size (n := n) A2 E2 M2 R2 (by omega)
      have hIl := I2.le
      have hbl : ((aRow A m 10).flatMap (mPut (aNum A m) ar2)).length ≤ 80000 := by
        have h1 := flat_le (k := aNum A m) (args := ar2) hk (fun a h1 h3 => (R2 a h1 (by omega)).1.le) (aRow A m 10)
        obtain ⟨ra, ta, f, q1, q2, t1, t2, hk, hrs, cc, hTT⟩ := M2
        have h3 := hTT.le
        omega
      have hsub : (3000 : Int32) - nI q.2.length = nI (3000 - q.2.length) := pk_sub (a := 3000) hIl
      by_cases hroom : ((aRow A m 10).flatMap (mPut (aNum A m) q.1)).length + q.2.length ≤ 3000
      · dsimp only
        rw [if_pos hroom]
        dsimp only
        obtain ⟨h3, e3, I3, F3⟩ := c_putText (n := n) I2 A2 E2 M2 R2 (by rw [hput]; exact hroom) (by omega)
        have E3 := E2.fr F3 (by decide)
        have A3 := A2.fr F3 (by decide)
        have M3 := M2.fr F3 (fun l hl _ => by show ¬ l = 3; omega)
        have T3 := T2.fr F3 (by decide)
        have R3 := R2.fr F3 (fun a _ _ => by show ¬ 19 + a = 3; omega)
        obtain ⟨fs3, ho3⟩ := A3.obj
        obtain ⟨fsT, hoT⟩ := T3.obj
        have hsum : sumL ar2 (aNum A m) = sumL q.1 (aNum A m) := sumL_congr1 _ (fun b h3 h4 => har b h3 h4)
        obtain ⟨h4, e4, T4, F4⟩ := T3.add t (nI (sumL q.1 (aNum A m))) (nI ((aRow A m 10).flatMap (mPut (aNum A m) q.1)).length)
        have E4 := E3.fr F4 (by decide)
        have F5 : Fr (fun b => b = 4) o2 o2 h4 (va_up h4 (x + 30) (k5 g (x + 28) (x + 1) (x + 25) (x + 31) (x + 35) (x + 55) (x + 56) (x + 57) fr nw hd st nm)) := Fr.u1 E4.2
        have hm0 : hgI h3 ma 7 0 = some (nI (aNum A m)) := by
          obtain ⟨ra, ta, f, q1, -⟩ := M3
          exact k7_g0 q1
        refine ⟨0, dn, ds, cp2, ar2, o2, va_up h4 (x + 30) (k5 g (x + 28) (x + 1) (x + 25) (x + 31) (x + 35) (x + 55) (x + 56) (x + 57) fr nw hd st nm), ?_, O2, ((FF.tr (F3.mono (fun l q => Or.inl q))).tr (F4.mono (fun l q => Or.inr (Or.inr (Or.inl q))))).tr (F5.mono (fun l q => Or.inr (Or.inl q))), g1, g2, ((R3.fr F4 (fun a _ _ => by show ¬ 19 + a = 5; omega)).fr F5 (fun a _ _ => by show ¬ 19 + a = 4; omega)), hcp, rfl, ?_, ⟨va_up_self _ _ _, E4.2⟩, T4.fr F5 (by decide)⟩
        · simp only [hbind]
          rw [if_pos trivial, k5_o E2.1, Option.bind_some, hsz, Option.bind_some, k5_g1 E2.1]
          simp only [Option.bind_some]
          rw [I2.size, Option.bind_some, hsub, hput, if_pos (nI_le (by omega) (by omega)), e3]
          simp only [hbW]
          rw [k5_g4 E3.1, Option.bind_some, k5_g5 E3.1, Option.bind_some, hm0, Option.bind_some, Option.bind_some, ho3, Option.bind_some, c_all A3 R3 hk (by omega), Option.bind_some, Option.bind_some, hoT, Option.bind_some, hsum, e4]
          simp only [hbW]
          rw [k5_p13 E4.1, Option.bind_some]
          simp
        · rw [hput] at I3
          exact (I3.fr F4 (by decide)).fr F5 (by decide)
      · dsimp only
        rw [if_neg hroom]
        dsimp only
        refine ⟨8, dn, ds, cp2, ar2, o2, h2, ?_, O2, FF, g1, g2, R2, hcp, rfl, by decide, hz, E2, T2⟩
        simp only [hbind]
        rw [if_pos trivial, k5_o E2.1, Option.bind_some, hsz, Option.bind_some, k5_g1 E2.1]
        simp only [Option.bind_some]
        rw [I2.size, Option.bind_some, hsub, if_neg (nI_ge (by rw [hput]; omega) (by omega))]
        simp
  · rcases hr with ⟨c, q1, q2, q3, q4⟩ | ⟨ys', q1, q2, q3⟩
    · rw [q1]
      dsimp only
      have hcc : code = c := (hc1 hc0).trans q2
      refine ⟨c, dn, ds, cp2, ar2, o2, h2, ?_, O2, FF, g1, g2, R2, hcp, rfl, q3, hz, E2, T2⟩
      simp only [hbind]
      rw [hcc, if_neg q3]
      simp
    · exact absurd q2 hc0
