/-! THE CONSTRUCTORS: rows, expander, whole expansion -/
def oR (o : oT) (a k l : Nat) : oT := fun c => if a ≤ c ∧ c < a + k then some l else o c
theorem oR_in {o : oT} {a k l c : Nat} (h1 : a ≤ c) (h2 : c < a + k) : oR o a k l c = some l := if_pos ⟨h1, h2⟩
theorem oR_out {o : oT} {a k l c : Nat} (h : c < a ∨ a + k ≤ c) : oR o a k l c = o c := if_neg (by omega)
theorem Own.rng {o : oT} {a k l : Nat} (ho : Own o a) : Own (oR o a k l) (a + k) := fun c hc => by
  rw [oR_out (by omega)]
  exact ho c (by omega)
theorem Old.rng {o : oT} {a k l : Nat} {h h' : hH} (hh : ∀ c, c < a → h' c = h c) : Old a o (oR o a k l) h h' := fun c hc => ⟨oR_out (by omega), hh c hc⟩
theorem u_args {n nx a1 a2 : Nat} {o : oT} {h : hH} (ho : Own o nx) (hn : 4000 < n) : Ev () (f_Arguments_init n nx a1 a2 (nx + 1) (va_up h nx (some (.inr (2, [.null, .null, .null]))))) 19 36 (fun h' => ∃ o', Own o' (nx + 20) ∧ Old nx o o' h h' ∧ h' nx = k2 a1 a2 (nx + 1) ∧ o' nx = some 6 ∧ o' (nx + 1) = some 6 ∧ ∃ f, h' (nx + 1) = kR 3 9 f ∧ ∀ j, j < 9 → f j = some (nx + 2 + 2 * j) ∧ Rw o' h' (20 + j) (nx + 2 + 2 * j) 400 0 []) := by
  unfold f_Arguments_init
  refine Ev.put (gs := [.ref a1, .null, .null]) (va_up_self _ _ _) (by simp) rfl ?_
  refine Ev.put (gs := [.ref a1, .ref a2, .null]) (va_up_self _ _ _) (by simp) rfl ?_
  refine Ev.newPut (d := 18) (e := 27) (fs := [.ref a1, .ref a2, .null]) (gs := [.ref a1, .ref a2, .ref (nx + 1)]) rfl (by omega) (va_up_self _ _ _) (by omega) (by simp) rfl ?_
  generalize hh1 : va_up (va_up (va_up (va_up (va_up h nx (some (.inr (2, [.null, .null, .null])))) nx (some (.inr (2, [.ref a1, .null, .null])))) nx (some (.inr (2, [.ref a1, .ref a2, .null])))) (nx + 1) (some (.inl (3, 9, .inr (.inr (.inr (.inr (fun _ => none)))))))) nx (some (.inr (2, [.ref a1, .ref a2, .ref (nx + 1)]))) = h1
  have c0 : h1 nx = some (.inr (2, [.ref a1, .ref a2, .ref (nx + 1)])) := by rw [← hh1, va_up_self]
  have c1 : h1 (nx + 1) = kR 3 9 (fun _ => none) := by
    rw [← hh1, va_up_ne _ _ (by omega), va_up_self]
    rfl
  have c2 : ∀ c, c < nx → h1 c = h c := fun c hc => by
    rw [← hh1, va_up_ne _ _ (by omega), va_up_ne _ _ (by omega), va_up_ne _ _ (by omega), va_up_ne _ _ (by omega), va_up_ne _ _ (by omega)]
  have O1 : Own (oR o nx 2 6) (nx + 1 + 1) := ho.rng
  obtain ⟨o2, h2, f2, e2, O2, hold, hra, hrows⟩ := c_rows (n := n) (ci := 2) (fi := 2) (lim := 400) (lb := 20) (N := 9) O1 (by omega) c0 rfl c1 (by omega) (by omega) (by omega) (fun j hj q => by rw [oR_in (by omega) (by omega)] at q; have := Option.some.inj q; omega) (by omega)
  refine Ev.call (s := ()) (d1 := 18) (e1 := 27) (d := 0) (e := 0) (Q := fun h' => h' = h2) rfl (by omega) ⟨_, _, e2, by omega, rfl⟩ ?_
  rintro h' rfl
  refine Ev.ret ⟨o2, O2, fun c hc => ?_, ?_, ?_, ?_, f2, hra, hrows⟩
  · obtain ⟨q1, q2⟩ := hold c (by omega)
    exact ⟨q1.trans (oR_out (by omega)), (q2 (by omega)).trans (c2 c hc)⟩
  · exact ((hold nx (by omega)).2 (by omega)).trans c0
  · exact (hold nx (by omega)).1.trans (oR_in (by omega) (by omega))
  · exact (hold (nx + 1) (by omega)).1.trans (oR_in (by omega) (by omega))
theorem u_row {nx lim l : Nat} {o : oT} {h : hH} (ho : Own o nx) : Ev () (f_Row_init nx (nI lim) (nx + 1) (va_up h nx (some (.inr (8, [.int 0, .null, .int 0]))))) 1 0 (fun h' => ∃ o', Own o' (nx + 2) ∧ Old nx o o' h h' ∧ Rw o' h' l nx lim 0 []) := by
  obtain ⟨o', h', e, O, R, H⟩ := c_newRow (lim := lim) (l := l) (h := h) ho
  exact ⟨0, h', e, Nat.le_refl _, o', O, H, R⟩
theorem u_def {n nx : Nat} {o : oT} {h : hH} (ho : Own o nx) (hn : 4000 < n) : Ev () (f_Definition_init n nx (nx + 1) (va_up h nx (some (.inr (4, [.null, .null, .int 0, .int 0, .int 0, .int 0, .int 0]))))) 23 50 (fun h' => ∃ o', Own o' (nx + 24) ∧ Old nx o o' h h' ∧ h' nx = k4 (nx + 1) (nx + 22) 0 0 0 0 0 ∧ o' nx = some 7 ∧ o' (nx + 1) = some 7 ∧ (∃ f, h' (nx + 1) = kR 3 10 f ∧ ∀ j, j < 10 → f j = some (nx + 2 + 2 * j)) ∧ (∀ j, j < 10 → Rw o' h' (30 + j) (nx + 2 + 2 * j) 200 0 []) ∧ Rw o' h' 40 (nx + 22) 200 0 []) := by
  unfold f_Definition_init
  refine Ev.newPut (d := 22) (e := 40) (fs := [.null, .null, .int 0, .int 0, .int 0, .int 0, .int 0]) (gs := [.ref (nx + 1), .null, .int 0, .int 0, .int 0, .int 0, .int 0]) rfl (by omega) (va_up_self _ _ _) (by omega) (by simp) rfl ?_
  generalize hh1 : va_up (va_up (va_up h nx (some (.inr (4, [.null, .null, .int 0, .int 0, .int 0, .int 0, .int 0])))) (nx + 1) (some (.inl (3, 10, .inr (.inr (.inr (.inr (fun _ => none)))))))) nx (some (.inr (4, [.ref (nx + 1), .null, .int 0, .int 0, .int 0, .int 0, .int 0]))) = h1
  have c0 : h1 nx = some (.inr (4, [.ref (nx + 1), .null, .int 0, .int 0, .int 0, .int 0, .int 0])) := by rw [← hh1, va_up_self]
  have c1 : h1 (nx + 1) = kR 3 10 (fun _ => none) := by
    rw [← hh1, va_up_ne _ _ (by omega), va_up_self]
    rfl
  have c2 : ∀ c, c < nx → h1 c = h c := fun c hc => by
    rw [← hh1, va_up_ne _ _ (by omega), va_up_ne _ _ (by omega), va_up_ne _ _ (by omega)]
  have O1 : Own (oR o nx 2 7) (nx + 1 + 1) := ho.rng
  obtain ⟨o2, h2, f2, e2, O2, hold, hra, hrows⟩ := c_rows (n := n) (ci := 4) (fi := 0) (lim := 200) (lb := 30) (N := 10) O1 (by omega) c0 rfl c1 (by omega) (by omega) (by omega) (fun j hj q => by rw [oR_in (by omega) (by omega)] at q; have := Option.some.inj q; omega) (by omega)
  refine Ev.call (s := ()) (d1 := 20) (e1 := 30) (d := 2) (e := 10) (Q := fun h' => h' = h2) rfl (by omega) ⟨_, _, e2, by omega, rfl⟩ ?_
  rintro h' rfl
  refine Ev.newObj (d := 1) (e := 0) rfl (by omega) ?_
  have O2' : Own o2 (nx + 1 + 1 + 20) := O2
  refine Ev.call (s := ()) (d1 := 1) (e1 := 0) (d := 0) (e := 0) (Q := fun h3 => ∃ o', Own o' (nx + 1 + 1 + 20 + 2) ∧ Old (nx + 1 + 1 + 20) o2 o' h' h3 ∧ Rw o' h3 40 (nx + 1 + 1 + 20) 200 0 []) rfl (by omega) (u_row (lim := 200) (l := 40) O2') ?_
  rintro h3 ⟨o3, O3, H3, R3⟩
  have d0 : h3 nx = some (.inr (4, [.ref (nx + 1), .null, .int 0, .int 0, .int 0, .int 0, .int 0])) := ((H3 nx (by omega)).2.trans ((hold nx (by omega)).2 (by omega))).trans c0
  have t0 : o3 nx = some 7 := ((H3 nx (by omega)).1.trans (hold nx (by omega)).1).trans (oR_in (by omega) (by omega))
  have t1 : o3 (nx + 1) = some 7 := ((H3 (nx + 1) (by omega)).1.trans (hold (nx + 1) (by omega)).1).trans (oR_in (by omega) (by omega))
  refine Ev.put (gs := [.ref (nx + 1), .ref (nx + 22), .int 0, .int 0, .int 0, .int 0, .int 0]) d0 (by simp) rfl ?_
  refine Ev.put (gs := [.ref (nx + 1), .ref (nx + 22), .int 0, .int 0, .int 0, .int 0, .int 0]) (va_up_self _ _ _) (by simp) rfl ?_
  have F4 : Fr (fun b => b = 7) o3 o3 h3 (va_up (va_up h3 nx (some (.inr (4, [.ref (nx + 1), .ref (nx + 22), .int 0, .int 0, .int 0, .int 0, .int 0])))) nx (some (.inr (4, [.ref (nx + 1), .ref (nx + 22), .int 0, .int 0, .int 0, .int 0, .int 0])))) := (Fr.u1 t0).tr (Fr.u1 t0)
  have F3 : Fr (fun _ => False) o2 o3 h' h3 := H3.fr O2'
  refine Ev.ret ⟨o3, O3, fun c hc => ⟨?_, ?_⟩, ?_, t0, t1, ⟨f2, ?_, fun j hj => (hrows j hj).1⟩, fun j hj => ?_, ?_⟩
  · exact ((H3 c (by omega)).1.trans (hold c (by omega)).1).trans (oR_out (by omega))
  · rw [va_up_ne _ _ (by omega), va_up_ne _ _ (by omega), (H3 c (by omega)).2, (hold c (by omega)).2 (by omega)]
    exact c2 c hc
  · rw [va_up_self]
    rfl
  · rw [va_up_ne _ _ (by omega), va_up_ne _ _ (by omega), (H3 (nx + 1) (by omega)).2]
    exact hra
  · exact ((hrows j hj).2.fr F3 (by simp)).fr F4 (by show ¬ 30 + j = 7; omega)
  · exact R3.fr F4 (by decide)
/-- the machine as it begins -/
def aZ (G : Int32) : aS := (fun j => if j = 0 then G else if j = 9 then -1 else 0, fun _ => [], fun _ _ => -1, [])
def cp0 : Nat → Nat := fun _ => 0
theorem Rw.f {o : oT} {h : hH} {l a lim : Nat} (hR : Rw o h l a lim 0 []) (hl : lim = 200 ∨ lim = 400 ∨ lim = 3000) : Rf o h l a lim (cp0 l) [] := ⟨hR, Or.inr (Or.inl rfl), hl⟩
theorem u_exp {n x : Nat} {G : Int32} {o : oT} {h : hH} (ho : Own o (x + 30)) (hn : 4000 < n) : Ev () (f_Expander_init n (x + 30) G (x + 28) (x + 1) (x + 25) (x + 30 + 1) (va_up h (x + 30) (some (.inr (5, [.int 0, .null, .null, .null, .null, .null, .null, .null, .null, .int 0, .int 0, .int 0, .int 0, .int 0]))))) 27 1000 (fun h' => ∃ o', Own o' (x + 58) ∧ Old (x + 30) o o' h h' ∧ cE x o' h' (aZ G) ∧ cT x o' h' [] ∧ cA x o' h' ∧ cR x o' h' cp0 (fun _ => [])) := by
  unfold f_Expander_init
  refine Ev.put (gs := [.int G, .null, .null, .null, .null, .null, .null, .null, .null, .int 0, .int 0, .int 0, .int 0, .int 0]) (va_up_self _ _ _) (by simp) rfl ?_
  refine Ev.put (gs := [.int G, .ref (x + 28), .null, .null, .null, .null, .null, .null, .null, .int 0, .int 0, .int 0, .int 0, .int 0]) (va_up_self _ _ _) (by simp) rfl ?_
  refine Ev.put (gs := [.int G, .ref (x + 28), .ref (x + 1), .null, .null, .null, .null, .null, .null, .int 0, .int 0, .int 0, .int 0, .int 0]) (va_up_self _ _ _) (by simp) rfl ?_
  refine Ev.put (gs := [.int G, .ref (x + 28), .ref (x + 1), .ref (x + 25), .null, .null, .null, .null, .null, .int 0, .int 0, .int 0, .int 0, .int 0]) (va_up_self _ _ _) (by simp) rfl ?_
  generalize hh1 : va_up (va_up (va_up (va_up (va_up h (x + 30) _) (x + 30) _) (x + 30) _) (x + 30) _) (x + 30) (some (.inr (5, [.int G, .ref (x + 28), .ref (x + 1), .ref (x + 25), .null, .null, .null, .null, .null, .int 0, .int 0, .int 0, .int 0, .int 0]))) = h1
  have a0 : h1 (x + 30) = some (.inr (5, [.int G, .ref (x + 28), .ref (x + 1), .ref (x + 25), .null, .null, .null, .null, .null, .int 0, .int 0, .int 0, .int 0, .int 0])) := by rw [← hh1, va_up_self]
  have a3 : ∀ c, c < x + 30 → h1 c = h c := fun c hc => by
    rw [← hh1, va_up_ne _ _ (by omega), va_up_ne _ _ (by omega), va_up_ne _ _ (by omega), va_up_ne _ _ (by omega), va_up_ne _ _ (by omega)]
  refine Ev.newObj (d := 26) (e := 990) rfl (by omega) ?_
  refine Ev.call (s := ()) (d1 := 3) (e1 := 300) (d := 23) (e := 690) rfl (by omega) u_trace ?_
  rintro h2 ⟨b0, b1, b2, b3, b4⟩
  have a2 : h2 (x + 30) = some (.inr (5, [.int G, .ref (x + 28), .ref (x + 1), .ref (x + 25), .null, .null, .null, .null, .null, .int 0, .int 0, .int 0, .int 0, .int 0])) := (b0 _ (by omega)).trans a0
  refine Ev.put (gs := [.int G, .ref (x + 28), .ref (x + 1), .ref (x + 25), .ref (x + 31), .null, .null, .null, .null, .int 0, .int 0, .int 0, .int 0, .int 0]) a2 (by simp) rfl ?_
  generalize hh3 : va_up h2 (x + 30) (some (.inr (5, [.int G, .ref (x + 28), .ref (x + 1), .ref (x + 25), .ref (x + 31), .null, .null, .null, .null, .int 0, .int 0, .int 0, .int 0, .int 0]))) = h3
  have e0 : h3 (x + 30) = some (.inr (5, [.int G, .ref (x + 28), .ref (x + 1), .ref (x + 25), .ref (x + 31), .null, .null, .null, .null, .int 0, .int 0, .int 0, .int 0, .int 0])) := by rw [← hh3, va_up_self]
  have e1 : ∀ c, c ≠ x + 30 → h3 c = h2 c := fun c hc => by rw [← hh3, va_up_ne _ _ hc]
  have O1 : Own (oR (oR o (x + 30) 1 4) (x + 30 + 1) 4 5) (x + 30 + 1 + 4) := (ho.rng (k := 1)).rng
  refine Ev.newObj (d := 22) (e := 680) rfl (by omega) ?_
  refine Ev.call (s := ()) (d1 := 19) (e1 := 36) (d := 3) (e := 600) rfl (by omega) (u_args (nx := x + 30 + 1 + 4) O1 hn) ?_
  rintro h4 ⟨o4, O4, H4, c0, tc0, tc1, f, c1, hrows⟩
  have e4 : h4 (x + 30) = some (.inr (5, [.int G, .ref (x + 28), .ref (x + 1), .ref (x + 25), .ref (x + 31), .null, .null, .null, .null, .int 0, .int 0, .int 0, .int 0, .int 0])) := (H4 (x + 30) (by omega)).2.trans e0
  refine Ev.put (gs := [.int G, .ref (x + 28), .ref (x + 1), .ref (x + 25), .ref (x + 31), .ref (x + 35), .null, .null, .null, .int 0, .int 0, .int 0, .int 0, .int 0]) e4 (by simp) rfl ?_
  refine Ev.newPut (d := 2) (e := 450) (gs := [.int G, .ref (x + 28), .ref (x + 1), .ref (x + 25), .ref (x + 31), .ref (x + 35), .ref (x + 55), .null, .null, .int 0, .int 0, .int 0, .int 0, .int 0]) rfl (by omega) (va_up_self _ _ _) (by omega) (by simp) rfl ?_
  refine Ev.newPut (d := 1) (e := 50) (gs := [.int G, .ref (x + 28), .ref (x + 1), .ref (x + 25), .ref (x + 31), .ref (x + 35), .ref (x + 55), .ref (x + 56), .null, .int 0, .int 0, .int 0, .int 0, .int 0]) rfl (by omega) (va_up_self _ _ _) (by omega) (by simp) rfl ?_
  refine Ev.newPut (d := 0) (e := 0) (gs := [.int G, .ref (x + 28), .ref (x + 1), .ref (x + 25), .ref (x + 31), .ref (x + 35), .ref (x + 55), .ref (x + 56), .ref (x + 57), .int 0, .int 0, .int 0, .int 0, .int 0]) rfl (by omega) (va_up_self _ _ _) (by omega) (by simp) rfl ?_
  have t30 : o4 (x + 30) = some 4 := (H4 (x + 30) (by omega)).1.trans ((oR_out (by omega)).trans (oR_in (by omega) (by omega)))
  have O4' : Own o4 (x + 55) := O4
  generalize hh5 : va_up (va_up (va_up (va_up (va_up (va_up (va_up h4 (x + 30) _) _ _) (x + 30) _) _ _) (x + 30) _) _ _) (x + 30) (some (.inr (5, [.int G, .ref (x + 28), .ref (x + 1), .ref (x + 25), .ref (x + 31), .ref (x + 35), .ref (x + 55), .ref (x + 56), .ref (x + 57), .int 0, .int 0, .int 0, .int 0, .int 0]))) = h5
  have g0 : h5 (x + 30) = k5 G (x + 28) (x + 1) (x + 25) (x + 31) (x + 35) (x + 55) (x + 56) (x + 57) 0 0 0 0 0 := by
    rw [← hh5, va_up_self]
    rfl
  have g1 : h5 (x + 55) = kA 50 (fun _ => 0) := by
    rw [← hh5, va_up_ne _ _ (by omega), va_up_ne _ _ (by omega), va_up_ne _ _ (by omega), va_up_ne _ _ (by omega), va_up_ne _ _ (by omega), show x + 30 + 1 + 4 + 1 + 19 = x + 55 from rfl, va_up_self]
    rfl
  have g2 : h5 (x + 56) = kA 400 (fun _ => 0) := by
    rw [← hh5, va_up_ne _ _ (by omega), va_up_ne _ _ (by omega), va_up_ne _ _ (by omega), show x + 30 + 1 + 4 + 1 + 19 + 1 = x + 56 from rfl, va_up_self]
    rfl
  have g3 : h5 (x + 57) = kA 50 (fun _ => 0) := by
    rw [← hh5, va_up_ne _ _ (by omega), show x + 30 + 1 + 4 + 1 + 19 + 1 + 1 = x + 57 from rfl, va_up_self]
    rfl
  have g4 : ∀ c, c < x + 55 → c ≠ x + 30 → h5 c = h4 c := fun c h1' h2' => by
    rw [← hh5, va_up_ne _ _ (by omega), va_up_ne _ _ (by omega), va_up_ne _ _ (by omega), va_up_ne _ _ (by omega), va_up_ne _ _ (by omega), va_up_ne _ _ (by omega), va_up_ne _ _ (by omega)]
  have F5 : Fr (fun b => b = 4) o4 (oR o4 (x + 55) 3 10) h4 h5 := fun c l el => by
    have hlt : c < x + 55 := O4'.lt el
    refine ⟨(oR_out (by omega)).trans el, fun w => g4 c hlt (fun q => w ?_)⟩
    rw [q, t30] at el
    exact (Option.some.inj el).symm
  have w4 : ∀ c, c < x + 55 → (oR o4 (x + 55) 3 10) c = o4 c := fun c hc => oR_out (by omega)
  have tT : ∀ c, x + 31 ≤ c → c < x + 35 → o4 c = some 5 := fun c h1 h2 => (H4 c (by omega)).1.trans (oR_in (by omega) (by omega))
  have hT : ∀ c, x + 31 ≤ c → c < x + 35 → h5 c = h2 c := fun c h1 h2 => ((g4 c (by omega) (by omega)).trans (H4 c (by omega)).2).trans (e1 c (by omega))
  refine Ev.ret ⟨oR o4 (x + 55) 3 10, O4'.rng, fun c hc => ⟨?_, ?_⟩, ⟨fun _ => 0, fun _ => 0, fun _ => 0, ⟨g0, (w4 _ (by omega)).trans t30⟩, g1, g2, g3, oR_in (by omega) (by omega), oR_in (by omega) (by omega), oR_in (by omega) (by omega), by show (0 : Nat) ≤ 50; omega, fun i t hi => ?_⟩, ⟨fun _ => 0, fun _ => 0, fun _ => 0, (hT _ (by omega) (by omega)).trans b1, (hT _ (by omega) (by omega)).trans b2, (hT _ (by omega) (by omega)).trans b3, (hT _ (by omega) (by omega)).trans b4, (w4 _ (by omega)).trans (tT _ (by omega) (by omega)), (w4 _ (by omega)).trans (tT _ (by omega) (by omega)), (w4 _ (by omega)).trans (tT _ (by omega) (by omega)), (w4 _ (by omega)).trans (tT _ (by omega) (by omega)), by simp, fun i q hi => by simp at hi⟩, ⟨f, ?_, ?_, (w4 _ (by omega)).trans tc0, (w4 _ (by omega)).trans tc1, fun j hj => (hrows j hj).1⟩, fun a h1 h9 => ?_⟩
  · rw [w4 c (by omega), (H4 c (by omega)).1, oR_out (by omega), oR_out (by omega)]
  · rw [g4 c (by omega) (by omega), (H4 c (by omega)).2, e1 c (by omega), b0 c (by omega), a3 c hc]
  · rw [show (aZ G).2.1 8 = [] from rfl] at hi
    simp at hi
  · exact (g4 (x + 35) (by omega) (by omega)).trans c0
  · exact (g4 (x + 36) (by omega) (by omega)).trans c1
  · have hr := ((hrows (a - 1) (by omega)).2.fr F5 (by show ¬ 20 + (a - 1) = 4; omega))
    rw [show 20 + (a - 1) = 19 + a by omega, show x + 30 + 1 + 4 + 2 + 2 * (a - 1) = x + 35 + 2 * a by omega] at hr
    exact ⟨hr, Or.inr (Or.inl rfl), by omega⟩
theorem u_whole {n x : Nat} {G : Int32} {o : oT} {h : hH} (ho : Own o (x + 58)) (hn : 4000 < n) : Ev () (f_Whole_init n (x + 58) (x + 28) (x + 1) (x + 30) (x + 58 + 1) (va_up h (x + 58) (some (.inr (11, [.null, .null, .null, .null, .null, .int 0, .int 0]))))) 26 100 (fun h' => ∃ o', Own o' (x + 85) ∧ Old (x + 58) o o' h h' ∧ cD x o' h' cp0 (aZ G) ∧ cW x o' h' cp0 (aZ G)) := by
  unfold f_Whole_init
  refine Ev.put (gs := [.ref (x + 28), .null, .null, .null, .null, .int 0, .int 0]) (va_up_self _ _ _) (by simp) rfl ?_
  refine Ev.put (gs := [.ref (x + 28), .ref (x + 1), .null, .null, .null, .int 0, .int 0]) (va_up_self _ _ _) (by simp) rfl ?_
  refine Ev.put (gs := [.ref (x + 28), .ref (x + 1), .ref (x + 30), .null, .null, .int 0, .int 0]) (va_up_self _ _ _) (by simp) rfl ?_
  generalize hh1 : va_up (va_up (va_up (va_up h (x + 58) _) (x + 58) _) (x + 58) _) (x + 58) (some (.inr (11, [.ref (x + 28), .ref (x + 1), .ref (x + 30), .null, .null, .int 0, .int 0]))) = h1
  have a0 : h1 (x + 58) = some (.inr (11, [.ref (x + 28), .ref (x + 1), .ref (x + 30), .null, .null, .int 0, .int 0])) := by rw [← hh1, va_up_self]
  have a3 : ∀ c, c < x + 58 → h1 c = h c := fun c hc => by
    rw [← hh1, va_up_ne _ _ (by omega), va_up_ne _ _ (by omega), va_up_ne _ _ (by omega), va_up_ne _ _ (by omega)]
  have O1 : Own (oR o (x + 58) 1 8) (x + 58 + 1) := ho.rng
  refine Ev.newObj (d := 25) (e := 90) rfl (by omega) ?_
  refine Ev.call (s := ()) (d1 := 23) (e1 := 50) (d := 2) (e := 40) rfl (by omega) (u_def (nx := x + 58 + 1) O1 hn) ?_
  rintro h2 ⟨o2, O2, H2', b0, tb0, tb1, ⟨f, b1, hf⟩, brows, btext⟩
  have a2 : h2 (x + 58) = some (.inr (11, [.ref (x + 28), .ref (x + 1), .ref (x + 30), .null, .null, .int 0, .int 0])) := (H2' (x + 58) (by omega)).2.trans a0
  have t2 : o2 (x + 58) = some 8 := (H2' (x + 58) (by omega)).1.trans (oR_in (by omega) (by omega))
  refine Ev.put (gs := [.ref (x + 28), .ref (x + 1), .ref (x + 30), .ref (x + 59), .null, .int 0, .int 0]) a2 (by simp) rfl ?_
  generalize hh3 : va_up h2 (x + 58) (some (.inr (11, [.ref (x + 28), .ref (x + 1), .ref (x + 30), .ref (x + 59), .null, .int 0, .int 0]))) = h3
  have e0 : h3 (x + 58) = some (.inr (11, [.ref (x + 28), .ref (x + 1), .ref (x + 30), .ref (x + 59), .null, .int 0, .int 0])) := by rw [← hh3, va_up_self]
  have e1 : ∀ c, c ≠ x + 58 → h3 c = h2 c := fun c hc => by rw [← hh3, va_up_ne _ _ hc]
  have F3 : Fr (fun b => b = 8) o2 o2 h2 h3 := by
    rw [← hh3]
    exact Fr.u1 t2
  have O2' : Own o2 (x + 58 + 1 + 24) := O2
  refine Ev.newObj (d := 1) (e := 30) rfl (by omega) ?_
  refine Ev.call (s := ()) (d1 := 1) (e1 := 0) (d := 0) (e := 0) rfl (by omega) (u_row (nx := x + 58 + 1 + 24) (lim := 3000) (l := 41) O2') ?_
  rintro h4 ⟨o4, O4, H4, R4⟩
  have F4 : Fr (fun _ => False) o2 o4 h3 h4 := H4.fr O2'
  have e4 : h4 (x + 58) = some (.inr (11, [.ref (x + 28), .ref (x + 1), .ref (x + 30), .ref (x + 59), .null, .int 0, .int 0])) := (H4 (x + 58) (by omega)).2.trans e0
  have t4 : o4 (x + 58) = some 8 := (H4 (x + 58) (by omega)).1.trans t2
  refine Ev.put (gs := [.ref (x + 28), .ref (x + 1), .ref (x + 30), .ref (x + 59), .ref (x + 83), .int 0, .int 0]) e4 (by simp) rfl ?_
  refine Ev.put (gs := [.ref (x + 28), .ref (x + 1), .ref (x + 30), .ref (x + 59), .ref (x + 83), .int 0, .int 0]) (va_up_self _ _ _) (by simp) rfl ?_
  refine Ev.put (gs := [.ref (x + 28), .ref (x + 1), .ref (x + 30), .ref (x + 59), .ref (x + 83), .int 0, .int (-1)]) (va_up_self _ _ _) (by simp) rfl ?_
  generalize hh5 : va_up (va_up (va_up h4 (x + 58) _) (x + 58) _) (x + 58) (some (.inr (11, [.ref (x + 28), .ref (x + 1), .ref (x + 30), .ref (x + 59), .ref (x + 83), .int 0, .int (-1)]))) = h5
  have g0 : h5 (x + 58) = k11 (x + 28) (x + 1) (x + 30) (x + 59) (x + 83) 0 (-1) := by
    rw [← hh5, va_up_self]
    rfl
  have g4 : ∀ c, c ≠ x + 58 → h5 c = h4 c := fun c hc => by
    rw [← hh5, va_up_ne _ _ hc, va_up_ne _ _ hc, va_up_ne _ _ hc]
  have F5 : Fr (fun b => b = 8) o4 o4 h4 h5 := by
    rw [← hh5]
    exact ((Fr.u1 t4).tr (Fr.u1 t4)).tr (Fr.u1 t4)
  have FF : Fr (fun b => b = 8) o2 o4 h2 h5 := (F3.tr (F4.mono (fun l q => q.elim))).tr F5
  refine Ev.ret ⟨o4, O4, fun c hc => ⟨?_, ?_⟩, ⟨⟨f, ?_, ?_, (FF _ _ tb0).1, (FF _ _ tb1).1, hf⟩, fun r hr => ?_, ?_⟩, ⟨g0, t4, ?_⟩⟩
  · exact ((H4 c (by omega)).1.trans (H2' c (by omega)).1).trans (oR_out (by omega))
  · rw [g4 c (by omega), (H4 c (by omega)).2, e1 c (by omega), (H2' c (by omega)).2, a3 c hc]
  · exact ((FF _ _ tb0).2 (by decide)).trans b0
  · exact ((FF _ _ tb1).2 (by decide)).trans b1
  · exact ⟨(brows r hr).fr FF (by show ¬ 30 + r = 8; omega), Or.inr (Or.inl rfl), by omega⟩
  · exact ⟨btext.fr FF (by decide), Or.inr (Or.inl rfl), by omega⟩
  · exact ⟨R4.fr F5 (by decide), Or.inr (Or.inl rfl), by omega⟩
