/-! THE WHOLE CONSTRUCTOR OF THE CLASS -/
theorem u_all {n x : Nat} {s : Int64} {G : Int32} {h : hH} (hs : (if (if s < (20000 : Int64) then s else (20000 : Int64)) < (1 : Int64) then (1 : Int64) else (if s < (20000 : Int64) then s else (20000 : Int64))).toInt32 = G) (hn : 4000 < n) : Ev () (f_MacroExpand_init n x s (x + 1) (va_up h x (some (.inr (0, [.null, .null, .null, .null, .null, .int 0, .int 0]))))) 84 20000 (fun h' => ∃ o', cQ x o' (x + 85) h' cp0 (aZ G) ∧ cX x o' h' (aZ G) ∧ cD x o' h' cp0 (aZ G) ∧ cW x o' h' cp0 (aZ G)) := by
  unfold f_MacroExpand_init
  have O0 : Own (oR (fun _ => none) x 1 0) (x + 1) := Own.rng (fun _ _ => rfl)
  refine Ev.newObj (d := 83) (e := 19900) rfl (by omega) ?_
  refine Ev.call (s := ()) (d1 := 23) (e1 := 4320) (d := 60) (e := 15000) rfl (by omega) (u_book (nx := x + 1) hn) ?_
  rintro h1 ⟨a0, a1, a2, ⟨g, a3, hg⟩, a4, a5⟩
  generalize ho1 : oR (oR (fun _ => none) x 1 0) (x + 1) 24 1 = o1
  have O1 : Own o1 (x + 25) := by
    rw [← ho1]
    exact O0.rng
  have t1 : ∀ c, x + 1 ≤ c → c < x + 25 → o1 c = some 1 := fun c h1 h2 => by
    rw [← ho1]
    exact oR_in h1 (by omega)
  have tx1 : o1 x = some 0 := by
    rw [← ho1, oR_out (by omega)]
    exact oR_in (by omega) (by omega)
  have B1 : cB x o1 h1 (aZ G) := ⟨fun _ => none, g, 0, a1, a2, a3, a4, fun j hj => ⟨fun _ => 0, a5 j hj, t1 _ (by omega) (by omega), fun q => absurd q (Nat.not_lt_zero _)⟩, hg, rfl, Nat.zero_le _, t1 _ (by omega) (by omega), t1 _ (by omega) (by omega), t1 _ (by omega) (by omega), t1 _ (by omega) (by omega), fun m hm => absurd hm (Nat.not_lt_zero _)⟩
  have x1 : h1 x = some (.inr (0, [.null, .null, .null, .null, .null, .int 0, .int 0])) := (a0 x (by omega)).trans (va_up_self _ _ _)
  refine Ev.put (gs := [.ref (x + 1), .null, .null, .null, .null, .int 0, .int 0]) x1 (by simp) rfl ?_
  generalize hh2 : va_up h1 x (some (.inr (0, [.ref (x + 1), .null, .null, .null, .null, .int 0, .int 0]))) = h2
  have x2 : h2 x = some (.inr (0, [.ref (x + 1), .null, .null, .null, .null, .int 0, .int 0])) := by rw [← hh2, va_up_self]
  have F2 : Fr (fun b => b = 0) o1 o1 h1 h2 := by
    rw [← hh2]
    exact Fr.u1 tx1
  have w100 : ∀ l, 100 ≤ l → ¬ (fun b => b = 0) l := fun l hl => by show ¬ l = 0; omega
  have B2 : cB x o1 h2 (aZ G) := B1.fr F2 (by decide) w100
  refine Ev.newObj (d := 59) (e := 14900) rfl (by omega) ?_
  refine Ev.call (s := ()) (d1 := 2) (e1 := 900) (d := 57) (e := 14000) rfl (by omega) (u_spell (nx := x + 25)) ?_
  rintro h3 ⟨b0, b1, b2, b3⟩
  generalize ho3 : oR o1 (x + 25) 3 2 = o3
  have O3 : Own o3 (x + 28) := by
    rw [← ho3]
    exact O1.rng
  have H3 : Old (x + 25) o1 o3 h2 h3 := by
    rw [← ho3]
    exact Old.rng b0
  have t3 : ∀ c, x + 25 ≤ c → c < x + 28 → o3 c = some 2 := fun c h1 h2 => by
    rw [← ho3]
    exact oR_in h1 (by omega)
  have F3 : Fr (fun b => b = 0) o1 o3 h2 h3 := H3.fr O1
  have tx3 : o3 x = some 0 := (F3 _ _ tx1).1
  have B3 : cB x o3 h3 (aZ G) := B2.fr F3 (by decide) w100
  have S3 : cS x o3 h3 (aZ G) := ⟨fun _ => 0, fun _ => 0, 0, b1, b2, b3, t3 _ (by omega) (by omega), t3 _ (by omega) (by omega), t3 _ (by omega) (by omega), rfl, Nat.zero_le _, fun i hi => absurd hi (Nat.not_lt_zero _)⟩
  have x3 : h3 x = some (.inr (0, [.ref (x + 1), .null, .null, .null, .null, .int 0, .int 0])) := (H3 x (by omega)).2.trans x2
  refine Ev.put (gs := [.ref (x + 1), .ref (x + 25), .null, .null, .null, .int 0, .int 0]) x3 (by simp) rfl ?_
  generalize hh4 : va_up h3 x (some (.inr (0, [.ref (x + 1), .ref (x + 25), .null, .null, .null, .int 0, .int 0]))) = h4
  have x4 : h4 x = some (.inr (0, [.ref (x + 1), .ref (x + 25), .null, .null, .null, .int 0, .int 0])) := by rw [← hh4, va_up_self]
  have F4 : Fr (fun b => b = 0) o3 o3 h3 h4 := by
    rw [← hh4]
    exact Fr.u1 tx3
  refine Ev.newObj (d := 56) (e := 13900) rfl (by omega) ?_
  refine Ev.call (s := ()) (d1 := 1) (e1 := 3000) (d := 55) (e := 10900) rfl (by omega) (u_input (nx := x + 28)) ?_
  rintro h5 ⟨c0, c1, c2⟩
  generalize ho5 : oR o3 (x + 28) 2 3 = o5
  have O5 : Own o5 (x + 30) := by
    rw [← ho5]
    exact O3.rng
  have H5 : Old (x + 28) o3 o5 h4 h5 := by
    rw [← ho5]
    exact Old.rng c0
  have t5 : ∀ c, x + 28 ≤ c → c < x + 30 → o5 c = some 3 := fun c h1 h2 => by
    rw [← ho5]
    exact oR_in h1 (by omega)
  have F5 : Fr (fun b => b = 0) o3 o5 h3 h5 := F4.tr (H5.fr O3)
  have tx5 : o5 x = some 0 := (F5 _ _ tx3).1
  have B5 : cB x o5 h5 (aZ G) := B3.fr F5 (by decide) w100
  have S5 : cS x o5 h5 (aZ G) := S3.fr F5 (by decide)
  have I5 : cI x o5 h5 ((aZ G).2.1 0) := ⟨fun _ => 0, c1, c2, t5 _ (by omega) (by omega), t5 _ (by omega) (by omega), Nat.zero_le _, fun i t hi => by rw [show (aZ G).2.1 0 = [] from rfl] at hi; simp at hi⟩
  have x5 : h5 x = some (.inr (0, [.ref (x + 1), .ref (x + 25), .null, .null, .null, .int 0, .int 0])) := (H5 x (by omega)).2.trans x4
  refine Ev.put (gs := [.ref (x + 1), .ref (x + 25), .ref (x + 28), .null, .null, .int 0, .int 0]) x5 (by simp) rfl ?_
  generalize hh6 : va_up h5 x (some (.inr (0, [.ref (x + 1), .ref (x + 25), .ref (x + 28), .null, .null, .int 0, .int 0]))) = h6
  have x6 : h6 x = some (.inr (0, [.ref (x + 1), .ref (x + 25), .ref (x + 28), .null, .null, .int 0, .int 0])) := by rw [← hh6, va_up_self]
  have F6 : Fr (fun b => b = 0) o5 o5 h5 h6 := by
    rw [← hh6]
    exact Fr.u1 tx5
  refine Ev.newObj (d := 54) (e := 10800) rfl (by omega) ?_
  refine Ev.get (y := some (x + 28)) (by rw [va_up_ne _ _ (by omega)]; exact x6) rfl ?_
  refine Ev.get (y := some (x + 1)) (by rw [va_up_ne _ _ (by omega)]; exact x6) rfl ?_
  refine Ev.get (y := some (x + 25)) (by rw [va_up_ne _ _ (by omega)]; exact x6) rfl ?_
  rw [Option.bind_some, Option.bind_some, Option.bind_some, hs]
  refine Ev.call (s := ()) (d1 := 27) (e1 := 1000) (d := 27) (e := 9800) rfl (by omega) (u_exp (x := x) (G := G) O5 hn) ?_
  rintro h7 ⟨o7, O7, H7, E7, T7, A7, R7⟩
  have F7 : Fr (fun b => b = 0) o5 o7 h5 h7 := F6.tr (H7.fr O5)
  have tx7 : o7 x = some 0 := (F7 _ _ tx5).1
  have x7 : h7 x = some (.inr (0, [.ref (x + 1), .ref (x + 25), .ref (x + 28), .null, .null, .int 0, .int 0])) := (H7 x (by omega)).2.trans x6
  refine Ev.put (gs := [.ref (x + 1), .ref (x + 25), .ref (x + 28), .ref (x + 30), .null, .int 0, .int 0]) x7 (by simp) rfl ?_
  generalize hh8 : va_up h7 x (some (.inr (0, [.ref (x + 1), .ref (x + 25), .ref (x + 28), .ref (x + 30), .null, .int 0, .int 0]))) = h8
  have x8 : h8 x = some (.inr (0, [.ref (x + 1), .ref (x + 25), .ref (x + 28), .ref (x + 30), .null, .int 0, .int 0])) := by rw [← hh8, va_up_self]
  have F8 : Fr (fun b => b = 0) o7 o7 h7 h8 := by
    rw [← hh8]
    exact Fr.u1 tx7
  refine Ev.newObj (d := 26) (e := 9700) rfl (by omega) ?_
  refine Ev.get (y := some (x + 28)) (by rw [va_up_ne _ _ (by omega)]; exact x8) rfl ?_
  refine Ev.get (y := some (x + 1)) (by rw [va_up_ne _ _ (by omega)]; exact x8) rfl ?_
  refine Ev.get (y := some (x + 30)) (by rw [va_up_ne _ _ (by omega)]; exact x8) rfl ?_
  rw [Option.bind_some, Option.bind_some, Option.bind_some]
  refine Ev.call (s := ()) (d1 := 26) (e1 := 100) (d := 0) (e := 9600) rfl (by omega) (u_whole (x := x) (G := G) O7 hn) ?_
  rintro h9 ⟨o9, O9, H9, D9, W9⟩
  have F9 : Fr (fun b => b = 0) o7 o9 h7 h9 := F8.tr (H9.fr O7)
  have tx9 : o9 x = some 0 := (F9 _ _ tx7).1
  have x9 : h9 x = some (.inr (0, [.ref (x + 1), .ref (x + 25), .ref (x + 28), .ref (x + 30), .null, .int 0, .int 0])) := (H9 x (by omega)).2.trans x8
  refine Ev.put (gs := [.ref (x + 1), .ref (x + 25), .ref (x + 28), .ref (x + 30), .ref (x + 58), .int 0, .int 0]) x9 (by simp) rfl ?_
  refine Ev.put (gs := [.ref (x + 1), .ref (x + 25), .ref (x + 28), .ref (x + 30), .ref (x + 58), .int 0, .int 0]) (va_up_self _ _ _) (by simp) rfl ?_
  refine Ev.put (gs := [.ref (x + 1), .ref (x + 25), .ref (x + 28), .ref (x + 30), .ref (x + 58), .int 0, .int 0]) (va_up_self _ _ _) (by simp) rfl ?_
  generalize hh10 : va_up (va_up (va_up h9 x _) x _) x (some (.inr (0, [.ref (x + 1), .ref (x + 25), .ref (x + 28), .ref (x + 30), .ref (x + 58), .int 0, .int 0]))) = h10
  have x10 : h10 x = k0 (x + 1) (x + 25) (x + 28) (x + 30) (x + 58) 0 0 := by
    rw [← hh10, va_up_self]
    rfl
  have F10 : Fr (fun b => b = 0) o9 o9 h9 h10 := by
    rw [← hh10]
    exact ((Fr.u1 tx9).tr (Fr.u1 tx9)).tr (Fr.u1 tx9)
  have FB : Fr (fun b => b = 0) o7 o9 h7 h10 := F9.tr F10
  have FA : Fr (fun b => b = 0) o5 o9 h5 h10 := F7.tr FB
  exact Ev.ret ⟨o9, ⟨O9, S5.fr FA (by decide), I5.fr FA (by decide), E7.fr FB (by decide) (by decide), T7.fr FB (by decide), A7.fr FB (by decide), B5.fr FA (by decide) w100, _, R7.fr FB (fun a h1 h2 => by show ¬ 19 + a = 0; omega)⟩, ⟨x10, tx9⟩, D9.fr F10 (by decide) (fun l h1 h2 => by show ¬ l = 0; omega) (fun _ _ _ => rfl) (fun _ _ _ => rfl) (fun _ _ _ => rfl), W9.fr F10 (by decide) (by decide) rfl rfl rfl rfl⟩
