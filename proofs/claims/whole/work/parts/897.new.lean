/-! NEW ROWS, NEW MACROS: the class -/
theorem c_rowInit {a nx lim l : Nat} {o : oT} {h : hH} (ho : Own o nx) (ha : o a = some l) (hc : h a = some (.inr (8, [.int 0, .null, .int 0]))) : ∃ h', f_Row_init a (nI lim) nx h = some ((), 1, 0, h') ∧ Rw (oSet o nx l) h' l a lim 0 [] ∧ Fr (fun b => b = l) o (oSet o nx l) h h' := by
  have hne := ho.ne ha
  refine ⟨va_up (va_up (va_up (va_up h a (some (.inr (8, [.int (nI lim), .null, .int 0])))) nx (kA 0 (fun _ => 0))) a (some (.inr (8, [.int (nI lim), .ref nx, .int 0])))) a (k8 (nI lim) nx 0), ?_, ⟨nx, fun _ => 0, va_up_self _ _ _, ?_, oSet_old ho ha, oSet_self _ _ _, hne, Nat.le_refl _, Nat.zero_le _, fun i t hi => by simp at hi⟩, ?_⟩
  · unfold f_Row_init
    rw [show hpV h a 8 0 (.int (nI lim)) = some (va_up h a (some (.inr (8, [.int (nI lim), .null, .int 0])))) from hpV_at (k := 0) hc (by simp), Option.bind_some]
    simp only [hbind, hnew]
    have e1 : (va_up (va_up h a (some (.inr (8, [.int (nI lim), .null, .int 0])))) nx (some (.inl (0, 0, .inl fun _ => 0)))) a = some (.inr (8, [.int (nI lim), .null, .int 0])) := by
      rw [va_up_ne _ _ hne, va_up_self]
    rw [show hpV (va_up (va_up h a (some (.inr (8, [.int (nI lim), .null, .int 0])))) nx (some (.inl (0, 0, .inl fun _ => 0)))) a 8 1 (.ref nx) = some (va_up (va_up (va_up h a (some (.inr (8, [.int (nI lim), .null, .int 0])))) nx (some (.inl (0, 0, .inl fun _ => 0)))) a (some (.inr (8, [.int (nI lim), .ref nx, .int 0])))) from hpV_at (k := 1) e1 (by simp), Option.bind_some]
    rw [show hpV (va_up (va_up (va_up h a (some (.inr (8, [.int (nI lim), .null, .int 0])))) nx (some (.inl (0, 0, .inl fun _ => 0)))) a (some (.inr (8, [.int (nI lim), .ref nx, .int 0])))) a 8 2 (.int 0) = _ from hpV_at (k := 2) (va_up_self _ _ _) (by simp), Option.bind_some]
    rfl
  · rw [va_up_ne _ _ (Ne.symm hne), va_up_ne _ _ (Ne.symm hne), va_up_self]
  · exact (((Fr.u1 ha).tr (Fr.new ho)).tr (Fr.u1 (oSet_old ho ha))).tr (Fr.u1 (oSet_old ho ha))
theorem c_rowInit_old {a nx lim c d e : Nat} {h h' : hH} (hc : h a = some (.inr (8, [.int 0, .null, .int 0]))) (hne : a ≠ nx) (hr : f_Row_init a (nI lim) nx h = some ((), d, e, h')) (h1 : c ≠ a) (h2 : c ≠ nx) : h' c = h c := by
  unfold f_Row_init at hr
  rw [show hpV h a 8 0 (.int (nI lim)) = some (va_up h a (some (.inr (8, [.int (nI lim), .null, .int 0])))) from hpV_at (k := 0) hc (by simp), Option.bind_some] at hr
  simp only [hbind, hnew] at hr
  have e1 : (va_up (va_up h a (some (.inr (8, [.int (nI lim), .null, .int 0])))) nx (some (.inl (0, 0, .inl fun _ => 0)))) a = some (.inr (8, [.int (nI lim), .null, .int 0])) := by
    rw [va_up_ne _ _ hne, va_up_self]
  rw [show hpV (va_up (va_up h a (some (.inr (8, [.int (nI lim), .null, .int 0])))) nx (some (.inl (0, 0, .inl fun _ => 0)))) a 8 1 (.ref nx) = some (va_up (va_up (va_up h a (some (.inr (8, [.int (nI lim), .null, .int 0])))) nx (some (.inl (0, 0, .inl fun _ => 0)))) a (some (.inr (8, [.int (nI lim), .ref nx, .int 0])))) from hpV_at (k := 1) e1 (by simp), Option.bind_some, show hpV (va_up (va_up (va_up h a (some (.inr (8, [.int (nI lim), .null, .int 0])))) nx (some (.inl (0, 0, .inl fun _ => 0)))) a (some (.inr (8, [.int (nI lim), .ref nx, .int 0])))) a 8 2 (.int 0) = _ from hpV_at (k := 2) (va_up_self _ _ _) (by simp), Option.bind_some] at hr
  simp only [Option.some.injEq, Prod.mk.injEq] at hr
  rw [← hr.2.2.2, va_up_ne _ _ h1, va_up_ne _ _ h1, va_up_ne _ _ h2, va_up_ne _ _ h1]
/-- all that was there is as it was -/
def Old (nx : Nat) (o o' : oT) (h h' : hH) : Prop := ∀ c, c < nx → o' c = o c ∧ h' c = h c
theorem Old.rf (nx : Nat) (o : oT) (h : hH) : Old nx o o h h := fun _ _ => ⟨rfl, rfl⟩
theorem Old.tr {nx : Nat} {o o1 o2 : oT} {h h1 h2 : hH} (a : Old nx o o1 h h1) (b : Old nx o1 o2 h1 h2) : Old nx o o2 h h2 := fun c hc => ⟨(b c hc).1.trans (a c hc).1, (b c hc).2.trans (a c hc).2⟩
theorem Old.mono {nx ny : Nat} {o o' : oT} {h h' : hH} (a : Old ny o o' h h') (hn : nx ≤ ny) : Old nx o o' h h' := fun c hc => a c (by omega)
theorem Old.fr {W : Nat → Prop} {nx : Nat} {o o' : oT} {h h' : hH} (a : Old nx o o' h h') (ho : Own o nx) : Fr W o o' h h' := fun c l e => ⟨(a c (ho.lt e)).1.trans e, fun _ => (a c (ho.lt e)).2⟩
theorem Old.up {nx b : Nat} {o : oT} {h : hH} {v : Option hC} (hb : nx ≤ b) : Old nx o o h (va_up h b v) := fun c hc => ⟨rfl, (by simp only [aPi, aPl, aPt, rput, va_up, upd] <;> (repeat rw [if_neg (by omega)]))⟩
theorem Old.new {nx b l : Nat} {o : oT} {h : hH} {v : Option hC} (hb : nx ≤ b) : Old nx o (oSet o b l) h (va_up h b v) := fun c hc => ⟨by unfold oSet; rw [if_neg (by omega)], (by simp only [aPi, aPl, aPt, rput, va_up, upd] <;> (repeat rw [if_neg (by omega)]))⟩
/-- a new row: its cell and its items -/
theorem c_newRow {nx lim l : Nat} {o : oT} {h : hH} (ho : Own o nx) : ∃ o' h', f_Row_init nx (nI lim) (nx + 1) (va_up h nx (some (.inr (8, [.int 0, .null, .int 0])))) = some ((), 1, 0, h') ∧ Own o' (nx + 2) ∧ Rw o' h' l nx lim 0 [] ∧ Old nx o o' h h' := by
  obtain ⟨h', e, R, F⟩ := c_rowInit (lim := lim) (h := va_up h nx (some (.inr (8, [.int 0, .null, .int 0])))) (ho.set (l := l)) (oSet_self _ _ _) (va_up_self _ _ _)
  refine ⟨_, h', e, (ho.set).set, R, fun c hc => ⟨?_, ?_⟩⟩
  · unfold oSet
    rw [if_neg (by omega), if_neg (by omega)]
  · rw [c_rowInit_old (va_up_self _ _ _) (by omega) e (show c ≠ nx by omega) (by omega), va_up_ne _ _ (by omega)]
/-- the loop that fills an array with new rows -/
def gRows (ci fi : Nat) (lim : Int32) (a0 : Nat) : Int32 → Nat → hH → hR (Int32 ⊕ Unit) := fun x nx h =>
  (hgR h a0 ci fi).bind fun v27 =>
  (v27).bind fun p30 =>
  (haL h p30 3).bind fun v30 =>
  if v30 ≤ x then
    some (.inr (), 0, 0, h)
  else
    (hgR h a0 ci fi).bind fun v35 =>
    hbind (hnew (.inr (8, [.int 0, .null, .int 0])) (3) nx h) nx fun _ nx39 h39 =>
    hbind (f_Row_init nx lim nx39 h39) nx39 fun _ nx46 h46 =>
    (v35).bind fun p49 =>
    (hObj h46 nx 8).bind fun _ =>
    (hsR h46 p49 3 x (some nx)).bind fun h49 =>
    some (.inl (x + (1 : Int32)), 0, 0, h49)
theorem c_rows {n ci fi lim a ra N lb nx : Nat} {o : oT} {h : hH} {fs : List Value} {f : Nat → Option Nat} (ho : Own o nx) (hN : N ≤ 10) (hcell : h a = some (.inr (ci, fs))) (hfs : fs[fi]? = some (.ref ra)) (hra : h ra = kR 3 N f) (ha : a < nx) (hr : ra < nx) (hne : a ≠ ra) (hlr : ∀ j, j < N → o ra ≠ some (lb + j)) (hn : 20 < n) : ∃ o' h' f', hloopA (gRows ci fi (nI lim) a) n (0 : Int32) nx h = some ((), 2 * N, 3 * N, h') ∧ Own o' (nx + 2 * N) ∧ (∀ c, c < nx → o' c = o c ∧ (c ≠ ra → h' c = h c)) ∧ h' ra = kR 3 N f' ∧ ∀ j, j < N → f' j = some (nx + 2 * j) ∧ Rw o' h' (lb + j) (nx + 2 * j) lim 0 [] := by
  obtain ⟨b, d, e, h', el, hd, he, o', f', O', hold, hra', hrows⟩ := hloopA_rule (body := gRows ci fi (nI lim) a)
    (fun k v nx1 sl h1 => ∃ (i : Nat) (o1 : oT) (f1 : Nat → Option Nat), k = N - i ∧ i ≤ N ∧ v = nI i ∧ nx1 = nx + 2 * i ∧ sl = 3 * i ∧ Own o1 nx1 ∧ (∀ c, c < nx → o1 c = o c ∧ (c ≠ ra → h1 c = h c)) ∧ h1 ra = kR 3 N f1 ∧ ∀ j, j < i → f1 j = some (nx + 2 * j) ∧ Rw o1 h1 (lb + j) (nx + 2 * j) lim 0 [])
    (fun _ nx1 sl h1 => nx1 = nx + 2 * N ∧ sl = 3 * N ∧ ∃ (o1 : oT) (f1 : Nat → Option Nat), Own o1 nx1 ∧ (∀ c, c < nx → o1 c = o c ∧ (c ≠ ra → h1 c = h c)) ∧ h1 ra = kR 3 N f1 ∧ ∀ j, j < N → f1 j = some (nx + 2 * j) ∧ Rw o1 h1 (lb + j) (nx + 2 * j) lim 0 [])
    (by
      rintro k v nx1 sl h1 ⟨i, o1, f1, rfl, hi, rfl, rfl, rfl, O1, hold, hra1, hrows⟩
      have hc1 : hgR h1 a ci fi = some (some ra) := hgR_at (x := some ra) (((hold a ha).2 hne).trans hcell) hfs
      by_cases hie : i = N
      · subst hie
        refine Or.inr ⟨(), 0, 0, h1, ?_, rfl, rfl, o1, f1, O1, hold, hra1, hrows⟩
        unfold gRows
        rw [hc1, Option.bind_some, Option.bind_some, kR_len hra1, Option.bind_some, if_pos (nI_le (by omega) (by omega))]
      · obtain ⟨o2, h2, e2, O2, R2, H2⟩ := c_newRow (lim := lim) (l := lb + i) (h := h1) O1
        obtain ⟨fsR, hoR⟩ := R2.obj
        have hra2 : h2 ra = kR 3 N f1 := ((H2 ra (by omega)).2).trans hra1
        refine Or.inl ⟨nI (i + 1), N - (i + 1), 2, 3, va_up h2 ra (kR 3 N (va_up f1 i (some (nx + 2 * i)))), ?_, by omega, i + 1, o2, va_up f1 i (some (nx + 2 * i)), rfl, by omega, rfl, by omega, by omega, ?_, ?_, va_up_self _ _ _, ?_⟩
        · unfold gRows
          rw [hc1, Option.bind_some, Option.bind_some, kR_len hra1, Option.bind_some, if_neg (nI_ge (by omega) (by omega)), Option.bind_some]
          simp only [hbind, hnew]
          rw [e2]
          simp only [Option.bind_some]
          rw [hoR, Option.bind_some, kR_set hra2 (by omega) (by omega), Option.bind_some, nI_1]
        · rw [show nx + 2 * i + 2 = nx + 2 * i + 2 from rfl]
          exact O2
        · intro c hc
          refine ⟨((H2 c (by omega)).1).trans (hold c hc).1, fun hcr => ?_⟩
          rw [va_up_ne _ _ hcr, (H2 c (by omega)).2]
          exact (hold c hc).2 hcr
        · intro j hj
          have hFr : Fr (fun b => o ra = some b) o2 o2 h2 (va_up h2 ra (kR 3 N (va_up f1 i (some (nx + 2 * i))))) := fun c l el => ⟨el, fun w => va_up_ne _ _ (fun q => w (by
            rw [q, (H2 ra (by omega)).1, (hold ra hr).1] at el
            exact el))⟩
          by_cases hji : j = i
          · subst hji
            exact ⟨va_up_self _ _ _, R2.fr hFr (hlr j (by omega))⟩
          · obtain ⟨q1, q2⟩ := hrows j (by omega)
            exact ⟨by rw [va_up_ne _ _ hji]; exact q1, (q2.fr (W := fun _ => False) (H2.fr O1) (by simp)).fr hFr (hlr j (by omega))⟩)
    n N (nI 0) nx 0 h (by omega) ⟨0, o, f, by omega, by omega, rfl, by omega, by omega, ho, fun _ _ => ⟨rfl, fun _ => rfl⟩, hra, fun j hj => by omega⟩
  refine ⟨o', h', f', ?_, by rw [← hd]; exact O', hold, hra', hrows⟩
  rw [show (0 : Int32) = nI 0 from rfl, el, show d = 2 * N by omega, show e = 3 * N by omega]
theorem hpV_raw {h : hH} {a ci k : Nat} {fs gs : List Value} {v : Value} (e : h a = some (.inr (ci, fs))) (hk : k < fs.length) (hg : fs.set k v = gs) : hpV h a ci k v = some (va_up h a (some (.inr (ci, gs)))) := by rw [hpV_at e hk, hg]
theorem hpZ_raw {h : hH} {a ci k : Nat} {fs gs : List Value} {v : Int32} (e : h a = some (.inr (ci, fs))) (hk : k < fs.length) (hg : fs.set k (.int v) = gs) (hv : v = 0 ∨ v = 1) : hpZ h a ci k v = some (va_up h a (some (.inr (ci, gs)))) := (if_pos hv).trans (hpV_raw e hk hg)
/-- a new macro, all its rows empty -/
theorem c_newMacro {n nx k m : Nat} {mk : Int32} {o : oT} {h : hH} (ho : Own o nx) (hk : k ≤ 9) (hn : 20 < n) : ∃ o' h' ra ta f, f_Macro_init n nx (nI k) mk (nx + 1) (va_up h nx (some (.inr (7, [.int 0, .int 0, .int 0, .null, .null])))) = some ((), 2 * k + 5, 4 * k + 7, h') ∧ Own o' (nx + 1 + (2 * k + 5)) ∧ Old nx o o' h h' ∧ h' nx = k7 (nI k) (b01 (!(decide (mk &&& 1 = 0)))) (b01 (!(decide (mk &&& 2 = 0)))) ra ta ∧ h' ra = kR 3 (k + 1) f ∧ o' nx = some (100 + 20 * m) ∧ o' ra = some (100 + 20 * m) ∧ (∀ r, r ≤ k → ∃ b, f r = some b ∧ nx ≤ b ∧ Rw o' h' (101 + 20 * m + r) b 200 0 []) ∧ nx ≤ ta ∧ Rw o' h' (112 + 20 * m) ta 200 0 [] := by
  have hmax : (if (0 : Int32) < (if nI k < (9 : Int32) then nI k else (9 : Int32)) then (if nI k < (9 : Int32) then nI k else (9 : Int32)) else (0 : Int32)) = nI k := by
    have h1 : (if nI k < (9 : Int32) then nI k else (9 : Int32)) = nI k := by
      by_cases h9 : k = 9
      · rw [h9]
        rfl
      · rw [if_pos (show _ < (9 : Int32) from nI_lt (b := 9) (by omega) (by decide))]
    rw [h1]
    by_cases h0 : k = 0
    · rw [h0]
      rfl
    · rw [if_pos (by rw [← nI_0]; exact nI_lt (by omega) (by omega))]
  -- the cell before the rows
  generalize hl : b01 (!(decide (mk &&& 1 = 0))) = lg
  generalize hu : b01 (!(decide (mk &&& 2 = 0))) = ou
  have hl01 : lg = 0 ∨ lg = 1 := by rw [← hl]; exact b01_or
  have hu01 : ou = 0 ∨ ou = 1 := by rw [← hu]; exact b01_or
  have hO1 : Own (oSet (oSet o nx (100 + 20 * m)) (nx + 1) (100 + 20 * m)) (nx + 2) := ho.set.set
  generalize hh1 : va_up (va_up h nx (some (.inr (7, [.int (nI k), .int lg, .int ou, .ref (nx + 1), .null])))) (nx + 1) (kR 3 (k + 1) (fun _ => none)) = h1
  have c1 : h1 nx = some (.inr (7, [.int (nI k), .int lg, .int ou, .ref (nx + 1), .null])) := by
    rw [← hh1, va_up_ne _ _ (by omega), va_up_self]
  have c2 : h1 (nx + 1) = kR 3 (k + 1) (fun _ => none) := by rw [← hh1, va_up_self]
  generalize ho1 : oSet (oSet o nx (100 + 20 * m)) (nx + 1) (100 + 20 * m) = o1 at hO1
  have t1 : o1 nx = some (100 + 20 * m) := by
    rw [← ho1]
    unfold oSet
    rw [if_neg (by omega), if_pos rfl]
  have t2 : o1 (nx + 1) = some (100 + 20 * m) := by rw [← ho1]; exact oSet_self _ _ _
  have H1 : Old nx o o1 h h1 := by
    rw [← ho1, ← hh1]
    exact (Old.new (l := 100 + 20 * m) (Nat.le_refl nx)).tr (Old.new (by omega))
  obtain ⟨o2, h2, f2, e2, O2, hold2, hra2, hrows⟩ := c_rows (n := n) (ci := 7) (fi := 3) (lim := 200) (lb := 101 + 20 * m) (N := k + 1) hO1 (by omega) c1 rfl c2 (by omega) (by omega) (by omega) (fun j _ q => by rw [t2] at q; have := Option.some.inj q; omega) hn
  obtain ⟨o3, h3, e3, O3, R3, H3⟩ := c_newRow (lim := 200) (l := 112 + 20 * m) (h := h2) O2
  have c3 : h3 nx = some (.inr (7, [.int (nI k), .int lg, .int ou, .ref (nx + 1), .null])) := by
    rw [(H3 nx (by omega)).2, (hold2 nx (by omega)).2 (by omega)]
    exact c1
  have t3 : o3 nx = some (100 + 20 * m) := by rw [(H3 nx (by omega)).1, (hold2 nx (by omega)).1, t1]
  have t3r : o3 (nx + 1) = some (100 + 20 * m) := by rw [(H3 (nx + 1) (by omega)).1, (hold2 (nx + 1) (by omega)).1, t2]
  have F4 : Fr (fun b => b = 100 + 20 * m) o3 o3 h3 (va_up h3 nx (k7 (nI k) lg ou (nx + 1) (nx + 2 + 2 * (k + 1)))) := Fr.u1 t3
  refine ⟨o3, va_up h3 nx (k7 (nI k) lg ou (nx + 1) (nx + 2 + 2 * (k + 1))), nx + 1, nx + 2 + 2 * (k + 1), f2, ?_, ?_, ?_, va_up_self _ _ _, ?_, t3, t3r, ?_, by omega, R3.fr F4 (by show ¬ 112 + 20 * m = 100 + 20 * m; omega)⟩
  · have hj45 : ∀ (h0 : hH), h0 nx = some (.inr (7, [.int (nI k), .int lg, .int 0, .null, .null])) → (∀ c, c ≠ nx → h0 c = h c) → f_Macro_init_j45 n nx (some nx) ou (nx + 1) h0 = some ((), 2 * k + 5, 4 * k + 7, va_up h3 nx (k7 (nI k) lg ou (nx + 1) (nx + 2 + 2 * (k + 1)))) := by
      intro h0 q0 q1
      unfold f_Macro_init_j45
      have s0 : (va_up h0 nx (some (.inr (7, [.int (nI k), .int lg, .int ou, .null, .null])))) nx = some (.inr (7, [.int (nI k), .int lg, .int ou, .null, .null])) := va_up_self _ _ _
      rw [Option.bind_some, hpZ_raw (gs := [.int (nI k), .int lg, .int ou, .null, .null]) q0 (by simp) rfl hu01, Option.bind_some, show hgI (va_up h0 nx (some (.inr (7, [.int (nI k), .int lg, .int ou, .null, .null])))) nx 7 0 = some (nI k) from hgI_at (k := 0) s0 rfl, Option.bind_some, nI_1, nI_clamp (show k + 1 < 2 ^ 31 by omega), if_neg (fun q => q.elim (nI_pos (by omega)) (fun q => by omega))]
      simp only [hbind, hnew]
      have s1 : (va_up (va_up h0 nx (some (.inr (7, [.int (nI k), .int lg, .int ou, .null, .null])))) (nx + 1) (some (.inl (3, k + 1, .inr (.inr (.inr (.inr fun _ => none))))))) nx = some (.inr (7, [.int (nI k), .int lg, .int ou, .null, .null])) := by
        rw [va_up_ne _ _ (by omega), va_up_self]
      rw [hpV_raw (gs := [.int (nI k), .int lg, .int ou, .ref (nx + 1), .null]) s1 (by simp) rfl, Option.bind_some]
      have hH : va_up (va_up (va_up h0 nx (some (.inr (7, [.int (nI k), .int lg, .int ou, .null, .null])))) (nx + 1) (some (.inl (3, k + 1, .inr (.inr (.inr (.inr fun _ => none))))))) nx (some (.inr (7, [.int (nI k), .int lg, .int ou, .ref (nx + 1), .null]))) = h1 := by
        rw [← hh1]
        funext c
        by_cases hc : c = nx
        · rw [hc, va_up_self, va_up_ne _ _ (by omega), va_up_self]
        · by_cases hc2 : c = nx + 1
          · rw [hc2, va_up_ne _ _ (by omega), va_up_self, va_up_self]
            rfl
          · rw [va_up_ne _ _ hc, va_up_ne _ _ hc2, va_up_ne _ _ hc, va_up_ne _ _ hc2, va_up_ne _ _ hc, q1 c hc]
      rw [hH, show f_Macro_init_b63 n nx = gRows 7 3 (nI 200) nx from rfl, e2]
      simp only []
      rw [show nx + 1 + 1 + 2 * (k + 1) = nx + 2 + 2 * (k + 1) by omega]
      rw [show (200 : Int32) = nI 200 from rfl, e3]
      simp only []
      rw [hpV_raw (gs := [.int (nI k), .int lg, .int ou, .ref (nx + 1), .ref (nx + 2 + 2 * (k + 1))]) c3 (by simp) rfl, Option.bind_some]
      simp only [Option.some.injEq, Prod.mk.injEq, true_and]
      refine ⟨by omega, by omega, rfl⟩
    unfold f_Macro_init
    have s0 : (va_up h nx (some (.inr (7, [.int 0, .int 0, .int 0, .null, .null])))) nx = some (.inr (7, [.int 0, .int 0, .int 0, .null, .null])) := va_up_self _ _ _
    rw [hmax, hpV_raw (gs := [.int (nI k), .int 0, .int 0, .null, .null]) s0 (by simp) rfl, Option.bind_some, va_up_up]
    have s2 : (va_up h nx (some (.inr (7, [.int (nI k), .int 0, .int 0, .null, .null])))) nx = some (.inr (7, [.int (nI k), .int 0, .int 0, .null, .null])) := va_up_self _ _ _
    have hj30 : f_Macro_init_j30 n nx mk (some nx) lg (nx + 1) (va_up h nx (some (.inr (7, [.int (nI k), .int 0, .int 0, .null, .null])))) = some ((), 2 * k + 5, 4 * k + 7, va_up h3 nx (k7 (nI k) lg ou (nx + 1) (nx + 2 + 2 * (k + 1)))) := by
      unfold f_Macro_init_j30
      rw [Option.bind_some, hpZ_raw (gs := [.int (nI k), .int lg, .int 0, .null, .null]) s2 (by simp) rfl hl01, Option.bind_some, va_up_up]
      have := hj45 (va_up h nx (some (.inr (7, [.int (nI k), .int lg, .int 0, .null, .null])))) (va_up_self _ _ _) (fun c hc => va_up_ne _ _ hc)
      by_cases h2 : mk &&& 2 = 0
      · rw [if_pos h2]
        rw [← hu, decide_eq_true h2] at this
        rw [← hu, decide_eq_true h2]
        exact this
      · rw [if_neg h2]
        rw [← hu, decide_eq_false h2] at this
        rw [← hu, decide_eq_false h2]
        exact this
    by_cases h1' : mk &&& 1 = 0
    · rw [if_pos h1']
      rw [← hl, decide_eq_true h1'] at hj30
      rw [← hl, decide_eq_true h1']
      exact hj30
    · rw [if_neg h1']
      rw [← hl, decide_eq_false h1'] at hj30
      rw [← hl, decide_eq_false h1']
      exact hj30
  · rw [show nx + 1 + (2 * k + 5) = nx + 2 + 2 * (k + 1) + 2 by omega]
    exact O3
  · intro c hc
    refine ⟨((H3 c (by omega)).1).trans (((hold2 c (by omega)).1).trans (H1 c hc).1), ?_⟩
    rw [va_up_ne _ _ (by omega), (H3 c (by omega)).2, (hold2 c (by omega)).2 (by omega)]
    exact (H1 c hc).2
  · rw [va_up_ne _ _ (by omega), (H3 (nx + 1) (by omega)).2]
    exact hra2
  · intro r hr
    obtain ⟨q1, q2⟩ := hrows r (by omega)
    exact ⟨_, q1, by omega, (q2.fr (W := fun _ => False) (H3.fr O2) (by simp)).fr F4 (by show ¬ 101 + 20 * m + r = 100 + 20 * m; omega)⟩
/-- a row becomes a copy of another -/
theorem Rw.copyFrom {o : oT} {h : hH} {l a c l2 a2 c2 nx : Nat} {xs ys : List Int32} (hR : Rw o h l a 200 c xs) (hS : Rw o h l2 a2 200 c2 ys) (ho : Own o nx) (hl : l ≠ l2) : ∃ (o' : oT) (h' : hH), f_Row_copyFrom a a2 nx h = some ((), 1, ys.length, h') ∧ Own o' (nx + 1) ∧ Rw o' h' l a 200 ys.length ys ∧ Fr (fun b => b = l) o o' h h' ∧ ∀ d, d < nx → o' d = o d ∧ (d ≠ a → h' d = h d) := by
  have hyl := hS.le
  obtain ⟨ia, f, e1, e2, t1, t2, hne, hc, hcl, hf⟩ := hR
  obtain ⟨ib, g, p1, p2, u1, u2, pne, pc, pcl, pg⟩ := hS
  obtain ⟨k, e3, hk⟩ := copyOf_at (nx := nx) (k := ys.length) p2 (ho.ne u2) (by omega) (by omega)
  have e4 : (va_up h nx (kA ys.length k)) a = k8 (nI 200) ia (nI xs.length) := by
    rw [va_up_ne _ _ (ho.ne t1)]
    exact e1
  have e5 : (va_up (va_up h nx (kA ys.length k)) a (k8 (nI 200) nx (nI xs.length))) a = k8 (nI 200) nx (nI xs.length) := va_up_self _ _ _
  have e6 : (va_up (va_up h nx (kA ys.length k)) a (k8 (nI 200) nx (nI xs.length))) nx = kA ys.length k := by
    rw [va_up_ne _ _ (Ne.symm (ho.ne t1)), va_up_self]
  refine ⟨oSet o nx l, va_up (va_up (va_up h nx (kA ys.length k)) a (k8 (nI 200) nx (nI xs.length))) a (k8 (nI 200) nx (nI ys.length)), ?_, ho.set, ⟨nx, k, va_up_self _ _ _, ?_, oSet_old ho t1, oSet_self _ _ _, ho.ne t1, Nat.le_refl _, hyl, fun i t hi => ?_⟩, ((Fr.new ho).tr (Fr.u1 (oSet_old ho t1))).tr (Fr.u1 (oSet_old ho t1)), fun d hd => ⟨by unfold oSet; rw [if_neg (by omega)], fun hda => by rw [va_up_ne _ _ hda, va_up_ne _ _ hda, va_up_ne _ _ (by omega)]⟩⟩
  · unfold f_Row_copyFrom
    have hmin : (if nI 200 < nI ys.length then nI 200 else nI ys.length) = nI ys.length := if_neg (nI_nlt hyl (by decide))
    rw [k8_g1 p1, Option.bind_some, k8_g2 p1, Option.bind_some, k8_g0 e1, Option.bind_some, Option.bind_some, hmin, e3]
    simp only [hbind]
    rw [show va_rf (some nx) = .ref nx from rfl, k8_p1 e4, Option.bind_some, k8_g1 e5, Option.bind_some, Option.bind_some, kA_len e6, Option.bind_some, k8_p2 e5, Option.bind_some]
    simp
  · rw [va_up_ne _ _ (Ne.symm (ho.ne t1))]
    exact e6
  · have hil := (List.getElem?_eq_some_iff.mp hi).1
    rw [hk i hil (by omega)]
    exact pg i t hi
