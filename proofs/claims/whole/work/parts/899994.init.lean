/-! THE CONSTRUCTORS -/
/-- what a constructor's part comes to: cells made, elements made at most, the heap then -/
def Ev {β : Type} (r : β) (x : hR β) (d e : Nat) (P : hH → Prop) : Prop := ∃ (e' : Nat) (h' : hH), x = some (r, d, e', h') ∧ e' ≤ e ∧ P h'
theorem Ev.ret {β : Type} {r : β} {h : hH} {P : hH → Prop} {e : Nat} (hP : P h) : Ev r (some (r, 0, 0, h)) 0 e P := ⟨0, h, rfl, Nat.zero_le _, hP⟩
theorem Ev.newPut {β : Type} {r : β} {a ci k nx len d e D E : Nat} {fs gs : List Value} {c : hC} {h : hH} {K : Nat → hH → hR β} {P : hH → Prop} (d' : d + 1 = D) (e' : len + e ≤ E) (e0 : h a = some (.inr (ci, fs))) (ha : a ≠ nx) (hk : k < fs.length) (hg : fs.set k (.ref nx) = gs) (hK : Ev r (K (nx + 1) (va_up (va_up h nx (some c)) a (some (.inr (ci, gs))))) d e P) : Ev r (hbind (hnew c len nx h) nx (fun _ nx' h' => (hpV h' a ci k (.ref nx)).bind fun h'' => K nx' h'')) D E P := by
  obtain ⟨e1, h1, q1, q2, q3⟩ := hK
  refine ⟨len + e1, h1, ?_, by omega, q3⟩
  simp only [hbind, hnew]
  rw [hpV_raw (h := va_up h nx (some c)) (by rw [va_up_ne _ _ ha]; exact e0) hk hg, Option.bind_some, q1]
  simp only [Option.some.injEq, Prod.mk.injEq, true_and, and_true]
  omega
theorem Ev.put {β : Type} {r : β} {a ci k d e : Nat} {v : Value} {fs gs : List Value} {h : hH} {K : hH → hR β} {P : hH → Prop} (e0 : h a = some (.inr (ci, fs))) (hk : k < fs.length) (hg : fs.set k v = gs) (hK : Ev r (K (va_up h a (some (.inr (ci, gs))))) d e P) : Ev r ((hpV h a ci k v).bind K) d e P := by
  rw [hpV_raw e0 hk hg, Option.bind_some]
  exact hK
theorem Ev.get {β : Type} {r : β} {a ci k d e : Nat} {fs : List Value} {y : Option Nat} {h : hH} {K : Option Nat → hR β} {P : hH → Prop} (e0 : h a = some (.inr (ci, fs))) (hk : fs[k]? = some (va_rf y)) (hK : Ev r (K y) d e P) : Ev r ((hgR h a ci k).bind K) d e P := by
  rw [hgR_at e0 hk, Option.bind_some]
  exact hK
theorem Ev.call {α β : Type} {s : α} {r : β} {nx d1 e1 d e D E : Nat} {x : hR α} {K : Nat → hH → hR β} {P Q : hH → Prop} (d' : d1 + d = D) (e' : e1 + e ≤ E) (hx : Ev s x d1 e1 Q) (hK : ∀ h', Q h' → Ev r (K (nx + d1) h') d e P) : Ev r (hbind x nx (fun _ nx' h' => K nx' h')) D E P := by
  obtain ⟨e2, h2, q1, q2, q3⟩ := hx
  obtain ⟨e3, h3, p1, p2, p3⟩ := hK h2 q3
  refine ⟨e2 + e3, h3, ?_, by omega, p3⟩
  rw [q1]
  simp only [hbind]
  rw [p1]
  simp only [Option.some.injEq, Prod.mk.injEq, true_and, and_true]
  omega
theorem Ev.newObj {β : Type} {r : β} {nx len d e D E : Nat} {c : hC} {h : hH} {K : Nat → hH → hR β} {P : hH → Prop} (d' : d + 1 = D) (e' : len + e ≤ E) (hK : Ev r (K (nx + 1) (va_up h nx (some c))) d e P) : Ev r (hbind (hnew c len nx h) nx (fun _ nx' h' => K nx' h')) D E P := by
  obtain ⟨e1, h1, q1, q2, q3⟩ := hK
  refine ⟨len + e1, h1, ?_, by omega, q3⟩
  simp only [hbind, hnew]
  rw [q1]
  simp only [Option.some.injEq, Prod.mk.injEq, true_and, and_true]
  omega
theorem c_fill {n a c : Nat} {v : Int32} {f : Nat → Int32} {h : hH} (e : h a = kA c f) (hc : c ≤ 3000) (hn : 3001 < n) : ∃ g : Nat → Int32, f_Arrays_fill n a v h = some ((), va_up h a (kA c g)) ∧ ∀ i, i < c → g i = v := by
  obtain ⟨b, h1, el, g, hg, hg2⟩ := hloopW_rule (body := f_Arrays_fill_b5 n a v (nI c)) (fun k x hh => ∃ (i : Nat) (g : Nat → Int32), k = c - i ∧ i ≤ c ∧ x = nI i ∧ hh = va_up h a (kA c g) ∧ ∀ j, j < i → g j = v) (fun _ hh => ∃ g : Nat → Int32, hh = va_up h a (kA c g) ∧ ∀ j, j < c → g j = v)
    (by
      rintro k x hh ⟨i, g, rfl, hi, rfl, rfl, hg⟩
      by_cases he : i = c
      · refine Or.inr ⟨(), _, ?_, g, rfl, by rw [he] at hg; exact hg⟩
        unfold f_Arrays_fill_b5
        dsimp only
        rw [if_pos (nI_le (by omega) (by omega))]
      · refine Or.inl ⟨nI (i + 1), c - (i + 1), va_up h a (kA c (upd g i v)), ?_, by omega, i + 1, upd g i v, rfl, by omega, rfl, rfl, fun j hj => ?_⟩
        · unfold f_Arrays_fill_b5
          dsimp only
          rw [if_neg (nI_ge (by omega) (by omega)), kA_set (va_up_self _ _ _) (by omega) (by omega), Option.bind_some, va_up_up, nI_1]
        · by_cases hji : j = i
          · rw [hji, upd_same]
          · rw [upd_other hji]
            exact hg j (by omega))
    n c (nI 0) h (by omega) ⟨0, f, by omega, by omega, rfl, by
      funext q
      by_cases hq : q = a
      · rw [hq, va_up_self]
        exact e
      · rw [va_up_ne _ _ hq], fun j hj => by omega⟩
  refine ⟨g, ?_, hg2⟩
  unfold f_Arrays_fill
  rw [kA_len e, Option.bind_some, show (0 : Int32) = nI 0 from rfl, el, hg]
  rfl
theorem u_book {n nx : Nat} {h : hH} (hn : 4000 < n) : Ev () (f_Book_init n nx (nx + 1) (va_up h nx (some (.inr (3, [.null, .null, .null, .int 0, .int 0]))))) 23 4320 (fun h' => (∀ c, c < nx → h' c = h c) ∧ h' nx = k3 (nx + 1) (nx + 2) (nx + 3) 0 0 ∧ h' (nx + 1) = kR 1 100 (fun _ => none) ∧ (∃ g, h' (nx + 2) = kA 200 g ∧ ∀ i, i < 200 → g i = -1) ∧ h' (nx + 3) = kR 2 20 (fun j => if j < 20 then some (nx + 3 + 1 + j) else none) ∧ ∀ j, j < 20 → h' (nx + 3 + 1 + j) = kA 200 (fun _ => 0)) := by
  unfold f_Book_init
  refine Ev.newPut (d := 22) (e := 4220) (fs := [.null, .null, .null, .int 0, .int 0]) (gs := [.ref (nx + 1), .null, .null, .int 0, .int 0]) rfl (by omega) (va_up_self _ _ _) (by omega) (by simp) rfl ?_
  refine Ev.newPut (d := 21) (e := 4020) (fs := [.ref (nx + 1), .null, .null, .int 0, .int 0]) (gs := [.ref (nx + 1), .ref (nx + 2), .null, .int 0, .int 0]) rfl (by omega) (va_up_self _ _ _) (by omega) (by simp) rfl ?_
  generalize hh1 : va_up (va_up (va_up (va_up (va_up h nx (some (.inr (3, [.null, .null, .null, .int 0, .int 0])))) (nx + 1) (some (.inl (1, 100, .inr (.inr (.inr (.inr (fun _ => none)))))))) nx (some (.inr (3, [.ref (nx + 1), .null, .null, .int 0, .int 0])))) (nx + 1 + 1) (some (.inl (0, 200, .inl (fun _ => 0))))) nx (some (.inr (3, [.ref (nx + 1), .ref (nx + 2), .null, .int 0, .int 0]))) = h1
  have a0 : h1 nx = some (.inr (3, [.ref (nx + 1), .ref (nx + 2), .null, .int 0, .int 0])) := by rw [← hh1, va_up_self]
  have a1 : h1 (nx + 1) = kR 1 100 (fun _ => none) := by
    rw [← hh1, va_up_ne _ _ (by omega), va_up_ne _ _ (by omega), va_up_ne _ _ (by omega), va_up_self]
    rfl
  have a2 : h1 (nx + 2) = kA 200 (fun _ => 0) := by
    rw [← hh1, va_up_ne _ _ (by omega), show nx + 1 + 1 = nx + 2 from rfl, va_up_self]
    rfl
  have a3 : ∀ c, c < nx → h1 c = h c := fun c hc => by
    rw [← hh1, va_up_ne _ _ (by omega), va_up_ne _ _ (by omega), va_up_ne _ _ (by omega), va_up_ne _ _ (by omega), va_up_ne _ _ (by omega)]
  refine Ev.get (y := some (nx + 2)) a0 rfl ?_
  rw [Option.bind_some]
  obtain ⟨g, eg, hg⟩ := c_fill (n := n) (v := -1) a2 (by omega) (by omega)
  rw [eg]
  simp only [hbW]
  refine Ev.call (s := nx + 1 + 1 + 1) (d1 := 21) (e1 := 4020) (d := 0) (e := 0) (Q := fun h' => h' = hmulH 2 0 20 200 (nx + 3) (va_up h1 (nx + 2) (kA 200 g))) rfl (by omega) ⟨_, _, rfl, by omega, rfl⟩ ?_
  rintro h2 rfl
  have b0 : hmulH 2 0 20 200 (nx + 3) (va_up h1 (nx + 2) (kA 200 g)) nx = some (.inr (3, [.ref (nx + 1), .ref (nx + 2), .null, .int 0, .int 0])) := by
    unfold hmulH
    rw [if_neg (by omega), if_neg (by omega), va_up_ne _ _ (by omega)]
    exact a0
  refine Ev.put (gs := [.ref (nx + 1), .ref (nx + 2), .ref (nx + 3), .int 0, .int 0]) b0 (by simp) rfl ?_
  refine Ev.put (gs := [.ref (nx + 1), .ref (nx + 2), .ref (nx + 3), .int 0, .int 0]) (va_up_self _ _ _) (by simp) rfl ?_
  refine Ev.put (gs := [.ref (nx + 1), .ref (nx + 2), .ref (nx + 3), .int 0, .int 0]) (va_up_self _ _ _) (by simp) rfl ?_
  refine Ev.ret ⟨fun c hc => ?_, ?_, ?_, ⟨g, ?_, hg⟩, ?_, fun j hj => ?_⟩
  · rw [va_up_ne _ _ (by omega), va_up_ne _ _ (by omega), va_up_ne _ _ (by omega)]
    unfold hmulH
    rw [if_neg (by omega), if_neg (by omega), va_up_ne _ _ (by omega)]
    exact a3 c hc
  · rw [va_up_self]
    rfl
  · rw [va_up_ne _ _ (by omega), va_up_ne _ _ (by omega), va_up_ne _ _ (by omega)]
    unfold hmulH
    rw [if_neg (by omega), if_neg (by omega), va_up_ne _ _ (by omega)]
    exact a1
  · rw [va_up_ne _ _ (by omega), va_up_ne _ _ (by omega), va_up_ne _ _ (by omega)]
    unfold hmulH
    rw [if_neg (by omega), if_neg (by omega), va_up_self]
  · rw [va_up_ne _ _ (by omega), va_up_ne _ _ (by omega), va_up_ne _ _ (by omega)]
    unfold hmulH
    rw [if_pos rfl]
    rfl
  · rw [va_up_ne _ _ (by omega), va_up_ne _ _ (by omega), va_up_ne _ _ (by omega)]
    unfold hmulH
    rw [if_neg (by omega), if_pos (by omega)]
    rfl
theorem u_spell {nx : Nat} {h : hH} : Ev () (f_Spelling_init nx (nx + 1) (va_up h nx (some (.inr (9, [.null, .null, .int 0]))))) 2 900 (fun h' => (∀ c, c < nx → h' c = h c) ∧ h' nx = k9 (nx + 1) (nx + 2) 0 ∧ h' (nx + 1) = kA 800 (fun _ => 0) ∧ h' (nx + 2) = kA 100 (fun _ => 0)) := by
  unfold f_Spelling_init
  refine Ev.newPut (d := 1) (e := 100) (fs := [.null, .null, .int 0]) (gs := [.ref (nx + 1), .null, .int 0]) rfl (by omega) (va_up_self _ _ _) (by omega) (by simp) rfl ?_
  refine Ev.newPut (d := 0) (e := 0) (fs := [.ref (nx + 1), .null, .int 0]) (gs := [.ref (nx + 1), .ref (nx + 2), .int 0]) rfl (by omega) (va_up_self _ _ _) (by omega) (by simp) rfl ?_
  refine Ev.put (gs := [.ref (nx + 1), .ref (nx + 2), .int 0]) (va_up_self _ _ _) (by simp) rfl ?_
  refine Ev.ret ⟨fun c hc => ?_, ?_, ?_, ?_⟩
  · rw [va_up_ne _ _ (by omega), va_up_ne _ _ (by omega), va_up_ne _ _ (by omega), va_up_ne _ _ (by omega), va_up_ne _ _ (by omega), va_up_ne _ _ (by omega)]
  · rw [va_up_self]
    rfl
  · rw [va_up_ne _ _ (by omega), va_up_ne _ _ (by omega), va_up_ne _ _ (by omega), va_up_ne _ _ (by omega), va_up_self]
    rfl
  · rw [va_up_ne _ _ (by omega), va_up_ne _ _ (by omega), show nx + 1 + 1 = nx + 2 from rfl, va_up_self]
    rfl
theorem u_input {nx : Nat} {h : hH} : Ev () (f_Input_init nx (nx + 1) (va_up h nx (some (.inr (6, [.null, .int 0]))))) 1 3000 (fun h' => (∀ c, c < nx → h' c = h c) ∧ h' nx = k6 (nx + 1) 0 ∧ h' (nx + 1) = kA 3000 (fun _ => 0)) := by
  unfold f_Input_init
  refine Ev.newPut (d := 0) (e := 0) (fs := [.null, .int 0]) (gs := [.ref (nx + 1), .int 0]) rfl (by omega) (va_up_self _ _ _) (by omega) (by simp) rfl ?_
  refine Ev.put (gs := [.ref (nx + 1), .int 0]) (va_up_self _ _ _) (by simp) rfl ?_
  refine Ev.ret ⟨fun c hc => ?_, ?_, ?_⟩
  · rw [va_up_ne _ _ (by omega), va_up_ne _ _ (by omega), va_up_ne _ _ (by omega), va_up_ne _ _ (by omega)]
  · rw [va_up_self]
    rfl
  · rw [va_up_ne _ _ (by omega), va_up_ne _ _ (by omega), va_up_self]
    rfl
theorem u_trace {nx : Nat} {h : hH} : Ev () (f_Trace_init nx (nx + 1) (va_up h nx (some (.inr (10, [.null, .null, .null, .int 0]))))) 3 300 (fun h' => (∀ c, c < nx → h' c = h c) ∧ h' nx = k10 (nx + 1) (nx + 2) (nx + 3) 0 ∧ h' (nx + 1) = kA 100 (fun _ => 0) ∧ h' (nx + 2) = kA 100 (fun _ => 0) ∧ h' (nx + 3) = kA 100 (fun _ => 0)) := by
  unfold f_Trace_init
  refine Ev.newPut (d := 2) (e := 200) (fs := [.null, .null, .null, .int 0]) (gs := [.ref (nx + 1), .null, .null, .int 0]) rfl (by omega) (va_up_self _ _ _) (by omega) (by simp) rfl ?_
  refine Ev.newPut (d := 1) (e := 100) (fs := [.ref (nx + 1), .null, .null, .int 0]) (gs := [.ref (nx + 1), .ref (nx + 2), .null, .int 0]) rfl (by omega) (va_up_self _ _ _) (by omega) (by simp) rfl ?_
  refine Ev.newPut (d := 0) (e := 0) (fs := [.ref (nx + 1), .ref (nx + 2), .null, .int 0]) (gs := [.ref (nx + 1), .ref (nx + 2), .ref (nx + 3), .int 0]) rfl (by omega) (va_up_self _ _ _) (by omega) (by simp) rfl ?_
  refine Ev.put (gs := [.ref (nx + 1), .ref (nx + 2), .ref (nx + 3), .int 0]) (va_up_self _ _ _) (by simp) rfl ?_
  refine Ev.ret ⟨fun c hc => ?_, ?_, ?_, ?_, ?_⟩
  · rw [va_up_ne _ _ (by omega), va_up_ne _ _ (by omega), va_up_ne _ _ (by omega), va_up_ne _ _ (by omega), va_up_ne _ _ (by omega), va_up_ne _ _ (by omega), va_up_ne _ _ (by omega), va_up_ne _ _ (by omega)]
  · rw [va_up_self]
    rfl
  · rw [va_up_ne _ _ (by omega), va_up_ne _ _ (by omega), va_up_ne _ _ (by omega), va_up_ne _ _ (by omega), va_up_ne _ _ (by omega), va_up_ne _ _ (by omega), va_up_self]
    rfl
  · rw [va_up_ne _ _ (by omega), va_up_ne _ _ (by omega), va_up_ne _ _ (by omega), va_up_ne _ _ (by omega), show nx + 1 + 1 = nx + 2 from rfl, va_up_self]
    rfl
  · rw [va_up_ne _ _ (by omega), va_up_ne _ _ (by omega), show nx + 1 + 1 + 1 = nx + 3 from rfl, va_up_self]
    rfl
