/-! THE MACHINE'S ROWS OVER THE FUNCTIONAL HEAP -/
def hA (b0 : Nat) : Nat → Prop := fun q => b0 ≤ q
/-- the machine's heap H holds h: nx cells are there, all of h lies from b0 on -/
def hW (D : va_G) (dA : Nat → ClassId) (cl : List vw_C) (b0 nx : Nat) (h : hH) (H : Heap) : Prop := H.size = nx ∧ b0 ≤ nx ∧ ∀ (a : Nat) (c : hC), h a = some c → b0 ≤ a ∧ va_at D cl (a, hE dA c) H
theorem hW.P1 {D : va_G} {dA : Nat → ClassId} {cl : List vw_C} {b0 nx : Nat} {h : hH} {H : Heap} {a : Nat} {c : hC} (hw : hW D dA cl b0 nx h H) (e : h a = some c) : va_P D cl [(a, hE dA c)] H := by
  intro k q hk
  match k, hk with
  | 0, hk => cases hk; exact (hw.2.2 a c e).2
  | k + 1, hk => simp at hk
theorem hW.P2 {D : va_G} {dA : Nat → ClassId} {cl : List vw_C} {b0 nx : Nat} {h : hH} {H : Heap} {a b : Nat} {c d : hC} (hw : hW D dA cl b0 nx h H) (e : h a = some c) (e2 : h b = some d) : va_P D cl [(a, hE dA c), (b, hE dA d)] H := by
  intro k q hk
  match k, hk with
  | 0, hk => cases hk; exact (hw.2.2 a c e).2
  | 1, hk => cases hk; exact (hw.2.2 b d e2).2
  | k + 2, hk => simp at hk
theorem hW.put {D : va_G} {dA : Nat → ClassId} {cl : List vw_C} {b0 nx : Nat} {h : hH} {H H1 : Heap} {a : Nat} {c0 c : hC} (hw : hW D dA cl b0 nx h H) (e : h a = some c0) (z : H1.size = H.size) (oq : ∀ q : Nat, q ≠ a → H1[q]? = H[q]?) (he : va_at D cl (a, hE dA c) H1) : hW D dA cl b0 nx (va_up h a (some c)) H1 := by
  refine ⟨z.trans hw.1, hw.2.1, fun b c' hb => ?_⟩
  by_cases hba : b = a
  · subst hba
    rw [va_up_self] at hb
    cases hb
    exact ⟨(hw.2.2 _ _ e).1, he⟩
  · rw [va_up_ne _ _ hba] at hb
    exact ⟨(hw.2.2 b c' hb).1, (hw.2.2 b c' hb).2.kept (oq b hba)⟩
theorem hW.push {D : va_G} {dA : Nat → ClassId} {cl : List vw_C} {b0 nx : Nat} {h : hH} {H H1 : Heap} {c : hC} (hw : hW D dA cl b0 nx h H) (z : H1.size = H.size + 1) (o1 : ∀ q : Nat, q < H.size → H1[q]? = H[q]?) (he : va_at D cl (H.size, hE dA c) H1) : hW D dA cl b0 (nx + 1) (va_up h nx (some c)) H1 := by
  refine ⟨by rw [z, hw.1], Nat.le_succ_of_le hw.2.1, fun b c' hb => ?_⟩
  by_cases hba : b = nx
  · subst hba
    rw [va_up_self] at hb
    cases hb
    refine ⟨hw.2.1, ?_⟩
    have := hw.1
    rw [← this]
    exact he
  · rw [va_up_ne _ _ hba] at hb
    have hq := (hw.2.2 b c' hb).2
    exact ⟨(hw.2.2 b c' hb).1, hq.kept (o1 b hq.lt)⟩
theorem hS_put {b0 : Nat} {H0 H H1 : Heap} {locs : List Loc} {a k : Nat} (h : va_S (hA b0) H0 H locs) (z : H1.size = H.size) (oq : ∀ q : Nat, q ≠ a → H1[q]? = H[q]?) (ha : b0 ≤ a) : va_S (hA b0) H0 H1 (locs ++ [⟨a, k⟩]) := h.put z oq ha
theorem hS_push {b0 : Nat} {H0 H H1 : Heap} {locs : List Loc} (hS : va_S (hA b0) H0 H locs) (z : H1.size = H.size + 1) (o1 : ∀ q : Nat, q < H.size → H1[q]? = H[q]?) : va_S (hA b0) H0 H1 locs :=
  ⟨Nat.le_trans hS.1 (by omega), fun x h1 h2 => (o1 x (Nat.lt_of_lt_of_le h1 hS.1)).trans (hS.2.1 x h1 h2), hS.2.2⟩
section HROWS
variable {p : Program} {l : Launch} {e : Env} {R : Room} {s : State} {m : MethodId} {args : Array Value} {below : List Frame} {meth : Method} {c : Code} {H : Heap} {locs : List Loc} {cells slots : Nat} {Q : State → Prop}
variable {cc : ByteArray} {nL pc : Nat} {ls : Array Slot} {rest : List Value} {D : va_G} {dA : Nat → ClassId} {cl : List vw_C} {a : Nat} {tys : List (ClassId × FieldType)} {H0 : Heap} {b0 nx : Nat} {h h1 : hH} {Ts : List Cond} {own : String}
theorem h_get (S : CallFix p m c cc nL s args Ts own) {C : String} {T : u_T} {N ci index : Nat} (hin : ∀ w ∈ u_ws C T N, w ∈ Ts) (hK : va_K D cl tys s) (hc : cl[ci]? = some (C, T, N)) (k : Nat) (hk : k < N) (hlink : Cond.fieldLink own index (T k).1 (T k).2.1 (T k).2.2.1 ∈ Ts) (hw : hW D dA cl b0 nx h H) {fs : List Value} (he : h a = some (.inr (ci, fs))) {v : Value} (hv : fs[k]? = some v) (hdg : decode cc pc = .ok (.getfield index, 3))
    (kk : W p l e R s m args below meth c H locs cells slots Q (F0 m (pc + 3) ls (v :: rest))) : W p l e R s m args below meth c H locs cells slots Q (F0 m pc ls (.ref a :: rest)) :=
  va_get S.1 S.2.1 S.2.2.2.2 hin S.2.2.2.1 hK (hw.P1 he) 0 (by rfl) hc k hk (S.2.2.2.2 _ hlink) (fun _ h9 => h9) hv hdg kk
theorem h_getN (S : CallFix p m c cc nL s args Ts own) {C host : String} {T : u_T} {N ci index : Nat} (hin : ∀ w ∈ u_ws C T N, w ∈ Ts) (hK : va_K D cl tys s) (hc : cl[ci]? = some (C, T, N)) (k : Nat) (hk : k < N) (hlink : va_Nw (.fieldLinkNest own index (T k).1 (T k).2.1 (T k).2.2.1 host) s) (hw : hW D dA cl b0 nx h H) {fs : List Value} (he : h a = some (.inr (ci, fs))) {v : Value} (hv : fs[k]? = some v) (hdg : decode cc pc = .ok (.getfield index, 3))
    (kk : W p l e R s m args below meth c H locs cells slots Q (F0 m (pc + 3) ls (v :: rest))) : W p l e R s m args below meth c H locs cells slots Q (F0 m pc ls (.ref a :: rest)) :=
  va_getN S.1 S.2.1 S.2.2.2.2 hin S.2.2.2.1 hK (hw.P1 he) 0 (by rfl) hc k hk (va_Nw.use rfl hlink) (fun _ h9 => h9) hv hdg kk
theorem h_getI (S : CallFix p m c cc nL s args Ts own) {C : String} {T : u_T} {N ci index : Nat} (hin : ∀ w ∈ u_ws C T N, w ∈ Ts) (hK : va_K D cl tys s) (hc : cl[ci]? = some (C, T, N)) (k : Nat) (hk : k < N) (hlink : Cond.fieldLink own index (T k).1 (T k).2.1 (T k).2.2.1 ∈ Ts) (hw : hW D dA cl b0 nx h H) {x : Int32} (hg : hgI h a ci k = some x) (hdg : decode cc pc = .ok (.getfield index, 3))
    (kk : W p l e R s m args below meth c H locs cells slots Q (F0 m (pc + 3) ls (.int x :: rest))) : W p l e R s m args below meth c H locs cells slots Q (F0 m pc ls (.ref a :: rest)) := by
  obtain ⟨fs, g1, g2⟩ := hgI_spec hg
  exact h_get S hin hK hc k hk hlink hw g1 g2 hdg kk
theorem h_getR (S : CallFix p m c cc nL s args Ts own) {C : String} {T : u_T} {N ci index : Nat} (hin : ∀ w ∈ u_ws C T N, w ∈ Ts) (hK : va_K D cl tys s) (hc : cl[ci]? = some (C, T, N)) (k : Nat) (hk : k < N) (hlink : Cond.fieldLink own index (T k).1 (T k).2.1 (T k).2.2.1 ∈ Ts) (hw : hW D dA cl b0 nx h H) {x : Option Nat} (hg : hgR h a ci k = some x) (hdg : decode cc pc = .ok (.getfield index, 3))
    (kk : W p l e R s m args below meth c H locs cells slots Q (F0 m (pc + 3) ls (va_rf x :: rest))) : W p l e R s m args below meth c H locs cells slots Q (F0 m pc ls (.ref a :: rest)) := by
  obtain ⟨fs, g1, g2⟩ := hgR_spec hg
  exact h_get S hin hK hc k hk hlink hw g1 g2 hdg kk
theorem h_getNI (S : CallFix p m c cc nL s args Ts own) {C host : String} {T : u_T} {N ci index : Nat} (hin : ∀ w ∈ u_ws C T N, w ∈ Ts) (hK : va_K D cl tys s) (hc : cl[ci]? = some (C, T, N)) (k : Nat) (hk : k < N) (hlink : va_Nw (.fieldLinkNest own index (T k).1 (T k).2.1 (T k).2.2.1 host) s) (hw : hW D dA cl b0 nx h H) {x : Int32} (hg : hgI h a ci k = some x) (hdg : decode cc pc = .ok (.getfield index, 3))
    (kk : W p l e R s m args below meth c H locs cells slots Q (F0 m (pc + 3) ls (.int x :: rest))) : W p l e R s m args below meth c H locs cells slots Q (F0 m pc ls (.ref a :: rest)) := by
  obtain ⟨fs, g1, g2⟩ := hgI_spec hg
  exact h_getN S hin hK hc k hk hlink hw g1 g2 hdg kk
theorem h_getNR (S : CallFix p m c cc nL s args Ts own) {C host : String} {T : u_T} {N ci index : Nat} (hin : ∀ w ∈ u_ws C T N, w ∈ Ts) (hK : va_K D cl tys s) (hc : cl[ci]? = some (C, T, N)) (k : Nat) (hk : k < N) (hlink : va_Nw (.fieldLinkNest own index (T k).1 (T k).2.1 (T k).2.2.1 host) s) (hw : hW D dA cl b0 nx h H) {x : Option Nat} (hg : hgR h a ci k = some x) (hdg : decode cc pc = .ok (.getfield index, 3))
    (kk : W p l e R s m args below meth c H locs cells slots Q (F0 m (pc + 3) ls (va_rf x :: rest))) : W p l e R s m args below meth c H locs cells slots Q (F0 m pc ls (.ref a :: rest)) := by
  obtain ⟨fs, g1, g2⟩ := hgR_spec hg
  exact h_getN S hin hK hc k hk hlink hw g1 g2 hdg kk
theorem h_put (S : CallFix p m c cc nL s args Ts own) {C : String} {T : u_T} {N ci index : Nat} (hin : ∀ w ∈ u_ws C T N, w ∈ Ts) (ty0 : Nat → FieldType) (hty : ∀ k, k < N → parseFieldDescriptor (T k).2.2.1 = some (ty0 k)) (hnm : ∀ a, a < N → ∀ b, b < N → a ≠ b → (T a).2.1 ≠ (T b).2.1) (hK : va_K D cl tys s) (hc : cl[ci]? = some (C, T, N)) (k : Nat) (hk : k < N) (hlink : Cond.fieldLink own index (T k).1 (T k).2.1 (T k).2.2.1 ∈ Ts) (hfin : (T k).2.2.2 = false) {v : Value} (hn : narrow (ty0 k) v = v) (hfit : fits (ty0 k) v = true) (hw : hW D dA cl b0 nx h H) (hS0 : va_S (hA b0) H0 H locs) (ep : hpV h a ci k v = some h1) (hdg : decode cc pc = .ok (.putfield index, 3))
    (kk : ∀ (H1 : Heap) (locs1 : List Loc), hW D dA cl b0 nx h1 H1 → va_S (hA b0) H0 H1 locs1 → W p l e R s m args below meth c H1 locs1 cells slots Q (F0 m (pc + 3) ls rest)) : W p l e R s m args below meth c H locs cells slots Q (F0 m pc ls (v :: .ref a :: rest)) := by
  obtain ⟨fs, he, hl, rfl⟩ := hpV_spec ep
  have hts := S.2.2.2.2
  have hap := va_apart (own := own) hts hin ty0 hty hnm hK hc
  obtain ⟨hb0, r, g1, cell, q1, q2, q3, q4⟩ := hw.2.2 a _ he
  have hr : r = (C, T, N) := Option.some.inj (g1.symm.trans hc)
  subst hr
  obtain ⟨hS, hfc, kC, hkC, hkind⟩ := hK.1 ci _ hc
  obtain ⟨cf, kf, fi, f, hi, hsl⟩ := hS k hk
  have hlay := hts _ (hin _ (u_in_lay hk))
  unfold u_lay at hlay
  rw [if_neg (by rw [hfin]; decide)] at hlay
  have hst := (u_facts hfc hkC (u_lays hts hin hk) hi).1
  have h6 := u_store hfc hkC hkind hlay hi (hty k hk) hn hfit
  refine W.putK S.1 S.2.1 (f := f) ⟨S.2.2.2.1, hts _ hlink, ⟨_, _, _, hi⟩, hst⟩ (by rw [q2]; exact h6) q1 q3 (by rw [hsl]; exact k2_hasslot (q4 k hk)) rfl rfl hdg fun H' e1 e2 e3 => ?_
  rw [hsl] at e1 ⊢
  exact kk H' _ (hw.put he e2 e3 ⟨_, hc, t_OB.to (V := updV (vp_V fs) k v) ⟨_, e1, q2, q3, t_set q4 hap hk v⟩ (fun j _ => vp_updV_set hl v j)⟩) (hS_put hS0 e2 e3 hb0)
theorem h_putN (S : CallFix p m c cc nL s args Ts own) {C host : String} {T : u_T} {N ci index : Nat} (hin : ∀ w ∈ u_ws C T N, w ∈ Ts) (ty0 : Nat → FieldType) (hty : ∀ k, k < N → parseFieldDescriptor (T k).2.2.1 = some (ty0 k)) (hnm : ∀ a, a < N → ∀ b, b < N → a ≠ b → (T a).2.1 ≠ (T b).2.1) (hK : va_K D cl tys s) (hc : cl[ci]? = some (C, T, N)) (k : Nat) (hk : k < N) (hlink : va_Nw (.fieldLinkNest own index (T k).1 (T k).2.1 (T k).2.2.1 host) s) (hfin : (T k).2.2.2 = false) {v : Value} (hn : narrow (ty0 k) v = v) (hfit : fits (ty0 k) v = true) (hw : hW D dA cl b0 nx h H) (hS0 : va_S (hA b0) H0 H locs) (ep : hpV h a ci k v = some h1) (hdg : decode cc pc = .ok (.putfield index, 3))
    (kk : ∀ (H1 : Heap) (locs1 : List Loc), hW D dA cl b0 nx h1 H1 → va_S (hA b0) H0 H1 locs1 → W p l e R s m args below meth c H1 locs1 cells slots Q (F0 m (pc + 3) ls rest)) : W p l e R s m args below meth c H locs cells slots Q (F0 m pc ls (v :: .ref a :: rest)) := by
  obtain ⟨fs, he, hl, rfl⟩ := hpV_spec ep
  have hts := S.2.2.2.2
  have hap := va_apart (own := own) hts hin ty0 hty hnm hK hc
  obtain ⟨hb0, r, g1, cell, q1, q2, q3, q4⟩ := hw.2.2 a _ he
  have hr : r = (C, T, N) := Option.some.inj (g1.symm.trans hc)
  subst hr
  obtain ⟨hS, hfc, kC, hkC, hkind⟩ := hK.1 ci _ hc
  obtain ⟨cf, kf, fi, f, hi, hsl⟩ := hS k hk
  have hlay := hts _ (hin _ (u_in_lay hk))
  unfold u_lay at hlay
  rw [if_neg (by rw [hfin]; decide)] at hlay
  have hst := (u_facts hfc hkC (u_lays hts hin hk) hi).1
  have h6 := u_store hfc hkC hkind hlay hi (hty k hk) hn hfit
  refine va_WputK S.1 S.2.1 (f := f) S.2.2.2.1 (va_Nw.use rfl hlink) hi hst (by rw [q2]; exact h6) q1 q3 (by rw [hsl]; exact k2_hasslot (q4 k hk)) rfl rfl hdg fun H' e1 e2 e3 => ?_
  rw [hsl] at e1 ⊢
  exact kk H' _ (hw.put he e2 e3 ⟨_, hc, t_OB.to (V := updV (vp_V fs) k v) ⟨_, e1, q2, q3, t_set q4 hap hk v⟩ (fun j _ => vp_updV_set hl v j)⟩) (hS_put hS0 e2 e3 hb0)
theorem h_putF (S : CallFix p m c cc nL s args Ts own) {C : String} {T : u_T} {N ci index : Nat} (hin : ∀ w ∈ u_ws C T N, w ∈ Ts) (ty0 : Nat → FieldType) (hty : ∀ k, k < N → parseFieldDescriptor (T k).2.2.1 = some (ty0 k)) (hnm : ∀ a, a < N → ∀ b, b < N → a ≠ b → (T a).2.1 ≠ (T b).2.1) (hK : va_K D cl tys s) (hc : cl[ci]? = some (C, T, N)) (k : Nat) (hk : k < N) (hlink : Cond.fieldLink own index (T k).1 (T k).2.1 (T k).2.2.1 ∈ Ts) (hfin : (T k).2.2.2 = true) (hin2 : meth.name = "<init>") (hdecl : (T k).1 = own) {v : Value} (hn : narrow (ty0 k) v = v) (hfit : fits (ty0 k) v = true) (hw : hW D dA cl b0 nx h H) (hS0 : va_S (hA b0) H0 H locs) (ep : hpV h a ci k v = some h1) (hdg : decode cc pc = .ok (.putfield index, 3))
    (kk : ∀ (H1 : Heap) (locs1 : List Loc), hW D dA cl b0 nx h1 H1 → va_S (hA b0) H0 H1 locs1 → W p l e R s m args below meth c H1 locs1 cells slots Q (F0 m (pc + 3) ls rest)) : W p l e R s m args below meth c H locs cells slots Q (F0 m pc ls (v :: .ref a :: rest)) := by
  obtain ⟨fs, he, hl, rfl⟩ := hpV_spec ep
  have hts := S.2.2.2.2
  have hap := va_apart (own := own) hts hin ty0 hty hnm hK hc
  obtain ⟨hb0, r, g1, cell, q1, q2, q3, q4⟩ := hw.2.2 a _ he
  have hr : r = (C, T, N) := Option.some.inj (g1.symm.trans hc)
  subst hr
  obtain ⟨hS, hfc, kC, hkC, hkind⟩ := hK.1 ci _ hc
  obtain ⟨cf, kf, fi, f, hi, hsl⟩ := hS k hk
  have hlay := hts _ (hin _ (u_in_lay hk))
  unfold u_lay at hlay
  rw [if_pos hfin] at hlay
  have hst := (u_facts hfc hkC (u_lays hts hin hk) hi).1
  have hcf : m.cls = cf := by
    obtain ⟨_, _, c', _, _, _, -, -, hf', -, -, -, hown2, -⟩ := Cond.laysFinal_spec hlay
    have e1 : c' = cf := by have := hi.symm.trans hf'; simp at this; exact this.1.symm
    rw [hdecl] at hown2
    rw [← e1]; exact Option.some.inj (S.2.2.2.1.symm.trans hown2)
  have h6 := u_fits hfc hkC hkind (Or.inr hlay) hi (hty k hk) hn hfit
  refine W.putFinK S.1 S.2.1 S.2.2.2.1 (hts _ hlink) hi hst hcf hin2 (by rw [q2]; exact h6) q1 q3 (by rw [hsl]; exact k2_hasslot (q4 k hk)) rfl rfl hdg fun H' e1 e2 e3 => ?_
  rw [hsl] at e1 ⊢
  exact kk H' _ (hw.put he e2 e3 ⟨_, hc, t_OB.to (V := updV (vp_V fs) k v) ⟨_, e1, q2, q3, t_set q4 hap hk v⟩ (fun j _ => vp_updV_set hl v j)⟩) (hS_put hS0 e2 e3 hb0)
theorem h_iald (S : CallFix p m c cc nL s args Ts own) (hK : va_K D cl tys s) {kd : Nat} (ht : tys[kd]? = some (dA kd, .int)) (hw : hW D dA cl b0 nx h H) {i x : Int32} (hg : haI h a kd i = some x) (hdg : decode cc pc = .ok (.iaload, 1))
    (kk : W p l e R s m args below meth c H locs cells slots Q (F0 m (pc + 1) ls (.int x :: rest))) : W p l e R s m args below meth c H locs cells slots Q (F0 m pc ls (.int i :: .ref a :: rest)) := by
  obtain ⟨n, f, g1, g2, rfl⟩ := haI_spec hg
  exact va_iald S.1 S.2.1 hK (hw.P1 g1) 0 kd (by rfl) ht g2 hdg kk
theorem h_aald (S : CallFix p m c cc nL s args Ts own) (hK : va_K D cl tys s) {kd : Nat} {C : String} (ht : tys[kd]? = some (dA kd, .object C)) (hw : hW D dA cl b0 nx h H) {i : Int32} {x : Option Nat} (hg : haR h a kd i = some x) (hdg : decode cc pc = .ok (.aaload, 1))
    (kk : W p l e R s m args below meth c H locs cells slots Q (F0 m (pc + 1) ls (va_rf x :: rest))) : W p l e R s m args below meth c H locs cells slots Q (F0 m pc ls (.int i :: .ref a :: rest)) := by
  obtain ⟨n, f, g1, g2, rfl⟩ := haR_spec hg
  exact va_aldq S.1 S.2.1 hK (hw.P1 g1) 0 kd (by rfl) ht g2 hdg kk
theorem h_alen (S : CallFix p m c cc nL s args Ts own) (hK : va_K D cl tys s) {kd : Nat} {ty : FieldType} (ht : tys[kd]? = some (dA kd, ty)) (hw : hW D dA cl b0 nx h H) {x : Int32} (hg : haL h a kd = some x) (hdg : decode cc pc = .ok (.arraylength, 1))
    (kk : W p l e R s m args below meth c H locs cells slots Q (F0 m (pc + 1) ls (.int x :: rest))) : W p l e R s m args below meth c H locs cells slots Q (F0 m pc ls (.ref a :: rest)) := by
  obtain ⟨q, g1, g2⟩ := haL_spec hg
  exact va_alen S.1 S.2.1 hK (hw.P1 g1) 0 kd (by rfl) ht g2 hdg kk
theorem h_iast (S : CallFix p m c cc nL s args Ts own) (hK : va_K D cl tys s) {kd : Nat} (ht : tys[kd]? = some (dA kd, .int)) (hw : hW D dA cl b0 nx h H) (hS : va_S (hA b0) H0 H locs) {i x : Int32} (hg : hsI h a kd i x = some h1) (hdg : decode cc pc = .ok (.iastore, 1))
    (kk : ∀ (H1 : Heap) (locs1 : List Loc), hW D dA cl b0 nx h1 H1 → va_S (hA b0) H0 H1 locs1 → W p l e R s m args below meth c H1 locs1 cells slots Q (F0 m (pc + 1) ls rest)) : W p l e R s m args below meth c H locs cells slots Q (F0 m pc ls (.int x :: .int i :: .ref a :: rest)) := by
  obtain ⟨n, f, g1, hin, rfl⟩ := hsI_spec hg
  have hat := hw.2.2 a _ g1
  refine W.iast S.1 S.2.1 hat.2 ((hK.2 kd _ ht).1 n (fun j => .int (f j))) (fun q => by cases q) (by show ¬ (i < 0 ∨ (arrV _ _ _).slots.size ≤ _); rw [arrV_size]; exact hin) rfl rfl hdg fun H1 e z oq => ?_
  refine kk H1 _ (hw.put g1 z oq ?_) (hS_put hS z oq hat.1)
  show H1[a]? = some (vp_cell _ _)
  rw [e]
  show some ((vp_cell (dA kd) (n, .inl f)).setSlot _ _) = _
  rw [vp_cell_i, vp_cell_i, arrV_store]
  congr 2
  funext q
  by_cases hq : q = i.toNatClampNeg
  · subst hq
    simp [updV, upd]
  · simp [updV, upd, hq]
theorem h_aast (S : CallFix p m c cc nL s args Ts own) (hK : va_K D cl tys s) {kd ci : Nat} {r : vw_C} (ht : tys[kd]? = some (dA kd, .object r.1)) (hc : cl[ci]? = some r) (hw : hW D dA cl b0 nx h H) (hS : va_S (hA b0) H0 H locs) {i : Int32} {v : Nat} {vs : List Value} (hv : h v = some (.inr (ci, vs))) (hg : hsR h a kd i (some v) = some h1) (hdg : decode cc pc = .ok (.aastore, 1))
    (kk : ∀ (H1 : Heap) (locs1 : List Loc), hW D dA cl b0 nx h1 H1 → va_S (hA b0) H0 H1 locs1 → W p l e R s m args below meth c H1 locs1 cells slots Q (F0 m (pc + 1) ls rest)) : W p l e R s m args below meth c H locs cells slots Q (F0 m pc ls (.ref v :: .int i :: .ref a :: rest)) := by
  obtain ⟨n, f, g1, hin, rfl⟩ := hsR_spec hg
  have hat := hw.2.2 a _ g1
  have hlt : i.toNatClampNeg < n := Nat.not_le.mp fun q => hin (Or.inr q)
  have h0 : ¬ i < 0 := fun q => hin (Or.inl q)
  obtain ⟨-, r', hr', cellV, q1, q2, q3, -⟩ := hw.2.2 v _ hv
  have hcls := (hK.1 ci r hc).2
  obtain ⟨kA, comp, k1, k2, k3, -⟩ := (hK.2 kd _ ht).2
  have hcomp : comp = D.1 ci := Option.some.inj (k3.symm.trans hcls.1)
  subst hcomp
  obtain ⟨kC, hkC, -⟩ := hcls.2
  refine W.aast S.1 S.2.1 hat.2 (fun q h => by cases h) (fun h => by cases h) k1 k2 rfl hkC ⟨h0, by show _ < (arrV _ _ _).slots.size; rw [arrV_size]; exact hlt⟩ q1 (fun q h => by rw [q3] at h; cases h) (by rw [q2]; exact hkC) (by rw [q2]; exact va_assign hcls) rfl rfl hdg fun H1 e z oq => ?_
  refine kk H1 _ (hw.put g1 z oq ?_) (hS_put hS z oq hat.1)
  show H1[a]? = some (vp_cell _ _)
  rw [e]
  show some ((vp_cell (dA kd) (n, .inr (.inr (.inr (.inr f))))).setSlot _ _) = _
  rw [vp_cell_q, vp_cell_q, arrV_store]
  congr 2
  funext q
  by_cases hq : q = i.toNatClampNeg
  · subst hq
    simp [updV, va_up, va_rf]
  · simp [updV, va_up, hq]
theorem h_new (S : CallFix p m c cc nL s args Ts own) {C : String} {T : u_T} {N ci index : Nat} (hin : ∀ w ∈ u_ws C T N, w ∈ Ts) (ty : Nat → FieldType) (hty : ∀ k, k < N → parseFieldDescriptor (T k).2.2.1 = some (ty k)) (hcl : Cond.classLink own index C ∈ Ts) (hinst : Cond.instantiable C N ∈ Ts) (hini : Cond.initialized C ∈ Ts) (hK : va_K D cl tys s) (hc : cl[ci]? = some (C, T, N)) {fs : List Value} (hfs : ∀ j, j < N → defaultValue (ty j) = vp_V fs j) (hw : hW D dA cl b0 nx h H) (hS : va_S (hA b0) H0 H locs) (hcells : cells + 1 ≤ R.cells) (hslots : slots + N ≤ R.slots) (hdg : decode cc pc = .ok (.new index, 3))
    (kk : ∀ (H1 : Heap), hW D dA cl b0 (nx + 1) (va_up h nx (some (.inr (ci, fs)))) H1 → va_S (hA b0) H0 H1 locs → W p l e R s m args below meth c H1 locs (cells + 1) (slots + N) Q (F0 m (pc + 3) ls (.ref nx :: rest))) : W p l e R s m args below meth c H locs cells slots Q (F0 m pc ls rest) := by
  have hKn := hK.1 ci _ hc
  refine W.newcK S.1 S.2.1 S.2.2.2.1 (S.2.2.2.2 _ hcl) (S.2.2.2.2 _ hinst) (S.2.2.2.2 _ hini) rfl hdg hcells hslots hKn.2.1 hw.1 fun H1 kC hkC e1 z1 o1 => ?_
  have z2 : H1.size = H.size + 1 := by rw [z1, hw.1]
  have o2 : ∀ q : Nat, q < H.size → H1[q]? = H[q]? := fun q hq => o1 q (by rw [← hw.1]; exact hq)
  refine kk H1 (hw.push z2 o2 ?_) (hS_push hS z2 o2)
  rw [hw.1]
  exact ⟨_, hc, (u_born ty S.2.2.2.2 hin hKn hkC e1 hty).to hfs⟩
theorem h_newi (S : CallFix p m c cc nL s args Ts own) (harr : Cond.arrayClass .int ∈ Ts) (hK : va_K D cl tys s) {kd : Nat} (ht : tys[kd]? = some (dA kd, .int)) (hw : hW D dA cl b0 nx h H) (hS : va_S (hA b0) H0 H locs) {n : Int32} (hn : ¬ n < 0) (hbytes : n.toNatClampNeg * 4 ≤ 536870912) (hcells : cells + 1 ≤ R.cells) (hslots : slots + n.toNatClampNeg ≤ R.slots) (hdg : decode cc pc = .ok (.newarray .int, 2))
    (kk : ∀ (H1 : Heap), hW D dA cl b0 (nx + 1) (va_up h nx (some (.inl (kd, n.toNatClampNeg, .inl (fun _ => 0))))) H1 → va_S (hA b0) H0 H1 locs → W p l e R s m args below meth c H1 locs (cells + 1) (slots + n.toNatClampNeg) Q (F0 m (pc + 2) ls (.ref nx :: rest))) : W p l e R s m args below meth c H locs cells slots Q (F0 m pc ls (.int n :: rest)) := by
  refine va_newaK S.1 S.2.1 (atype := .int) (S.2.2.2.2 _ harr) rfl hdg rfl hn rfl hbytes hcells hslots hw.1 fun H1 cA e1 z1 o1 hAr hNm => ?_
  have z2 : H1.size = H.size + 1 := by rw [z1, hw.1]
  have o2 : ∀ q : Nat, q < H.size → H1[q]? = H[q]? := fun q hq => o1 q (by rw [← hw.1]; exact hq)
  have hcA : cA = dA kd := Option.some.inj (hNm.symm.trans ((hK.2 kd _ ht).2))
  subst hcA
  refine kk H1 (hw.push z2 o2 ?_) (hS_push hS z2 o2)
  rw [hw.1]
  exact e1
end HROWS
section HROWS2
variable {p : Program} {l : Launch} {e : Env} {R : Room} {s : State} {m : MethodId} {args : Array Value} {below : List Frame} {meth : Method} {c : Code} {H : Heap} {locs : List Loc} {cells slots : Nat} {Q : State → Prop}
variable {cc : ByteArray} {nL pc : Nat} {ls : Array Slot} {rest : List Value} {D : va_G} {dA : Nat → ClassId} {cl : List vw_C} {a : Nat} {tys : List (ClassId × FieldType)} {H0 : Heap} {b0 nx : Nat} {h h1 : hH} {Ts : List Cond} {own : String}
theorem h_aaldA (S : CallFix p m c cc nL s args Ts own) (hK : va_K D cl tys s) {kd : Nat} {t : FieldType} (ht : tys[kd]? = some (dA kd, .array t)) (hw : hW D dA cl b0 nx h H) {i : Int32} {x : Option Nat} (hg : haR h a kd i = some x) (hdg : decode cc pc = .ok (.aaload, 1))
    (kk : W p l e R s m args below meth c H locs cells slots Q (F0 m (pc + 1) ls (va_rf x :: rest))) : W p l e R s m args below meth c H locs cells slots Q (F0 m pc ls (.int i :: .ref a :: rest)) := by
  obtain ⟨n, f, g1, hin, rfl⟩ := haR_spec hg
  have hlt : i.toNatClampNeg < n := Nat.not_le.mp fun q => hin (Or.inr q)
  exact W.aald (v := va_rf (f i.toNatClampNeg)) (ty := .array t) S.1 S.2.1 (hw.2.2 a _ g1).2 ((hK.2 kd _ ht).1 n (fun j => va_rf (f j))) rfl (fun q => by cases q) (by show ¬ (i < 0 ∨ (arrV _ _ _).slots.size ≤ _); rw [arrV_size]; exact hin) (by show (arrV _ _ _).slots[_]? = _; rw [arrV_read _ _ hlt]) rfl rfl hdg kk
theorem h_newq (S : CallFix p m c cc nL s args Ts own) {C : String} {index : Nat} (hclink : Cond.classLink own index C ∈ Ts) (hover : va_AO C s) (hK : va_K D cl tys s) {kd : Nat} (ht : tys[kd]? = some (dA kd, .object C)) (hw : hW D dA cl b0 nx h H) (hS : va_S (hA b0) H0 H locs) {n : Int32} (hn : ¬ n < 0) (hbytes : n.toNatClampNeg * 4 ≤ 536870912) (hcells : cells + 1 ≤ R.cells) (hslots : slots + n.toNatClampNeg ≤ R.slots) (hdg : decode cc pc = .ok (.anewarray index, 3))
    (kk : ∀ (H1 : Heap), hW D dA cl b0 (nx + 1) (va_up h nx (some (.inl (kd, n.toNatClampNeg, .inr (.inr (.inr (.inr (fun _ => none)))))))) H1 → va_S (hA b0) H0 H1 locs → W p l e R s m args below meth c H1 locs (cells + 1) (slots + n.toNatClampNeg) Q (F0 m (pc + 3) ls (.ref nx :: rest))) : W p l e R s m args below meth c H locs cells slots Q (F0 m pc ls (.int n :: rest)) := by
  refine W.anew S.1 S.2.1 S.2.2.2.1 (S.2.2.2.2 _ hclink) (va_AO.use hover) rfl hdg rfl hn hbytes hcells hslots fun cA kA comp f1 f2 f3 f4 => ?_
  generalize hH1 : H.push ({ cls := cA, slots := Array.replicate n.toNatClampNeg .null, vm := .none } : Cell) = H1
  have z1 : H1.size = H.size + 1 := by rw [← hH1, Array.size_push]
  have e1 : H1[H.size]? = some (arrV cA n.toNatClampNeg (fun _ => .null)) := by rw [← hH1, Array.getElem?_push_size, ← arrV_new]
  have o1 : ∀ q : Nat, q < H.size → H1[q]? = H[q]? := fun q hq => by rw [← hH1, Array.getElem?_push, if_neg (Nat.ne_of_lt hq)]
  obtain ⟨kA2, comp2, -, -, -, f5⟩ := (hK.2 kd _ ht).2
  have hcA : cA = dA kd := Option.some.inj (f1.symm.trans f5)
  subst hcA
  rw [hw.1]
  exact kk H1 (hw.push z1 o1 e1) (hS_push hS z1 o1)
theorem h_copyi (S : CallFix p m c cc nL s args Ts own) (hsz : ls.size = nL) {index : Nat} (hlink : Cond.methodLink own index arraycopyName ∈ Ts) (hnat : Cond.native arraycopyName ∈ Ts) (hstat : Cond.static arraycopyName ∈ Ts) (hini : Cond.initialized "java/lang/System" ∈ Ts) (hK : va_K D cl tys s) {kd : Nat} (ht : tys[kd]? = some (dA kd, .int)) (hw : hW D dA cl b0 nx h H) (hS : va_S (hA b0) H0 H locs) {a0 : Nat} {sp dp n : Int32} (hg : hcpI h a0 sp a dp n kd = some h1)
    (hframes : 1 ≤ R.frames) (hlocals : (rest.map fun v => v.category).sum + (nativeFrameWords "java/lang/System" "arraycopy" 5 + 11) ≤ R.locals) (hdg : decode cc pc = .ok (.invokestatic index, 3))
    (kk : ∀ (H1 : Heap) (locs1 : List Loc), hW D dA cl b0 nx h1 H1 → va_S (hA b0) H0 H1 locs1 → W p l e R s m args below meth c H1 locs1 cells slots Q (F0 m (pc + 3) ls rest)) : W p l e R s m args below meth c H locs cells slots Q (F0 m pc ls (.int n :: .int dp :: .ref a :: .int sp :: .ref a0 :: rest)) := by
  obtain ⟨n0, f, n1, g, ha0, ha1, h1', h2, h3, h4, h5, rfl⟩ := hcpI_spec hg
  have nn : ∀ z : Int32, ¬ z < 0 → z.toInt = (z.toNatClampNeg : Int) := by
    intro z hz
    have hz0 : (0 : Int) ≤ z.toInt := by
      have := Int32.not_lt.mp hz
      simpa using Int32.le_iff_toInt_le.mp this
    show z.toInt = ((z.toInt.toNat : Nat) : Int)
    omega
  intro T hT X
  have hc0 : H[a0]? = some (vp_cell (dA kd) (n0, .inl f)) := (hw.2.2 a0 _ ha0).2
  have hc1 : H[a]? = some (vp_cell (dA kd) (n1, .inl g)) := (hw.2.2 a _ ha1).2
  obtain ⟨-, k0, hk0, cm0, hkk0⟩ := (hK.2 kd _ ht).1 n0 (fun j => .int (f j))
  obtain ⟨-, k1, hk1, cm1, hkk1⟩ := (hK.2 kd _ ht).1 n1 (fun j => .int (g j))
  obtain ⟨vm', X', step⟩ := X.arraycopy S.1 S.2.2.2.1 (S.2.2.2.2 _ hlink) (S.2.2.2.2 _ hnat) (S.2.2.2.2 _ hstat) (S.2.2.2.2 _ hini) (src := a0) (dst := a) (cs := vp_cell (dA kd) (n0, .inl f)) (cd := vp_cell (dA kd) (n1, .inl g)) (srcPos := sp) (destPos := dp) (n := n) (by rw [hT]; exact hc0) (by rw [hT]; exact hc1)
    (fun _ h => by cases h) (fun _ h => by cases h) (fun h => by cases h) (fun h => by cases h) hk0 hk1 hkk0 hkk1 (by simp [refKind]) h1' h2 h3
    (by rw [nn sp h1', nn n h3]; show ¬ _ > ((arrV (dA kd) n0 (fun j => .int (f j))).slots.size : Int); rw [arrV_size]; omega)
    (by rw [nn dp h2, nn n h3]; show ¬ _ > ((arrV (dA kd) n1 (fun j => .int (g j))).slots.size : Int); rw [arrV_size]; omega)
    (fun vm₁ _ i hi => by
      have e : (vp_cell (dA kd) (n0, .inl f)).slots.getD (sp.toNatClampNeg + i) .null = .int (f (sp.toNatClampNeg + i)) := by
        show (arrV (dA kd) n0 (fun j => .int (f j))).slots.getD _ _ = _
        rw [Array.getD_eq_getD_getElem?, arrV_read _ _ (by omega)]
        rfl
      refine ⟨?_, ?_⟩
      · rw [e]
        rfl
      · rw [e]
        exact trivial)
    (g := F0 m pc ls (.int n :: .int dp :: .ref a :: .int sp :: .ref a0 :: rest)) rfl (by rw [S.2.2.1, ← hsz]) (rest := rest) rfl (by rw [S.2.1]; exact hdg) hframes (by show 2 * 0 + _ + _ ≤ _; omega)
  have e1 : copied (vp_cell (dA kd) (n0, .inl f)) (vp_cell (dA kd) (n1, .inl g)) sp dp n = vp_cell (dA kd) (n1, .inl (va_cpy f g sp.toNatClampNeg dp.toNatClampNeg n.toNatClampNeg)) := va_copied (fun z => .int z) (dA kd) (dA kd) f g h4
  rw [e1] at X' step
  have hl : a < H.size := (Array.getElem?_eq_some_iff.mp hc1).1
  have hheap : ((T.setVm vm').setCell a (vp_cell (dA kd) (n1, .inl (va_cpy f g sp.toNatClampNeg dp.toNatClampNeg n.toNatClampNeg)))).heap = H.setIfInBounds a (vp_cell (dA kd) (n1, .inl (va_cpy f g sp.toNatClampNeg dp.toNatClampNeg n.toNatClampNeg))) := by rw [← hT]; rfl
  have oq : ∀ q : Nat, q ≠ a → (H.setIfInBounds a (vp_cell (dA kd) (n1, .inl (va_cpy f g sp.toNatClampNeg dp.toNatClampNeg n.toNatClampNeg))))[q]? = H[q]? := fun q hq => by simp [Array.getElem?_setIfInBounds, Ne.symm hq]
  have hb0 := (hw.2.2 a _ ha1).1
  obtain ⟨t, a1, b1⟩ := kk _ _ (hw.put ha1 (by simp) oq (show (H.setIfInBounds a _)[a]? = some _ by simp [Array.getElem?_setIfInBounds, hl, hE])) ⟨by simp; exact hS.1, fun q g1 g2 => by
      rw [oq q (fun e => g2 (by rw [e]; exact hb0))]
      exact hS.2.1 q g1 g2, fun q hq => by
      rcases List.mem_append.mp hq with h | h
      · exact hS.2.2 q h
      · obtain ⟨z, -, hz⟩ := List.mem_map.mp h
        rw [← hz]
        exact hb0⟩ _ hheap X'
  exact ⟨t, step t a1, b1⟩
theorem h_bytes {x : Int32} (h : ¬ (x < 0 ∨ 134217728 < x.toNatClampNeg)) : x.toNatClampNeg * 4 ≤ 536870912 := by
  have := Nat.not_lt.mp (fun q => h (Or.inr q))
  omega
theorem h_narR (ty : String) (r : Option Nat) : narrow (.object ty) (va_rf r) = va_rf r := by cases r <;> rfl
theorem h_fitR (ty : String) (r : Option Nat) : fits (.object ty) (va_rf r) = true := by cases r <;> rfl
end HROWS2
