set_option maxHeartbeats 4000000 in
set_option maxRecDepth 100000 in
theorem c_MacroExpandLaw_cell (l : Launch) (D : va_G) (dA : Nat → ClassId) (b0 : Nat) (a0 : Nat) (L : Nat) (xs : Nat → Int32) (i1 : Int32) (nx : Nat) {h : hH} {r : Int32} (hrun : f_MacroExpandLaw_cell L xs i1 h = some r) : Met l y_MacroExpandLaw_cell w_MacroExpandLaw_cell ({ frames := 0, cells := 0, slots := 0, locals := 0 } : Room) (va_Pc [.ref a0, .int i1] (hBX D dA b0 nx h a0 L xs)) (va_Qi (fun r' (_ : Unit) => r' = r) (fun (_ : Unit) t => hW D dA classes b0 nx h t.heap) (hA b0)) 0 0 (hA b0) := by
  refine Met.ofW (cc := b_MacroExpandLaw_cell) (maxL := 2) (ret := (some .int)) (by decide) rfl ?_
  intro p e s m args below meth c s₁ B hml hv
  obtain ⟨rfl, ⟨hw, hK, hN⟩, hX, hbl, hbA⟩ := hv
  have hx := B.exec
  have hb := B.bytes
  have hr := B.returns
  have hlocks := B.notSynchronized
  have S : CallFix p m c b_MacroExpandLaw_cell 2 s ([.ref a0, .int i1] : List Value).toArray w_MacroExpandLaw_cell R_MacroExpandLaw := ⟨hx, hb, hml, findClass_of_methodNamed B.named, atoms_spec (ws := w_MacroExpandLaw_cell) B.pre⟩
  have hT : ∀ w ∈ tbl, w ∈ w_MacroExpandLaw_cell := fun _ q => List.mem_cons_of_mem _ q
  have hS : va_S (hA b0) s.heap s.heap [] := va_S.rf
  have hl := lv_entry ([.ref a0, .int i1]) (n := 2) (Nat.le_of_ble_eq_true rfl)
  rw [lg_entry_eq]
  generalize (lg_sl ([.ref a0, .int i1]) ++ List.replicate (2 - (lg_sl ([.ref a0, .int i1])).length) Slot.unset).toArray = ls at hl ⊢
  have hl : lv_has ls 2 [(0, .ref a0), (1, .int i1)] := hl
  unfold f_MacroExpandLaw_cell at hrun
  refine lv_iload_n hx hb d_MacroExpandLaw_cell_0 rfl (lv_at hl 1 rfl) ?_
  refine lv_aload_n hx hb d_MacroExpandLaw_cell_1 rfl (lv_at hl 0 rfl) ?_
  refine h_slen S hX hbl hbA hS d_MacroExpandLaw_cell_2 ?_
  refine lv_icmp_ge (tgt := 12) hx hb d_MacroExpandLaw_cell_3 (by decide) (fun c3 => ?_) (fun c3 => ?_)
  · rw [if_pos c3] at hrun
    refine lv_iconst (v := (0 : Int32)) hx hb d_MacroExpandLaw_cell_12 (by decide) ?_
    cases hrun
    exact W.iret hx hb hr (fun t ht hW9 => ⟨⟨_, (), rfl, rfl, by show hW D dA classes b0 _ _ t.heap; rw [ht]; exact hw⟩, hS.F ht⟩) hS.2.2 d_MacroExpandLaw_cell_13
  · rw [if_neg c3] at hrun
    refine lv_aload_n hx hb d_MacroExpandLaw_cell_6 rfl (lv_at hl 0 rfl) ?_
    refine lv_iload_n hx hb d_MacroExpandLaw_cell_7 rfl (lv_at hl 1 rfl) ?_
    replace hrun := hb_some hrun
    obtain ⟨v8, g8, hrun⟩ := hrun
    refine h_sld S hX hbl hbA hS g8 d_MacroExpandLaw_cell_8 ?_
    refine lv_goto (tgt := 13) hx hb d_MacroExpandLaw_cell_9 (by decide) ?_
    cases hrun
    exact W.iret hx hb hr (fun t ht hW9 => ⟨⟨_, (), rfl, rfl, by show hW D dA classes b0 _ _ t.heap; rw [ht]; exact hw⟩, hS.F ht⟩) hS.2.2 d_MacroExpandLaw_cell_13
set_option maxHeartbeats 8000000 in
set_option maxRecDepth 100000 in
theorem whole_walk {p : Program} {e : Env} {s : State} {m : MethodId} {below : List Frame} {meth : Method} {c : Code} (l : Launch) {a0 L : Nat} {xs : Nat → Int32} (C0 : lw_At p s m meth c a0 L xs) (D : va_G) (dA : Nat → ClassId) (hK : va_K D classes (tys dA) s) (hN : hNs s) (n : Nat) {h' : hH} {r : Int32} {dnZ dsZ : Nat} (hrun : f_MacroExpandLaw_law n L xs s.heap.size (fun _ => none) = some (r, dnZ, dsZ, h')) (hr1 : r = 1) (hcZ : dnZ ≤ 600000) (hsZ : dsZ ≤ 7302250) : W p l e room_1 s m #[Value.ref a0] below meth c s.heap [] 0 0 (lw_Z below #[Value.ref a0] s) (entryFrame m ([Value.ref a0] : List Value).toArray 4) := by
  obtain ⟨hx, hb, hr, hml, hown, hts, hX, hbl, hlocks, hgv⟩ := id C0
  have S : CallFix p m c code 4 s #[Value.ref a0] w_law R_MacroExpandLaw := ⟨hx, hb, hml, hown, fun w q => (List.mem_cons.mp q).elim (fun z => z ▸ hts _ (tbl_in _ ac_int)) (fun z => hts w (tbl_in w z))⟩
  have hT : ∀ w ∈ tbl, w ∈ w_law := fun _ q => List.mem_cons_of_mem _ q
  obtain ⟨b0, eb0⟩ : ∃ z, z = s.heap.size := ⟨_, rfl⟩
  have hbA : ¬ hA b0 a0 := by show ¬ b0 ≤ a0; omega
  have hS : va_S (hA b0) s.heap s.heap [] := va_S.rf
  obtain ⟨nxZ, enx0⟩ : ∃ z, z = s.heap.size := ⟨_, rfl⟩
  rw [← enx0] at hrun
  obtain ⟨h, eh⟩ : ∃ z, z = (fun _ => none : hH) := ⟨_, rfl⟩
  rw [← eh] at hrun
  have hw : hW D dA classes b0 nxZ h s.heap := ⟨enx0.symm, by omega, fun a c9 h9 => by rw [eh] at h9; cases h9⟩
  clear eh
  have hl := lv_entry ([.ref a0]) (n := 4) (Nat.le_of_ble_eq_true rfl)
  rw [lg_entry_eq]
  generalize (lg_sl ([.ref a0]) ++ List.replicate (4 - (lg_sl ([.ref a0])).length) Slot.unset).toArray = ls at hl ⊢
  have hl : lv_has ls 4 [(0, .ref a0)] := hl
  obtain ⟨dn, edn⟩ : ∃ z, z = dnZ := ⟨_, rfl⟩
  obtain ⟨ds, eds⟩ : ∃ z, z = dsZ := ⟨_, rfl⟩
  obtain ⟨nx, enx⟩ : ∃ z, z = nxZ := ⟨_, rfl⟩
  rw [← edn, ← eds, ← enx] at hrun
  rw [← enx] at hw
  have hcR : 0 + dn = dnZ := by omega
  have hsR : 0 + ds = dsZ := by omega
  have hnR : nx + dn = nxZ + dnZ := by omega
  clear edn eds enx
  have l_30 : ∀ (x1 : Option Nat) (x2 : Option Nat) (n9 : Nat) (x9 : Int32) (cells slots dn ds nx : Nat) (h : hH) (b9 : (Unit) ⊕ (Unit) ⊕ (Unit) ⊕ (Unit) ⊕ (Unit) ⊕ (Unit) ⊕ (Unit) ⊕ (Unit) ⊕ (Unit) ⊕ (Unit) ⊕ (Unit) ⊕ (Unit) ⊕ (Unit)) (h9 : hH) (H : Heap) (locs : List Loc) (ls : Array Slot), hloopA (f_MacroExpandLaw_law_b30 n L xs x1 x2) n9 x9 nx h = some (b9, dn, ds, h9) → cells + dn ≤ dnZ → slots + ds ≤ dsZ → hW D dA classes b0 nx h H → va_S (hA b0) s.heap H locs → lv_has ls 4 (match x9 with | x3 => [(0, .ref a0), (1, va_rf x1), (2, va_rf x2), (3, .int x3)]) → (b9 = .inl () → ∀ (H : Heap) (locs : List Loc) (ls : Array Slot), hW D dA classes b0 (nx + dn) h9 H → va_S (hA b0) s.heap H locs → lv_has ls 4 [] → W p l e room_1 s m #[Value.ref a0] below meth c H locs (cells + dn) (slots + ds) (lw_Z below #[Value.ref a0] s) (F0 m 149 ls [])) → (b9 = .inr (.inl ()) → ∀ (H : Heap) (locs : List Loc) (ls : Array Slot), hW D dA classes b0 (nx + dn) h9 H → va_S (hA b0) s.heap H locs → lv_has ls 4 [] → W p l e room_1 s m #[Value.ref a0] below meth c H locs (cells + dn) (slots + ds) (lw_Z below #[Value.ref a0] s) (F0 m 182 ls [])) → (b9 = .inr (.inr (.inl ())) → ∀ (H : Heap) (locs : List Loc) (ls : Array Slot), hW D dA classes b0 (nx + dn) h9 H → va_S (hA b0) s.heap H locs → lv_has ls 4 [] → W p l e room_1 s m #[Value.ref a0] below meth c H locs (cells + dn) (slots + ds) (lw_Z below #[Value.ref a0] s) (F0 m 225 ls [])) → (b9 = .inr (.inr (.inr (.inl ()))) → ∀ (H : Heap) (locs : List Loc) (ls : Array Slot), hW D dA classes b0 (nx + dn) h9 H → va_S (hA b0) s.heap H locs → lv_has ls 4 [] → W p l e room_1 s m #[Value.ref a0] below meth c H locs (cells + dn) (slots + ds) (lw_Z below #[Value.ref a0] s) (F0 m 248 ls [])) → (b9 = .inr (.inr (.inr (.inr (.inl ())))) → ∀ (H : Heap) (locs : List Loc) (ls : Array Slot), hW D dA classes b0 (nx + dn) h9 H → va_S (hA b0) s.heap H locs → lv_has ls 4 [] → W p l e room_1 s m #[Value.ref a0] below meth c H locs (cells + dn) (slots + ds) (lw_Z below #[Value.ref a0] s) (F0 m 287 ls [])) → (b9 = .inr (.inr (.inr (.inr (.inr (.inl ()))))) → ∀ (H : Heap) (locs : List Loc) (ls : Array Slot), hW D dA classes b0 (nx + dn) h9 H → va_S (hA b0) s.heap H locs → lv_has ls 4 [] → W p l e room_1 s m #[Value.ref a0] below meth c H locs (cells + dn) (slots + ds) (lw_Z below #[Value.ref a0] s) (F0 m 310 ls [])) → (b9 = .inr (.inr (.inr (.inr (.inr (.inr (.inl ())))))) → ∀ (H : Heap) (locs : List Loc) (ls : Array Slot), hW D dA classes b0 (nx + dn) h9 H → va_S (hA b0) s.heap H locs → lv_has ls 4 [] → W p l e room_1 s m #[Value.ref a0] below meth c H locs (cells + dn) (slots + ds) (lw_Z below #[Value.ref a0] s) (F0 m 333 ls [])) → (b9 = .inr (.inr (.inr (.inr (.inr (.inr (.inr (.inl ()))))))) → ∀ (H : Heap) (locs : List Loc) (ls : Array Slot), hW D dA classes b0 (nx + dn) h9 H → va_S (hA b0) s.heap H locs → lv_has ls 4 [] → W p l e room_1 s m #[Value.ref a0] below meth c H locs (cells + dn) (slots + ds) (lw_Z below #[Value.ref a0] s) (F0 m 372 ls [])) → (b9 = .inr (.inr (.inr (.inr (.inr (.inr (.inr (.inr (.inl ())))))))) → ∀ (H : Heap) (locs : List Loc) (ls : Array Slot), hW D dA classes b0 (nx + dn) h9 H → va_S (hA b0) s.heap H locs → lv_has ls 4 [] → W p l e room_1 s m #[Value.ref a0] below meth c H locs (cells + dn) (slots + ds) (lw_Z below #[Value.ref a0] s) (F0 m 395 ls [])) → (b9 = .inr (.inr (.inr (.inr (.inr (.inr (.inr (.inr (.inr (.inl ()))))))))) → ∀ (H : Heap) (locs : List Loc) (ls : Array Slot), hW D dA classes b0 (nx + dn) h9 H → va_S (hA b0) s.heap H locs → lv_has ls 4 [] → W p l e room_1 s m #[Value.ref a0] below meth c H locs (cells + dn) (slots + ds) (lw_Z below #[Value.ref a0] s) (F0 m 428 ls [])) → (b9 = .inr (.inr (.inr (.inr (.inr (.inr (.inr (.inr (.inr (.inr (.inl ())))))))))) → ∀ (H : Heap) (locs : List Loc) (ls : Array Slot), hW D dA classes b0 (nx + dn) h9 H → va_S (hA b0) s.heap H locs → lv_has ls 4 [] → W p l e room_1 s m #[Value.ref a0] below meth c H locs (cells + dn) (slots + ds) (lw_Z below #[Value.ref a0] s) (F0 m 451 ls [])) → (b9 = .inr (.inr (.inr (.inr (.inr (.inr (.inr (.inr (.inr (.inr (.inr (.inl ()))))))))))) → ∀ (H : Heap) (locs : List Loc) (ls : Array Slot), hW D dA classes b0 (nx + dn) h9 H → va_S (hA b0) s.heap H locs → lv_has ls 4 [] → W p l e room_1 s m #[Value.ref a0] below meth c H locs (cells + dn) (slots + ds) (lw_Z below #[Value.ref a0] s) (F0 m 474 ls [])) → (b9 = .inr (.inr (.inr (.inr (.inr (.inr (.inr (.inr (.inr (.inr (.inr (.inr (())))))))))))) → ∀ (H : Heap) (locs : List Loc) (ls : Array Slot), hW D dA classes b0 (nx + dn) h9 H → va_S (hA b0) s.heap H locs → lv_has ls 4 [] → W p l e room_1 s m #[Value.ref a0] below meth c H locs (cells + dn) (slots + ds) (lw_Z below #[Value.ref a0] s) (F0 m 482 ls [])) → W p l e room_1 s m #[Value.ref a0] below meth c H locs cells slots (lw_Z below #[Value.ref a0] s) (F0 m 30 ls []) := by
    intro x1 x2 n9
    induction n9 with
    | zero =>
      intro x9 cells slots dn ds nx h b9 h9 H locs ls hrun
      cases hrun
    | succ n9 ih =>
      rintro x3 cells slots dn ds nx h b9 h9 H locs ls hrun hcB hsB hw hS hl k0 k1 k2 k3 k4 k5 k6 k7 k8 k9 k10 k11 k12
      have hl : lv_has ls 4 [(0, .ref a0), (1, va_rf x1), (2, va_rf x2), (3, .int x3)] := hl
      unfold hloopA at hrun
      obtain ⟨q9, dnb, dsb, h9b, dnr, dsr, hbody, hrun9, edn, eds⟩ := hbind_some hrun
      have K0 : (∀ (z3 : Int32), q9 = .inl z3 → ∀ (H : Heap) (locs : List Loc) (ls : Array Slot), hW D dA classes b0 (nx + dnb) h9b H → va_S (hA b0) s.heap H locs → lv_has ls 4 [(0, .ref a0), (1, va_rf x1), (2, va_rf x2), (3, .int z3)] → W p l e room_1 s m #[Value.ref a0] below meth c H locs (cells + dnb) (slots + dsb) (lw_Z below #[Value.ref a0] s) (F0 m 30 ls [])) := by
        intro z3 eq9 H locs ls hw hS hl
        subst eq9
        exact ih z3 (cells + dnb) (slots + dsb) dnr dsr (nx + dnb) h9b b9 h9 H locs ls hrun9 (by omega) (by omega) hw hS hl (by have q := k0; rw [show nx + dn = nx + dnb + dnr by omega, show cells + dn = cells + dnb + dnr by omega, show slots + ds = slots + dsb + dsr by omega] at q; exact q) (by have q := k1; rw [show nx + dn = nx + dnb + dnr by omega, show cells + dn = cells + dnb + dnr by omega, show slots + ds = slots + dsb + dsr by omega] at q; exact q) (by have q := k2; rw [show nx + dn = nx + dnb + dnr by omega, show cells + dn = cells + dnb + dnr by omega, show slots + ds = slots + dsb + dsr by omega] at q; exact q) (by have q := k3; rw [show nx + dn = nx + dnb + dnr by omega, show cells + dn = cells + dnb + dnr by omega, show slots + ds = slots + dsb + dsr by omega] at q; exact q) (by have q := k4; rw [show nx + dn = nx + dnb + dnr by omega, show cells + dn = cells + dnb + dnr by omega, show slots + ds = slots + dsb + dsr by omega] at q; exact q) (by have q := k5; rw [show nx + dn = nx + dnb + dnr by omega, show cells + dn = cells + dnb + dnr by omega, show slots + ds = slots + dsb + dsr by omega] at q; exact q) (by have q := k6; rw [show nx + dn = nx + dnb + dnr by omega, show cells + dn = cells + dnb + dnr by omega, show slots + ds = slots + dsb + dsr by omega] at q; exact q) (by have q := k7; rw [show nx + dn = nx + dnb + dnr by omega, show cells + dn = cells + dnb + dnr by omega, show slots + ds = slots + dsb + dsr by omega] at q; exact q) (by have q := k8; rw [show nx + dn = nx + dnb + dnr by omega, show cells + dn = cells + dnb + dnr by omega, show slots + ds = slots + dsb + dsr by omega] at q; exact q) (by have q := k9; rw [show nx + dn = nx + dnb + dnr by omega, show cells + dn = cells + dnb + dnr by omega, show slots + ds = slots + dsb + dsr by omega] at q; exact q) (by have q := k10; rw [show nx + dn = nx + dnb + dnr by omega, show cells + dn = cells + dnb + dnr by omega, show slots + ds = slots + dsb + dsr by omega] at q; exact q) (by have q := k11; rw [show nx + dn = nx + dnb + dnr by omega, show cells + dn = cells + dnb + dnr by omega, show slots + ds = slots + dsb + dsr by omega] at q; exact q) (by have q := k12; rw [show nx + dn = nx + dnb + dnr by omega, show cells + dn = cells + dnb + dnr by omega, show slots + ds = slots + dsb + dsr by omega] at q; exact q)
      have K1 : (q9 = .inr (.inl ()) → ∀ (H : Heap) (locs : List Loc) (ls : Array Slot), hW D dA classes b0 (nx + dnb) h9b H → va_S (hA b0) s.heap H locs → lv_has ls 4 [] → W p l e room_1 s m #[Value.ref a0] below meth c H locs (cells + dnb) (slots + dsb) (lw_Z below #[Value.ref a0] s) (F0 m 149 ls [])) := by
        intro  eq9 H locs ls hw hS hl
        subst eq9
        cases hrun9
        subst edn; subst eds
        exact k0  rfl H locs ls hw hS hl
      have K2 : (q9 = .inr (.inr (.inl ())) → ∀ (H : Heap) (locs : List Loc) (ls : Array Slot), hW D dA classes b0 (nx + dnb) h9b H → va_S (hA b0) s.heap H locs → lv_has ls 4 [] → W p l e room_1 s m #[Value.ref a0] below meth c H locs (cells + dnb) (slots + dsb) (lw_Z below #[Value.ref a0] s) (F0 m 182 ls [])) := by
        intro  eq9 H locs ls hw hS hl
        subst eq9
        cases hrun9
        subst edn; subst eds
        exact k1  rfl H locs ls hw hS hl
      have K3 : (q9 = .inr (.inr (.inr (.inl ()))) → ∀ (H : Heap) (locs : List Loc) (ls : Array Slot), hW D dA classes b0 (nx + dnb) h9b H → va_S (hA b0) s.heap H locs → lv_has ls 4 [] → W p l e room_1 s m #[Value.ref a0] below meth c H locs (cells + dnb) (slots + dsb) (lw_Z below #[Value.ref a0] s) (F0 m 225 ls [])) := by
        intro  eq9 H locs ls hw hS hl
        subst eq9
        cases hrun9
        subst edn; subst eds
        exact k2  rfl H locs ls hw hS hl
      have K4 : (q9 = .inr (.inr (.inr (.inr (.inl ())))) → ∀ (H : Heap) (locs : List Loc) (ls : Array Slot), hW D dA classes b0 (nx + dnb) h9b H → va_S (hA b0) s.heap H locs → lv_has ls 4 [] → W p l e room_1 s m #[Value.ref a0] below meth c H locs (cells + dnb) (slots + dsb) (lw_Z below #[Value.ref a0] s) (F0 m 248 ls [])) := by
        intro  eq9 H locs ls hw hS hl
        subst eq9
        cases hrun9
        subst edn; subst eds
        exact k3  rfl H locs ls hw hS hl
      have K5 : (q9 = .inr (.inr (.inr (.inr (.inr (.inl ()))))) → ∀ (H : Heap) (locs : List Loc) (ls : Array Slot), hW D dA classes b0 (nx + dnb) h9b H → va_S (hA b0) s.heap H locs → lv_has ls 4 [] → W p l e room_1 s m #[Value.ref a0] below meth c H locs (cells + dnb) (slots + dsb) (lw_Z below #[Value.ref a0] s) (F0 m 287 ls [])) := by
        intro  eq9 H locs ls hw hS hl
        subst eq9
        cases hrun9
        subst edn; subst eds
        exact k4  rfl H locs ls hw hS hl
      have K6 : (q9 = .inr (.inr (.inr (.inr (.inr (.inr (.inl ())))))) → ∀ (H : Heap) (locs : List Loc) (ls : Array Slot), hW D dA classes b0 (nx + dnb) h9b H → va_S (hA b0) s.heap H locs → lv_has ls 4 [] → W p l e room_1 s m #[Value.ref a0] below meth c H locs (cells + dnb) (slots + dsb) (lw_Z below #[Value.ref a0] s) (F0 m 310 ls [])) := by
        intro  eq9 H locs ls hw hS hl
        subst eq9
        cases hrun9
        subst edn; subst eds
        exact k5  rfl H locs ls hw hS hl
      have K7 : (q9 = .inr (.inr (.inr (.inr (.inr (.inr (.inr (.inl ()))))))) → ∀ (H : Heap) (locs : List Loc) (ls : Array Slot), hW D dA classes b0 (nx + dnb) h9b H → va_S (hA b0) s.heap H locs → lv_has ls 4 [] → W p l e room_1 s m #[Value.ref a0] below meth c H locs (cells + dnb) (slots + dsb) (lw_Z below #[Value.ref a0] s) (F0 m 333 ls [])) := by
        intro  eq9 H locs ls hw hS hl
        subst eq9
        cases hrun9
        subst edn; subst eds
        exact k6  rfl H locs ls hw hS hl
      have K8 : (q9 = .inr (.inr (.inr (.inr (.inr (.inr (.inr (.inr (.inl ())))))))) → ∀ (H : Heap) (locs : List Loc) (ls : Array Slot), hW D dA classes b0 (nx + dnb) h9b H → va_S (hA b0) s.heap H locs → lv_has ls 4 [] → W p l e room_1 s m #[Value.ref a0] below meth c H locs (cells + dnb) (slots + dsb) (lw_Z below #[Value.ref a0] s) (F0 m 372 ls [])) := by
        intro  eq9 H locs ls hw hS hl
        subst eq9
        cases hrun9
        subst edn; subst eds
        exact k7  rfl H locs ls hw hS hl
      have K9 : (q9 = .inr (.inr (.inr (.inr (.inr (.inr (.inr (.inr (.inr (.inl ()))))))))) → ∀ (H : Heap) (locs : List Loc) (ls : Array Slot), hW D dA classes b0 (nx + dnb) h9b H → va_S (hA b0) s.heap H locs → lv_has ls 4 [] → W p l e room_1 s m #[Value.ref a0] below meth c H locs (cells + dnb) (slots + dsb) (lw_Z below #[Value.ref a0] s) (F0 m 395 ls [])) := by
        intro  eq9 H locs ls hw hS hl
        subst eq9
        cases hrun9
        subst edn; subst eds
        exact k8  rfl H locs ls hw hS hl
      have K10 : (q9 = .inr (.inr (.inr (.inr (.inr (.inr (.inr (.inr (.inr (.inr (.inl ())))))))))) → ∀ (H : Heap) (locs : List Loc) (ls : Array Slot), hW D dA classes b0 (nx + dnb) h9b H → va_S (hA b0) s.heap H locs → lv_has ls 4 [] → W p l e room_1 s m #[Value.ref a0] below meth c H locs (cells + dnb) (slots + dsb) (lw_Z below #[Value.ref a0] s) (F0 m 428 ls [])) := by
        intro  eq9 H locs ls hw hS hl
        subst eq9
        cases hrun9
        subst edn; subst eds
        exact k9  rfl H locs ls hw hS hl
      have K11 : (q9 = .inr (.inr (.inr (.inr (.inr (.inr (.inr (.inr (.inr (.inr (.inr (.inl ()))))))))))) → ∀ (H : Heap) (locs : List Loc) (ls : Array Slot), hW D dA classes b0 (nx + dnb) h9b H → va_S (hA b0) s.heap H locs → lv_has ls 4 [] → W p l e room_1 s m #[Value.ref a0] below meth c H locs (cells + dnb) (slots + dsb) (lw_Z below #[Value.ref a0] s) (F0 m 451 ls [])) := by
        intro  eq9 H locs ls hw hS hl
        subst eq9
        cases hrun9
        subst edn; subst eds
        exact k10  rfl H locs ls hw hS hl
      have K12 : (q9 = .inr (.inr (.inr (.inr (.inr (.inr (.inr (.inr (.inr (.inr (.inr (.inr (.inl ())))))))))))) → ∀ (H : Heap) (locs : List Loc) (ls : Array Slot), hW D dA classes b0 (nx + dnb) h9b H → va_S (hA b0) s.heap H locs → lv_has ls 4 [] → W p l e room_1 s m #[Value.ref a0] below meth c H locs (cells + dnb) (slots + dsb) (lw_Z below #[Value.ref a0] s) (F0 m 474 ls [])) := by
        intro  eq9 H locs ls hw hS hl
        subst eq9
        cases hrun9
        subst edn; subst eds
        exact k11  rfl H locs ls hw hS hl
      have K13 : (q9 = .inr (.inr (.inr (.inr (.inr (.inr (.inr (.inr (.inr (.inr (.inr (.inr (.inr (()))))))))))))) → ∀ (H : Heap) (locs : List Loc) (ls : Array Slot), hW D dA classes b0 (nx + dnb) h9b H → va_S (hA b0) s.heap H locs → lv_has ls 4 [] → W p l e room_1 s m #[Value.ref a0] below meth c H locs (cells + dnb) (slots + dsb) (lw_Z below #[Value.ref a0] s) (F0 m 482 ls [])) := by
        intro  eq9 H locs ls hw hS hl
        subst eq9
        cases hrun9
        subst edn; subst eds
        exact k12  rfl H locs ls hw hS hl
      clear hrun hrun9 ih k0 k1 k2 k3 k4 k5 k6 k7 k8 k9 k10 k11 k12
      have hrun := hbody
      clear hbody
      replace hcB : cells + dnb ≤ dnZ := by omega
      replace hsB : slots + dsb ≤ dsZ := by omega
      clear edn eds
      have j_476 : ∀  (x1 : Option Nat) (x2 : Option Nat) (x3 : Int32) (q9 : (Int32) ⊕ ((Unit) ⊕ (Unit) ⊕ (Unit) ⊕ (Unit) ⊕ (Unit) ⊕ (Unit) ⊕ (Unit) ⊕ (Unit) ⊕ (Unit) ⊕ (Unit) ⊕ (Unit) ⊕ (Unit) ⊕ (Unit))) (h9 : hH) (cells slots dn ds nx : Nat) (h : hH) (H : Heap) (locs : List Loc) (ls : Array Slot), f_MacroExpandLaw_law_j476 n L xs x1 x2 x3 nx h = some (q9, dn, ds, h9) → cells + dn ≤ dnZ → slots + ds ≤ dsZ → hW D dA classes b0 nx h H → va_S (hA b0) s.heap H locs → lv_has ls 4 [(0, .ref a0), (1, va_rf x1), (2, va_rf x2), (3, .int x3)] → (∀ (z3 : Int32), q9 = .inl z3 → ∀ (H : Heap) (locs : List Loc) (ls : Array Slot), hW D dA classes b0 (nx + dn) h9 H → va_S (hA b0) s.heap H locs → lv_has ls 4 [(0, .ref a0), (1, va_rf x1), (2, va_rf x2), (3, .int z3)] → W p l e room_1 s m #[Value.ref a0] below meth c H locs (cells + dn) (slots + ds) (lw_Z below #[Value.ref a0] s) (F0 m 30 ls [])) → (q9 = .inr (.inl ()) → ∀ (H : Heap) (locs : List Loc) (ls : Array Slot), hW D dA classes b0 (nx + dn) h9 H → va_S (hA b0) s.heap H locs → lv_has ls 4 [] → W p l e room_1 s m #[Value.ref a0] below meth c H locs (cells + dn) (slots + ds) (lw_Z below #[Value.ref a0] s) (F0 m 149 ls [])) → (q9 = .inr (.inr (.inl ())) → ∀ (H : Heap) (locs : List Loc) (ls : Array Slot), hW D dA classes b0 (nx + dn) h9 H → va_S (hA b0) s.heap H locs → lv_has ls 4 [] → W p l e room_1 s m #[Value.ref a0] below meth c H locs (cells + dn) (slots + ds) (lw_Z below #[Value.ref a0] s) (F0 m 182 ls [])) → (q9 = .inr (.inr (.inr (.inl ()))) → ∀ (H : Heap) (locs : List Loc) (ls : Array Slot), hW D dA classes b0 (nx + dn) h9 H → va_S (hA b0) s.heap H locs → lv_has ls 4 [] → W p l e room_1 s m #[Value.ref a0] below meth c H locs (cells + dn) (slots + ds) (lw_Z below #[Value.ref a0] s) (F0 m 225 ls [])) → (q9 = .inr (.inr (.inr (.inr (.inl ())))) → ∀ (H : Heap) (locs : List Loc) (ls : Array Slot), hW D dA classes b0 (nx + dn) h9 H → va_S (hA b0) s.heap H locs → lv_has ls 4 [] → W p l e room_1 s m #[Value.ref a0] below meth c H locs (cells + dn) (slots + ds) (lw_Z below #[Value.ref a0] s) (F0 m 248 ls [])) → (q9 = .inr (.inr (.inr (.inr (.inr (.inl ()))))) → ∀ (H : Heap) (locs : List Loc) (ls : Array Slot), hW D dA classes b0 (nx + dn) h9 H → va_S (hA b0) s.heap H locs → lv_has ls 4 [] → W p l e room_1 s m #[Value.ref a0] below meth c H locs (cells + dn) (slots + ds) (lw_Z below #[Value.ref a0] s) (F0 m 287 ls [])) → (q9 = .inr (.inr (.inr (.inr (.inr (.inr (.inl ())))))) → ∀ (H : Heap) (locs : List Loc) (ls : Array Slot), hW D dA classes b0 (nx + dn) h9 H → va_S (hA b0) s.heap H locs → lv_has ls 4 [] → W p l e room_1 s m #[Value.ref a0] below meth c H locs (cells + dn) (slots + ds) (lw_Z below #[Value.ref a0] s) (F0 m 310 ls [])) → (q9 = .inr (.inr (.inr (.inr (.inr (.inr (.inr (.inl ()))))))) → ∀ (H : Heap) (locs : List Loc) (ls : Array Slot), hW D dA classes b0 (nx + dn) h9 H → va_S (hA b0) s.heap H locs → lv_has ls 4 [] → W p l e room_1 s m #[Value.ref a0] below meth c H locs (cells + dn) (slots + ds) (lw_Z below #[Value.ref a0] s) (F0 m 333 ls [])) → (q9 = .inr (.inr (.inr (.inr (.inr (.inr (.inr (.inr (.inl ())))))))) → ∀ (H : Heap) (locs : List Loc) (ls : Array Slot), hW D dA classes b0 (nx + dn) h9 H → va_S (hA b0) s.heap H locs → lv_has ls 4 [] → W p l e room_1 s m #[Value.ref a0] below meth c H locs (cells + dn) (slots + ds) (lw_Z below #[Value.ref a0] s) (F0 m 372 ls [])) → (q9 = .inr (.inr (.inr (.inr (.inr (.inr (.inr (.inr (.inr (.inl ()))))))))) → ∀ (H : Heap) (locs : List Loc) (ls : Array Slot), hW D dA classes b0 (nx + dn) h9 H → va_S (hA b0) s.heap H locs → lv_has ls 4 [] → W p l e room_1 s m #[Value.ref a0] below meth c H locs (cells + dn) (slots + ds) (lw_Z below #[Value.ref a0] s) (F0 m 395 ls [])) → (q9 = .inr (.inr (.inr (.inr (.inr (.inr (.inr (.inr (.inr (.inr (.inl ())))))))))) → ∀ (H : Heap) (locs : List Loc) (ls : Array Slot), hW D dA classes b0 (nx + dn) h9 H → va_S (hA b0) s.heap H locs → lv_has ls 4 [] → W p l e room_1 s m #[Value.ref a0] below meth c H locs (cells + dn) (slots + ds) (lw_Z below #[Value.ref a0] s) (F0 m 428 ls [])) → (q9 = .inr (.inr (.inr (.inr (.inr (.inr (.inr (.inr (.inr (.inr (.inr (.inl ()))))))))))) → ∀ (H : Heap) (locs : List Loc) (ls : Array Slot), hW D dA classes b0 (nx + dn) h9 H → va_S (hA b0) s.heap H locs → lv_has ls 4 [] → W p l e room_1 s m #[Value.ref a0] below meth c H locs (cells + dn) (slots + ds) (lw_Z below #[Value.ref a0] s) (F0 m 451 ls [])) → (q9 = .inr (.inr (.inr (.inr (.inr (.inr (.inr (.inr (.inr (.inr (.inr (.inr (.inl ())))))))))))) → ∀ (H : Heap) (locs : List Loc) (ls : Array Slot), hW D dA classes b0 (nx + dn) h9 H → va_S (hA b0) s.heap H locs → lv_has ls 4 [] → W p l e room_1 s m #[Value.ref a0] below meth c H locs (cells + dn) (slots + ds) (lw_Z below #[Value.ref a0] s) (F0 m 474 ls [])) → (q9 = .inr (.inr (.inr (.inr (.inr (.inr (.inr (.inr (.inr (.inr (.inr (.inr (.inr (()))))))))))))) → ∀ (H : Heap) (locs : List Loc) (ls : Array Slot), hW D dA classes b0 (nx + dn) h9 H → va_S (hA b0) s.heap H locs → lv_has ls 4 [] → W p l e room_1 s m #[Value.ref a0] below meth c H locs (cells + dn) (slots + ds) (lw_Z below #[Value.ref a0] s) (F0 m 482 ls [])) → W p l e room_1 s m #[Value.ref a0] below meth c H locs cells slots (lw_Z below #[Value.ref a0] s) (F0 m 476 ls []) := by
        intro x1 x2 x3 q9 h9 cells slots dn ds nx h H locs ls hrun hcB hsB hw hS hl k0 k1 k2 k3 k4 k5 k6 k7 k8 k9 k10 k11 k12 k13
        unfold f_MacroExpandLaw_law_j476 at hrun
        have hcR : cells + dn = cells + dn := rfl
        have hsR : slots + ds = slots + ds := rfl
        have hnR : nx + dn = nx + dn := rfl
        refine lv_iinc (v := (x3 + (4 : Int32))) (lv' := [(3, .int (x3 + (4 : Int32))), (0, .ref a0), (1, va_rf x1), (2, va_rf x2)]) hx hb d_MacroExpandLaw_law_476 hl (k := 3) rfl rfl (by decide) (by simp [h_cat]) (fun ls hl => ?_)
        refine lv_goto (tgt := 30) hx hb d_MacroExpandLaw_law_479 (by decide) ?_
        cases hrun
        exact W.widen (by omega) (by omega) (k0 (x3 + (4 : Int32)) rfl H locs ls hw hS (lv_sub hl [1, 2, 3, 0] rfl))
      have j_366 : ∀  (x1 : Option Nat) (x2 : Option Nat) (x3 : Int32) (y0 : Int32) (y1 : Option Nat) (y2 : Int32) (q9 : (Int32) ⊕ ((Unit) ⊕ (Unit) ⊕ (Unit) ⊕ (Unit) ⊕ (Unit) ⊕ (Unit) ⊕ (Unit) ⊕ (Unit) ⊕ (Unit) ⊕ (Unit) ⊕ (Unit) ⊕ (Unit) ⊕ (Unit))) (h9 : hH) (cells slots dn ds nx : Nat) (h : hH) (H : Heap) (locs : List Loc) (ls : Array Slot), f_MacroExpandLaw_law_j366 n L xs x1 x2 x3 y0 y1 y2 nx h = some (q9, dn, ds, h9) → cells + dn ≤ dnZ → slots + ds ≤ dsZ → hW D dA classes b0 nx h H → va_S (hA b0) s.heap H locs → lv_has ls 4 [(0, .ref a0), (1, va_rf x1), (2, va_rf x2), (3, .int x3)] → (∀ (z3 : Int32), q9 = .inl z3 → ∀ (H : Heap) (locs : List Loc) (ls : Array Slot), hW D dA classes b0 (nx + dn) h9 H → va_S (hA b0) s.heap H locs → lv_has ls 4 [(0, .ref a0), (1, va_rf x1), (2, va_rf x2), (3, .int z3)] → W p l e room_1 s m #[Value.ref a0] below meth c H locs (cells + dn) (slots + ds) (lw_Z below #[Value.ref a0] s) (F0 m 30 ls [])) → (q9 = .inr (.inl ()) → ∀ (H : Heap) (locs : List Loc) (ls : Array Slot), hW D dA classes b0 (nx + dn) h9 H → va_S (hA b0) s.heap H locs → lv_has ls 4 [] → W p l e room_1 s m #[Value.ref a0] below meth c H locs (cells + dn) (slots + ds) (lw_Z below #[Value.ref a0] s) (F0 m 149 ls [])) → (q9 = .inr (.inr (.inl ())) → ∀ (H : Heap) (locs : List Loc) (ls : Array Slot), hW D dA classes b0 (nx + dn) h9 H → va_S (hA b0) s.heap H locs → lv_has ls 4 [] → W p l e room_1 s m #[Value.ref a0] below meth c H locs (cells + dn) (slots + ds) (lw_Z below #[Value.ref a0] s) (F0 m 182 ls [])) → (q9 = .inr (.inr (.inr (.inl ()))) → ∀ (H : Heap) (locs : List Loc) (ls : Array Slot), hW D dA classes b0 (nx + dn) h9 H → va_S (hA b0) s.heap H locs → lv_has ls 4 [] → W p l e room_1 s m #[Value.ref a0] below meth c H locs (cells + dn) (slots + ds) (lw_Z below #[Value.ref a0] s) (F0 m 225 ls [])) → (q9 = .inr (.inr (.inr (.inr (.inl ())))) → ∀ (H : Heap) (locs : List Loc) (ls : Array Slot), hW D dA classes b0 (nx + dn) h9 H → va_S (hA b0) s.heap H locs → lv_has ls 4 [] → W p l e room_1 s m #[Value.ref a0] below meth c H locs (cells + dn) (slots + ds) (lw_Z below #[Value.ref a0] s) (F0 m 248 ls [])) → (q9 = .inr (.inr (.inr (.inr (.inr (.inl ()))))) → ∀ (H : Heap) (locs : List Loc) (ls : Array Slot), hW D dA classes b0 (nx + dn) h9 H → va_S (hA b0) s.heap H locs → lv_has ls 4 [] → W p l e room_1 s m #[Value.ref a0] below meth c H locs (cells + dn) (slots + ds) (lw_Z below #[Value.ref a0] s) (F0 m 287 ls [])) → (q9 = .inr (.inr (.inr (.inr (.inr (.inr (.inl ())))))) → ∀ (H : Heap) (locs : List Loc) (ls : Array Slot), hW D dA classes b0 (nx + dn) h9 H → va_S (hA b0) s.heap H locs → lv_has ls 4 [] → W p l e room_1 s m #[Value.ref a0] below meth c H locs (cells + dn) (slots + ds) (lw_Z below #[Value.ref a0] s) (F0 m 310 ls [])) → (q9 = .inr (.inr (.inr (.inr (.inr (.inr (.inr (.inl ()))))))) → ∀ (H : Heap) (locs : List Loc) (ls : Array Slot), hW D dA classes b0 (nx + dn) h9 H → va_S (hA b0) s.heap H locs → lv_has ls 4 [] → W p l e room_1 s m #[Value.ref a0] below meth c H locs (cells + dn) (slots + ds) (lw_Z below #[Value.ref a0] s) (F0 m 333 ls [])) → (q9 = .inr (.inr (.inr (.inr (.inr (.inr (.inr (.inr (.inl ())))))))) → ∀ (H : Heap) (locs : List Loc) (ls : Array Slot), hW D dA classes b0 (nx + dn) h9 H → va_S (hA b0) s.heap H locs → lv_has ls 4 [] → W p l e room_1 s m #[Value.ref a0] below meth c H locs (cells + dn) (slots + ds) (lw_Z below #[Value.ref a0] s) (F0 m 372 ls [])) → (q9 = .inr (.inr (.inr (.inr (.inr (.inr (.inr (.inr (.inr (.inl ()))))))))) → ∀ (H : Heap) (locs : List Loc) (ls : Array Slot), hW D dA classes b0 (nx + dn) h9 H → va_S (hA b0) s.heap H locs → lv_has ls 4 [] → W p l e room_1 s m #[Value.ref a0] below meth c H locs (cells + dn) (slots + ds) (lw_Z below #[Value.ref a0] s) (F0 m 395 ls [])) → (q9 = .inr (.inr (.inr (.inr (.inr (.inr (.inr (.inr (.inr (.inr (.inl ())))))))))) → ∀ (H : Heap) (locs : List Loc) (ls : Array Slot), hW D dA classes b0 (nx + dn) h9 H → va_S (hA b0) s.heap H locs → lv_has ls 4 [] → W p l e room_1 s m #[Value.ref a0] below meth c H locs (cells + dn) (slots + ds) (lw_Z below #[Value.ref a0] s) (F0 m 428 ls [])) → (q9 = .inr (.inr (.inr (.inr (.inr (.inr (.inr (.inr (.inr (.inr (.inr (.inl ()))))))))))) → ∀ (H : Heap) (locs : List Loc) (ls : Array Slot), hW D dA classes b0 (nx + dn) h9 H → va_S (hA b0) s.heap H locs → lv_has ls 4 [] → W p l e room_1 s m #[Value.ref a0] below meth c H locs (cells + dn) (slots + ds) (lw_Z below #[Value.ref a0] s) (F0 m 451 ls [])) → (q9 = .inr (.inr (.inr (.inr (.inr (.inr (.inr (.inr (.inr (.inr (.inr (.inr (.inl ())))))))))))) → ∀ (H : Heap) (locs : List Loc) (ls : Array Slot), hW D dA classes b0 (nx + dn) h9 H → va_S (hA b0) s.heap H locs → lv_has ls 4 [] → W p l e room_1 s m #[Value.ref a0] below meth c H locs (cells + dn) (slots + ds) (lw_Z below #[Value.ref a0] s) (F0 m 474 ls [])) → (q9 = .inr (.inr (.inr (.inr (.inr (.inr (.inr (.inr (.inr (.inr (.inr (.inr (.inr (()))))))))))))) → ∀ (H : Heap) (locs : List Loc) (ls : Array Slot), hW D dA classes b0 (nx + dn) h9 H → va_S (hA b0) s.heap H locs → lv_has ls 4 [] → W p l e room_1 s m #[Value.ref a0] below meth c H locs (cells + dn) (slots + ds) (lw_Z below #[Value.ref a0] s) (F0 m 482 ls [])) → W p l e room_1 s m #[Value.ref a0] below meth c H locs cells slots (lw_Z below #[Value.ref a0] s) (F0 m 366 ls [.int y2, va_rf y1, .int y0]) := by
        intro x1 x2 x3 y0 y1 y2 q9 h9 cells slots dn ds nx h H locs ls hrun hcB hsB hw hS hl k0 k1 k2 k3 k4 k5 k6 k7 k8 k9 k10 k11 k12 k13
        unfold f_MacroExpandLaw_law_j366 at hrun
        have hcR : cells + dn = cells + dn := rfl
        have hsR : slots + ds = slots + ds := rfl
        have hnR : nx + dn = nx + dn := rfl
        replace hrun := hb_some hrun
        obtain ⟨p366, rfl, hrun⟩ := hrun
        replace hrun := hb_some hrun
        obtain ⟨c366, k366, hrun⟩ := hrun
        replace hrun := hbW_some hrun
        obtain ⟨v366, h366, g366, hrun⟩ := hrun
        refine h_ci (h_runV S (As := [.int y2]) (rest := [.int y0]) (c_MacroExpandModel_group l D dA b0 n p366 y2 nx g366) (cwV 1 S.2.2.2.2 (h_good _ (h_in4 ml_MacroExpandLaw_56 im_MacroExpandModel_group se_MacroExpandModel_group it_MacroExpandModel) cd_MacroExpandModel_group) rfl rfl rfl (by decide +kernel) ⟨Nat.le_of_ble_eq_true rfl, Nat.le_of_ble_eq_true rfl⟩) hK hN hw (ci := 1) rfl k366 rfl hl.1 (lv_room (Nat.le_of_ble_eq_true rfl)) d_MacroExpandLaw_law_366 ⟨show cells + 0 ≤ 600000 by omega, show slots + 0 ≤ 7302250 by omega⟩) hS (fun H locs hw hS => ?_)
        refine lv_icmp_eq (tgt := 476) hx hb d_MacroExpandLaw_law_369 (by decide) (fun c369 => ?_) (fun c369 => ?_)
        · rw [if_pos c369] at hrun
          exact j_476 x1 x2 x3 _ _ cells slots _ _ nx h366 _ _ _ hrun (by omega) (by omega) hw hS (lv_sub hl [0, 1, 2, 3] rfl) k0 k1 k2 k3 k4 k5 k6 k7 k8 k9 k10 k11 k12 k13
        · rw [if_neg c369] at hrun
          cases hrun
          exact W.widen (by omega) (by omega) (k8  rfl H locs ls hw hS (lv_sub hl [] rfl))
      have j_349 : ∀  (x1 : Option Nat) (x2 : Option Nat) (x3 : Int32) (y0 : Option Nat) (y1 : Int32) (q9 : (Int32) ⊕ ((Unit) ⊕ (Unit) ⊕ (Unit) ⊕ (Unit) ⊕ (Unit) ⊕ (Unit) ⊕ (Unit) ⊕ (Unit) ⊕ (Unit) ⊕ (Unit) ⊕ (Unit) ⊕ (Unit) ⊕ (Unit))) (h9 : hH) (cells slots dn ds nx : Nat) (h : hH) (H : Heap) (locs : List Loc) (ls : Array Slot), f_MacroExpandLaw_law_j349 n L xs x1 x2 x3 y0 y1 nx h = some (q9, dn, ds, h9) → cells + dn ≤ dnZ → slots + ds ≤ dsZ → hW D dA classes b0 nx h H → va_S (hA b0) s.heap H locs → lv_has ls 4 [(0, .ref a0), (1, va_rf x1), (2, va_rf x2), (3, .int x3)] → (∀ (z3 : Int32), q9 = .inl z3 → ∀ (H : Heap) (locs : List Loc) (ls : Array Slot), hW D dA classes b0 (nx + dn) h9 H → va_S (hA b0) s.heap H locs → lv_has ls 4 [(0, .ref a0), (1, va_rf x1), (2, va_rf x2), (3, .int z3)] → W p l e room_1 s m #[Value.ref a0] below meth c H locs (cells + dn) (slots + ds) (lw_Z below #[Value.ref a0] s) (F0 m 30 ls [])) → (q9 = .inr (.inl ()) → ∀ (H : Heap) (locs : List Loc) (ls : Array Slot), hW D dA classes b0 (nx + dn) h9 H → va_S (hA b0) s.heap H locs → lv_has ls 4 [] → W p l e room_1 s m #[Value.ref a0] below meth c H locs (cells + dn) (slots + ds) (lw_Z below #[Value.ref a0] s) (F0 m 149 ls [])) → (q9 = .inr (.inr (.inl ())) → ∀ (H : Heap) (locs : List Loc) (ls : Array Slot), hW D dA classes b0 (nx + dn) h9 H → va_S (hA b0) s.heap H locs → lv_has ls 4 [] → W p l e room_1 s m #[Value.ref a0] below meth c H locs (cells + dn) (slots + ds) (lw_Z below #[Value.ref a0] s) (F0 m 182 ls [])) → (q9 = .inr (.inr (.inr (.inl ()))) → ∀ (H : Heap) (locs : List Loc) (ls : Array Slot), hW D dA classes b0 (nx + dn) h9 H → va_S (hA b0) s.heap H locs → lv_has ls 4 [] → W p l e room_1 s m #[Value.ref a0] below meth c H locs (cells + dn) (slots + ds) (lw_Z below #[Value.ref a0] s) (F0 m 225 ls [])) → (q9 = .inr (.inr (.inr (.inr (.inl ())))) → ∀ (H : Heap) (locs : List Loc) (ls : Array Slot), hW D dA classes b0 (nx + dn) h9 H → va_S (hA b0) s.heap H locs → lv_has ls 4 [] → W p l e room_1 s m #[Value.ref a0] below meth c H locs (cells + dn) (slots + ds) (lw_Z below #[Value.ref a0] s) (F0 m 248 ls [])) → (q9 = .inr (.inr (.inr (.inr (.inr (.inl ()))))) → ∀ (H : Heap) (locs : List Loc) (ls : Array Slot), hW D dA classes b0 (nx + dn) h9 H → va_S (hA b0) s.heap H locs → lv_has ls 4 [] → W p l e room_1 s m #[Value.ref a0] below meth c H locs (cells + dn) (slots + ds) (lw_Z below #[Value.ref a0] s) (F0 m 287 ls [])) → (q9 = .inr (.inr (.inr (.inr (.inr (.inr (.inl ())))))) → ∀ (H : Heap) (locs : List Loc) (ls : Array Slot), hW D dA classes b0 (nx + dn) h9 H → va_S (hA b0) s.heap H locs → lv_has ls 4 [] → W p l e room_1 s m #[Value.ref a0] below meth c H locs (cells + dn) (slots + ds) (lw_Z below #[Value.ref a0] s) (F0 m 310 ls [])) → (q9 = .inr (.inr (.inr (.inr (.inr (.inr (.inr (.inl ()))))))) → ∀ (H : Heap) (locs : List Loc) (ls : Array Slot), hW D dA classes b0 (nx + dn) h9 H → va_S (hA b0) s.heap H locs → lv_has ls 4 [] → W p l e room_1 s m #[Value.ref a0] below meth c H locs (cells + dn) (slots + ds) (lw_Z below #[Value.ref a0] s) (F0 m 333 ls [])) → (q9 = .inr (.inr (.inr (.inr (.inr (.inr (.inr (.inr (.inl ())))))))) → ∀ (H : Heap) (locs : List Loc) (ls : Array Slot), hW D dA classes b0 (nx + dn) h9 H → va_S (hA b0) s.heap H locs → lv_has ls 4 [] → W p l e room_1 s m #[Value.ref a0] below meth c H locs (cells + dn) (slots + ds) (lw_Z below #[Value.ref a0] s) (F0 m 372 ls [])) → (q9 = .inr (.inr (.inr (.inr (.inr (.inr (.inr (.inr (.inr (.inl ()))))))))) → ∀ (H : Heap) (locs : List Loc) (ls : Array Slot), hW D dA classes b0 (nx + dn) h9 H → va_S (hA b0) s.heap H locs → lv_has ls 4 [] → W p l e room_1 s m #[Value.ref a0] below meth c H locs (cells + dn) (slots + ds) (lw_Z below #[Value.ref a0] s) (F0 m 395 ls [])) → (q9 = .inr (.inr (.inr (.inr (.inr (.inr (.inr (.inr (.inr (.inr (.inl ())))))))))) → ∀ (H : Heap) (locs : List Loc) (ls : Array Slot), hW D dA classes b0 (nx + dn) h9 H → va_S (hA b0) s.heap H locs → lv_has ls 4 [] → W p l e room_1 s m #[Value.ref a0] below meth c H locs (cells + dn) (slots + ds) (lw_Z below #[Value.ref a0] s) (F0 m 428 ls [])) → (q9 = .inr (.inr (.inr (.inr (.inr (.inr (.inr (.inr (.inr (.inr (.inr (.inl ()))))))))))) → ∀ (H : Heap) (locs : List Loc) (ls : Array Slot), hW D dA classes b0 (nx + dn) h9 H → va_S (hA b0) s.heap H locs → lv_has ls 4 [] → W p l e room_1 s m #[Value.ref a0] below meth c H locs (cells + dn) (slots + ds) (lw_Z below #[Value.ref a0] s) (F0 m 451 ls [])) → (q9 = .inr (.inr (.inr (.inr (.inr (.inr (.inr (.inr (.inr (.inr (.inr (.inr (.inl ())))))))))))) → ∀ (H : Heap) (locs : List Loc) (ls : Array Slot), hW D dA classes b0 (nx + dn) h9 H → va_S (hA b0) s.heap H locs → lv_has ls 4 [] → W p l e room_1 s m #[Value.ref a0] below meth c H locs (cells + dn) (slots + ds) (lw_Z below #[Value.ref a0] s) (F0 m 474 ls [])) → (q9 = .inr (.inr (.inr (.inr (.inr (.inr (.inr (.inr (.inr (.inr (.inr (.inr (.inr (()))))))))))))) → ∀ (H : Heap) (locs : List Loc) (ls : Array Slot), hW D dA classes b0 (nx + dn) h9 H → va_S (hA b0) s.heap H locs → lv_has ls 4 [] → W p l e room_1 s m #[Value.ref a0] below meth c H locs (cells + dn) (slots + ds) (lw_Z below #[Value.ref a0] s) (F0 m 482 ls [])) → W p l e room_1 s m #[Value.ref a0] below meth c H locs cells slots (lw_Z below #[Value.ref a0] s) (F0 m 349 ls [.int y1, va_rf y0]) := by
        intro x1 x2 x3 y0 y1 q9 h9 cells slots dn ds nx h H locs ls hrun hcB hsB hw hS hl k0 k1 k2 k3 k4 k5 k6 k7 k8 k9 k10 k11 k12 k13
        unfold f_MacroExpandLaw_law_j349 at hrun
        have hcR : cells + dn = cells + dn := rfl
        have hsR : slots + ds = slots + ds := rfl
        have hnR : nx + dn = nx + dn := rfl
        replace hrun := hb_some hrun
        obtain ⟨p349, rfl, hrun⟩ := hrun
        replace hrun := hb_some hrun
        obtain ⟨c349, k349, hrun⟩ := hrun
        replace hrun := hbW_some hrun
        obtain ⟨v349, h349, g349, hrun⟩ := hrun
        refine h_ci (h_runV S (As := [.int y1]) (rest := []) (c_MacroExpand_group l D dA b0 p349 y1 nx g349) (cwV 1 S.2.2.2.2 (h_good _ (h_in4 ml_MacroExpandLaw_53 im_MacroExpand_group se_MacroExpand_group it_MacroExpand) cd_MacroExpand_group) rfl rfl rfl (by decide +kernel) ⟨Nat.le_of_ble_eq_true rfl, Nat.le_of_ble_eq_true rfl⟩) hK hN hw (ci := 0) rfl k349 rfl hl.1 (lv_room (Nat.le_of_ble_eq_true rfl)) d_MacroExpandLaw_law_349 ⟨show cells + 0 ≤ 600000 by omega, show slots + 0 ≤ 7302250 by omega⟩) hS (fun H locs hw hS => ?_)
        refine h_aload_n hx hb d_MacroExpandLaw_law_352 rfl (lv_at hl 2 rfl) ?_
        refine lv_aload_n hx hb d_MacroExpandLaw_law_353 rfl (lv_at hl 0 rfl) ?_
        refine lv_iload_n hx hb d_MacroExpandLaw_law_354 rfl (lv_at hl 3 rfl) ?_
        refine lv_iconst (v := (1 : Int32)) hx hb d_MacroExpandLaw_law_355 (by decide) ?_
        refine lv_iadd hx hb d_MacroExpandLaw_law_356 ?_
        replace hrun := hb_some hrun
        obtain ⟨v357, g357, hrun⟩ := hrun
        refine h_sld S hX hbl hbA hS g357 d_MacroExpandLaw_law_357 ?_
        refine lv_if_eq (tgt := 365) hx hb d_MacroExpandLaw_law_358 (by decide) (fun c358 => ?_) (fun c358 => ?_)
        · rw [if_pos c358] at hrun
          refine lv_iconst (v := (0 : Int32)) hx hb d_MacroExpandLaw_law_365 (by decide) ?_
          exact j_366 x1 x2 x3 v349 x2 (0 : Int32) _ _ cells slots _ _ nx h349 _ _ _ hrun (by omega) (by omega) hw hS (lv_sub hl [0, 1, 2, 3] rfl) k0 k1 k2 k3 k4 k5 k6 k7 k8 k9 k10 k11 k12 k13
        · rw [if_neg c358] at hrun
          refine lv_iconst (v := (1 : Int32)) hx hb d_MacroExpandLaw_law_361 (by decide) ?_
          refine lv_goto (tgt := 366) hx hb d_MacroExpandLaw_law_362 (by decide) ?_
          exact j_366 x1 x2 x3 v349 x2 (1 : Int32) _ _ cells slots _ _ nx h349 _ _ _ hrun (by omega) (by omega) hw hS (lv_sub hl [0, 1, 2, 3] rfl) k0 k1 k2 k3 k4 k5 k6 k7 k8 k9 k10 k11 k12 k13
      have j_281 : ∀  (x1 : Option Nat) (x2 : Option Nat) (x3 : Int32) (y0 : Int32) (y1 : Option Nat) (y2 : Int32) (q9 : (Int32) ⊕ ((Unit) ⊕ (Unit) ⊕ (Unit) ⊕ (Unit) ⊕ (Unit) ⊕ (Unit) ⊕ (Unit) ⊕ (Unit) ⊕ (Unit) ⊕ (Unit) ⊕ (Unit) ⊕ (Unit) ⊕ (Unit))) (h9 : hH) (cells slots dn ds nx : Nat) (h : hH) (H : Heap) (locs : List Loc) (ls : Array Slot), f_MacroExpandLaw_law_j281 n L xs x1 x2 x3 y0 y1 y2 nx h = some (q9, dn, ds, h9) → cells + dn ≤ dnZ → slots + ds ≤ dsZ → hW D dA classes b0 nx h H → va_S (hA b0) s.heap H locs → lv_has ls 4 [(0, .ref a0), (1, va_rf x1), (2, va_rf x2), (3, .int x3)] → (∀ (z3 : Int32), q9 = .inl z3 → ∀ (H : Heap) (locs : List Loc) (ls : Array Slot), hW D dA classes b0 (nx + dn) h9 H → va_S (hA b0) s.heap H locs → lv_has ls 4 [(0, .ref a0), (1, va_rf x1), (2, va_rf x2), (3, .int z3)] → W p l e room_1 s m #[Value.ref a0] below meth c H locs (cells + dn) (slots + ds) (lw_Z below #[Value.ref a0] s) (F0 m 30 ls [])) → (q9 = .inr (.inl ()) → ∀ (H : Heap) (locs : List Loc) (ls : Array Slot), hW D dA classes b0 (nx + dn) h9 H → va_S (hA b0) s.heap H locs → lv_has ls 4 [] → W p l e room_1 s m #[Value.ref a0] below meth c H locs (cells + dn) (slots + ds) (lw_Z below #[Value.ref a0] s) (F0 m 149 ls [])) → (q9 = .inr (.inr (.inl ())) → ∀ (H : Heap) (locs : List Loc) (ls : Array Slot), hW D dA classes b0 (nx + dn) h9 H → va_S (hA b0) s.heap H locs → lv_has ls 4 [] → W p l e room_1 s m #[Value.ref a0] below meth c H locs (cells + dn) (slots + ds) (lw_Z below #[Value.ref a0] s) (F0 m 182 ls [])) → (q9 = .inr (.inr (.inr (.inl ()))) → ∀ (H : Heap) (locs : List Loc) (ls : Array Slot), hW D dA classes b0 (nx + dn) h9 H → va_S (hA b0) s.heap H locs → lv_has ls 4 [] → W p l e room_1 s m #[Value.ref a0] below meth c H locs (cells + dn) (slots + ds) (lw_Z below #[Value.ref a0] s) (F0 m 225 ls [])) → (q9 = .inr (.inr (.inr (.inr (.inl ())))) → ∀ (H : Heap) (locs : List Loc) (ls : Array Slot), hW D dA classes b0 (nx + dn) h9 H → va_S (hA b0) s.heap H locs → lv_has ls 4 [] → W p l e room_1 s m #[Value.ref a0] below meth c H locs (cells + dn) (slots + ds) (lw_Z below #[Value.ref a0] s) (F0 m 248 ls [])) → (q9 = .inr (.inr (.inr (.inr (.inr (.inl ()))))) → ∀ (H : Heap) (locs : List Loc) (ls : Array Slot), hW D dA classes b0 (nx + dn) h9 H → va_S (hA b0) s.heap H locs → lv_has ls 4 [] → W p l e room_1 s m #[Value.ref a0] below meth c H locs (cells + dn) (slots + ds) (lw_Z below #[Value.ref a0] s) (F0 m 287 ls [])) → (q9 = .inr (.inr (.inr (.inr (.inr (.inr (.inl ())))))) → ∀ (H : Heap) (locs : List Loc) (ls : Array Slot), hW D dA classes b0 (nx + dn) h9 H → va_S (hA b0) s.heap H locs → lv_has ls 4 [] → W p l e room_1 s m #[Value.ref a0] below meth c H locs (cells + dn) (slots + ds) (lw_Z below #[Value.ref a0] s) (F0 m 310 ls [])) → (q9 = .inr (.inr (.inr (.inr (.inr (.inr (.inr (.inl ()))))))) → ∀ (H : Heap) (locs : List Loc) (ls : Array Slot), hW D dA classes b0 (nx + dn) h9 H → va_S (hA b0) s.heap H locs → lv_has ls 4 [] → W p l e room_1 s m #[Value.ref a0] below meth c H locs (cells + dn) (slots + ds) (lw_Z below #[Value.ref a0] s) (F0 m 333 ls [])) → (q9 = .inr (.inr (.inr (.inr (.inr (.inr (.inr (.inr (.inl ())))))))) → ∀ (H : Heap) (locs : List Loc) (ls : Array Slot), hW D dA classes b0 (nx + dn) h9 H → va_S (hA b0) s.heap H locs → lv_has ls 4 [] → W p l e room_1 s m #[Value.ref a0] below meth c H locs (cells + dn) (slots + ds) (lw_Z below #[Value.ref a0] s) (F0 m 372 ls [])) → (q9 = .inr (.inr (.inr (.inr (.inr (.inr (.inr (.inr (.inr (.inl ()))))))))) → ∀ (H : Heap) (locs : List Loc) (ls : Array Slot), hW D dA classes b0 (nx + dn) h9 H → va_S (hA b0) s.heap H locs → lv_has ls 4 [] → W p l e room_1 s m #[Value.ref a0] below meth c H locs (cells + dn) (slots + ds) (lw_Z below #[Value.ref a0] s) (F0 m 395 ls [])) → (q9 = .inr (.inr (.inr (.inr (.inr (.inr (.inr (.inr (.inr (.inr (.inl ())))))))))) → ∀ (H : Heap) (locs : List Loc) (ls : Array Slot), hW D dA classes b0 (nx + dn) h9 H → va_S (hA b0) s.heap H locs → lv_has ls 4 [] → W p l e room_1 s m #[Value.ref a0] below meth c H locs (cells + dn) (slots + ds) (lw_Z below #[Value.ref a0] s) (F0 m 428 ls [])) → (q9 = .inr (.inr (.inr (.inr (.inr (.inr (.inr (.inr (.inr (.inr (.inr (.inl ()))))))))))) → ∀ (H : Heap) (locs : List Loc) (ls : Array Slot), hW D dA classes b0 (nx + dn) h9 H → va_S (hA b0) s.heap H locs → lv_has ls 4 [] → W p l e room_1 s m #[Value.ref a0] below meth c H locs (cells + dn) (slots + ds) (lw_Z below #[Value.ref a0] s) (F0 m 451 ls [])) → (q9 = .inr (.inr (.inr (.inr (.inr (.inr (.inr (.inr (.inr (.inr (.inr (.inr (.inl ())))))))))))) → ∀ (H : Heap) (locs : List Loc) (ls : Array Slot), hW D dA classes b0 (nx + dn) h9 H → va_S (hA b0) s.heap H locs → lv_has ls 4 [] → W p l e room_1 s m #[Value.ref a0] below meth c H locs (cells + dn) (slots + ds) (lw_Z below #[Value.ref a0] s) (F0 m 474 ls [])) → (q9 = .inr (.inr (.inr (.inr (.inr (.inr (.inr (.inr (.inr (.inr (.inr (.inr (.inr (()))))))))))))) → ∀ (H : Heap) (locs : List Loc) (ls : Array Slot), hW D dA classes b0 (nx + dn) h9 H → va_S (hA b0) s.heap H locs → lv_has ls 4 [] → W p l e room_1 s m #[Value.ref a0] below meth c H locs (cells + dn) (slots + ds) (lw_Z below #[Value.ref a0] s) (F0 m 482 ls [])) → W p l e room_1 s m #[Value.ref a0] below meth c H locs cells slots (lw_Z below #[Value.ref a0] s) (F0 m 281 ls [.int y2, va_rf y1, .int y0]) := by
        intro x1 x2 x3 y0 y1 y2 q9 h9 cells slots dn ds nx h H locs ls hrun hcB hsB hw hS hl k0 k1 k2 k3 k4 k5 k6 k7 k8 k9 k10 k11 k12 k13
        unfold f_MacroExpandLaw_law_j281 at hrun
        have hcR : cells + dn = cells + dn := rfl
        have hsR : slots + ds = slots + ds := rfl
        have hnR : nx + dn = nx + dn := rfl
        replace hrun := hb_some hrun
        obtain ⟨p281, rfl, hrun⟩ := hrun
        replace hrun := hb_some hrun
        obtain ⟨c281, k281, hrun⟩ := hrun
        replace hrun := hbW_some hrun
        obtain ⟨v281, h281, g281, hrun⟩ := hrun
        refine h_ci (h_runV S (As := [.int y2]) (rest := [.int y0]) (c_MacroExpandModel_expand l D dA b0 n p281 y2 nx g281) (cwV 1 S.2.2.2.2 (h_good _ (h_in4 ml_MacroExpandLaw_44 im_MacroExpandModel_expand se_MacroExpandModel_expand it_MacroExpandModel) cd_MacroExpandModel_expand) rfl rfl rfl (by decide +kernel) ⟨Nat.le_of_ble_eq_true rfl, Nat.le_of_ble_eq_true rfl⟩) hK hN hw (ci := 1) rfl k281 rfl hl.1 (lv_room (Nat.le_of_ble_eq_true rfl)) d_MacroExpandLaw_law_281 ⟨show cells + 0 ≤ 600000 by omega, show slots + 0 ≤ 7302250 by omega⟩) hS (fun H locs hw hS => ?_)
        refine lv_icmp_eq (tgt := 476) hx hb d_MacroExpandLaw_law_284 (by decide) (fun c284 => ?_) (fun c284 => ?_)
        · rw [if_pos c284] at hrun
          exact j_476 x1 x2 x3 _ _ cells slots _ _ nx h281 _ _ _ hrun (by omega) (by omega) hw hS (lv_sub hl [0, 1, 2, 3] rfl) k0 k1 k2 k3 k4 k5 k6 k7 k8 k9 k10 k11 k12 k13
        · rw [if_neg c284] at hrun
          cases hrun
          exact W.widen (by omega) (by omega) (k5  rfl H locs ls hw hS (lv_sub hl [] rfl))
      have j_264 : ∀  (x1 : Option Nat) (x2 : Option Nat) (x3 : Int32) (y0 : Option Nat) (y1 : Int32) (q9 : (Int32) ⊕ ((Unit) ⊕ (Unit) ⊕ (Unit) ⊕ (Unit) ⊕ (Unit) ⊕ (Unit) ⊕ (Unit) ⊕ (Unit) ⊕ (Unit) ⊕ (Unit) ⊕ (Unit) ⊕ (Unit) ⊕ (Unit))) (h9 : hH) (cells slots dn ds nx : Nat) (h : hH) (H : Heap) (locs : List Loc) (ls : Array Slot), f_MacroExpandLaw_law_j264 n L xs x1 x2 x3 y0 y1 nx h = some (q9, dn, ds, h9) → cells + dn ≤ dnZ → slots + ds ≤ dsZ → hW D dA classes b0 nx h H → va_S (hA b0) s.heap H locs → lv_has ls 4 [(0, .ref a0), (1, va_rf x1), (2, va_rf x2), (3, .int x3)] → (∀ (z3 : Int32), q9 = .inl z3 → ∀ (H : Heap) (locs : List Loc) (ls : Array Slot), hW D dA classes b0 (nx + dn) h9 H → va_S (hA b0) s.heap H locs → lv_has ls 4 [(0, .ref a0), (1, va_rf x1), (2, va_rf x2), (3, .int z3)] → W p l e room_1 s m #[Value.ref a0] below meth c H locs (cells + dn) (slots + ds) (lw_Z below #[Value.ref a0] s) (F0 m 30 ls [])) → (q9 = .inr (.inl ()) → ∀ (H : Heap) (locs : List Loc) (ls : Array Slot), hW D dA classes b0 (nx + dn) h9 H → va_S (hA b0) s.heap H locs → lv_has ls 4 [] → W p l e room_1 s m #[Value.ref a0] below meth c H locs (cells + dn) (slots + ds) (lw_Z below #[Value.ref a0] s) (F0 m 149 ls [])) → (q9 = .inr (.inr (.inl ())) → ∀ (H : Heap) (locs : List Loc) (ls : Array Slot), hW D dA classes b0 (nx + dn) h9 H → va_S (hA b0) s.heap H locs → lv_has ls 4 [] → W p l e room_1 s m #[Value.ref a0] below meth c H locs (cells + dn) (slots + ds) (lw_Z below #[Value.ref a0] s) (F0 m 182 ls [])) → (q9 = .inr (.inr (.inr (.inl ()))) → ∀ (H : Heap) (locs : List Loc) (ls : Array Slot), hW D dA classes b0 (nx + dn) h9 H → va_S (hA b0) s.heap H locs → lv_has ls 4 [] → W p l e room_1 s m #[Value.ref a0] below meth c H locs (cells + dn) (slots + ds) (lw_Z below #[Value.ref a0] s) (F0 m 225 ls [])) → (q9 = .inr (.inr (.inr (.inr (.inl ())))) → ∀ (H : Heap) (locs : List Loc) (ls : Array Slot), hW D dA classes b0 (nx + dn) h9 H → va_S (hA b0) s.heap H locs → lv_has ls 4 [] → W p l e room_1 s m #[Value.ref a0] below meth c H locs (cells + dn) (slots + ds) (lw_Z below #[Value.ref a0] s) (F0 m 248 ls [])) → (q9 = .inr (.inr (.inr (.inr (.inr (.inl ()))))) → ∀ (H : Heap) (locs : List Loc) (ls : Array Slot), hW D dA classes b0 (nx + dn) h9 H → va_S (hA b0) s.heap H locs → lv_has ls 4 [] → W p l e room_1 s m #[Value.ref a0] below meth c H locs (cells + dn) (slots + ds) (lw_Z below #[Value.ref a0] s) (F0 m 287 ls [])) → (q9 = .inr (.inr (.inr (.inr (.inr (.inr (.inl ())))))) → ∀ (H : Heap) (locs : List Loc) (ls : Array Slot), hW D dA classes b0 (nx + dn) h9 H → va_S (hA b0) s.heap H locs → lv_has ls 4 [] → W p l e room_1 s m #[Value.ref a0] below meth c H locs (cells + dn) (slots + ds) (lw_Z below #[Value.ref a0] s) (F0 m 310 ls [])) → (q9 = .inr (.inr (.inr (.inr (.inr (.inr (.inr (.inl ()))))))) → ∀ (H : Heap) (locs : List Loc) (ls : Array Slot), hW D dA classes b0 (nx + dn) h9 H → va_S (hA b0) s.heap H locs → lv_has ls 4 [] → W p l e room_1 s m #[Value.ref a0] below meth c H locs (cells + dn) (slots + ds) (lw_Z below #[Value.ref a0] s) (F0 m 333 ls [])) → (q9 = .inr (.inr (.inr (.inr (.inr (.inr (.inr (.inr (.inl ())))))))) → ∀ (H : Heap) (locs : List Loc) (ls : Array Slot), hW D dA classes b0 (nx + dn) h9 H → va_S (hA b0) s.heap H locs → lv_has ls 4 [] → W p l e room_1 s m #[Value.ref a0] below meth c H locs (cells + dn) (slots + ds) (lw_Z below #[Value.ref a0] s) (F0 m 372 ls [])) → (q9 = .inr (.inr (.inr (.inr (.inr (.inr (.inr (.inr (.inr (.inl ()))))))))) → ∀ (H : Heap) (locs : List Loc) (ls : Array Slot), hW D dA classes b0 (nx + dn) h9 H → va_S (hA b0) s.heap H locs → lv_has ls 4 [] → W p l e room_1 s m #[Value.ref a0] below meth c H locs (cells + dn) (slots + ds) (lw_Z below #[Value.ref a0] s) (F0 m 395 ls [])) → (q9 = .inr (.inr (.inr (.inr (.inr (.inr (.inr (.inr (.inr (.inr (.inl ())))))))))) → ∀ (H : Heap) (locs : List Loc) (ls : Array Slot), hW D dA classes b0 (nx + dn) h9 H → va_S (hA b0) s.heap H locs → lv_has ls 4 [] → W p l e room_1 s m #[Value.ref a0] below meth c H locs (cells + dn) (slots + ds) (lw_Z below #[Value.ref a0] s) (F0 m 428 ls [])) → (q9 = .inr (.inr (.inr (.inr (.inr (.inr (.inr (.inr (.inr (.inr (.inr (.inl ()))))))))))) → ∀ (H : Heap) (locs : List Loc) (ls : Array Slot), hW D dA classes b0 (nx + dn) h9 H → va_S (hA b0) s.heap H locs → lv_has ls 4 [] → W p l e room_1 s m #[Value.ref a0] below meth c H locs (cells + dn) (slots + ds) (lw_Z below #[Value.ref a0] s) (F0 m 451 ls [])) → (q9 = .inr (.inr (.inr (.inr (.inr (.inr (.inr (.inr (.inr (.inr (.inr (.inr (.inl ())))))))))))) → ∀ (H : Heap) (locs : List Loc) (ls : Array Slot), hW D dA classes b0 (nx + dn) h9 H → va_S (hA b0) s.heap H locs → lv_has ls 4 [] → W p l e room_1 s m #[Value.ref a0] below meth c H locs (cells + dn) (slots + ds) (lw_Z below #[Value.ref a0] s) (F0 m 474 ls [])) → (q9 = .inr (.inr (.inr (.inr (.inr (.inr (.inr (.inr (.inr (.inr (.inr (.inr (.inr (()))))))))))))) → ∀ (H : Heap) (locs : List Loc) (ls : Array Slot), hW D dA classes b0 (nx + dn) h9 H → va_S (hA b0) s.heap H locs → lv_has ls 4 [] → W p l e room_1 s m #[Value.ref a0] below meth c H locs (cells + dn) (slots + ds) (lw_Z below #[Value.ref a0] s) (F0 m 482 ls [])) → W p l e room_1 s m #[Value.ref a0] below meth c H locs cells slots (lw_Z below #[Value.ref a0] s) (F0 m 264 ls [.int y1, va_rf y0]) := by
        intro x1 x2 x3 y0 y1 q9 h9 cells slots dn ds nx h H locs ls hrun hcB hsB hw hS hl k0 k1 k2 k3 k4 k5 k6 k7 k8 k9 k10 k11 k12 k13
        unfold f_MacroExpandLaw_law_j264 at hrun
        have hcR : cells + dn = cells + dn := rfl
        have hsR : slots + ds = slots + ds := rfl
        have hnR : nx + dn = nx + dn := rfl
        replace hrun := hb_some hrun
        obtain ⟨p264, rfl, hrun⟩ := hrun
        replace hrun := hb_some hrun
        obtain ⟨c264, k264, hrun⟩ := hrun
        replace hrun := hbind_some hrun
        obtain ⟨v264, d264, s264, h264, dn264, ds264, g264, hrun, en264, es264⟩ := hrun
        refine h_ci (h_runV S (As := [.int y1]) (rest := []) (c_MacroExpand_expand l D dA b0 n p264 y1 nx g264) (cwV 1 S.2.2.2.2 (h_good _ (h_in4 ml_MacroExpandLaw_40 im_MacroExpand_expand se_MacroExpand_expand it_MacroExpand) cd_MacroExpand_expand) rfl rfl rfl (by decide +kernel) ⟨Nat.le_of_ble_eq_true rfl, Nat.le_of_ble_eq_true rfl⟩) hK hN hw (ci := 0) rfl k264 rfl hl.1 (lv_room (Nat.le_of_ble_eq_true rfl)) d_MacroExpandLaw_law_264 ⟨show cells + d264 ≤ 600000 by omega, show slots + s264 ≤ 7302250 by omega⟩) hS (fun H locs hw hS => ?_)
        obtain ⟨nx264, ex264⟩ : ∃ z, z = nx + d264 := ⟨_, rfl⟩
        rw [← ex264] at hw
        try rw [← ex264] at hrun
        replace hcR : (cells + d264) + dn264 = cells + dn := by omega
        replace hsR : (slots + s264) + ds264 = slots + ds := by omega
        replace hnR : nx264 + dn264 = nx + dn := by omega
        clear en264 es264 ex264
        refine h_aload_n hx hb d_MacroExpandLaw_law_267 rfl (lv_at hl 2 rfl) ?_
        refine lv_aload_n hx hb d_MacroExpandLaw_law_268 rfl (lv_at hl 0 rfl) ?_
        refine lv_iload_n hx hb d_MacroExpandLaw_law_269 rfl (lv_at hl 3 rfl) ?_
        refine lv_iconst (v := (1 : Int32)) hx hb d_MacroExpandLaw_law_270 (by decide) ?_
        refine lv_iadd hx hb d_MacroExpandLaw_law_271 ?_
        replace hrun := hb_some hrun
        obtain ⟨v272, g272, hrun⟩ := hrun
        refine h_sld S hX hbl hbA hS g272 d_MacroExpandLaw_law_272 ?_
        refine lv_if_eq (tgt := 280) hx hb d_MacroExpandLaw_law_273 (by decide) (fun c273 => ?_) (fun c273 => ?_)
        · rw [if_pos c273] at hrun
          refine lv_iconst (v := (0 : Int32)) hx hb d_MacroExpandLaw_law_280 (by decide) ?_
          exact j_281 x1 x2 x3 v264 x2 (0 : Int32) _ _ (cells + d264) (slots + s264) _ _ nx264 h264 _ _ _ hrun (by omega) (by omega) hw hS (lv_sub hl [0, 1, 2, 3] rfl) (by have q := k0; rw [show nx + dn = nx264 + dn264 by omega, show cells + dn = (cells + d264) + dn264 by omega, show slots + ds = (slots + s264) + ds264 by omega] at q; exact q) (by have q := k1; rw [show nx + dn = nx264 + dn264 by omega, show cells + dn = (cells + d264) + dn264 by omega, show slots + ds = (slots + s264) + ds264 by omega] at q; exact q) (by have q := k2; rw [show nx + dn = nx264 + dn264 by omega, show cells + dn = (cells + d264) + dn264 by omega, show slots + ds = (slots + s264) + ds264 by omega] at q; exact q) (by have q := k3; rw [show nx + dn = nx264 + dn264 by omega, show cells + dn = (cells + d264) + dn264 by omega, show slots + ds = (slots + s264) + ds264 by omega] at q; exact q) (by have q := k4; rw [show nx + dn = nx264 + dn264 by omega, show cells + dn = (cells + d264) + dn264 by omega, show slots + ds = (slots + s264) + ds264 by omega] at q; exact q) (by have q := k5; rw [show nx + dn = nx264 + dn264 by omega, show cells + dn = (cells + d264) + dn264 by omega, show slots + ds = (slots + s264) + ds264 by omega] at q; exact q) (by have q := k6; rw [show nx + dn = nx264 + dn264 by omega, show cells + dn = (cells + d264) + dn264 by omega, show slots + ds = (slots + s264) + ds264 by omega] at q; exact q) (by have q := k7; rw [show nx + dn = nx264 + dn264 by omega, show cells + dn = (cells + d264) + dn264 by omega, show slots + ds = (slots + s264) + ds264 by omega] at q; exact q) (by have q := k8; rw [show nx + dn = nx264 + dn264 by omega, show cells + dn = (cells + d264) + dn264 by omega, show slots + ds = (slots + s264) + ds264 by omega] at q; exact q) (by have q := k9; rw [show nx + dn = nx264 + dn264 by omega, show cells + dn = (cells + d264) + dn264 by omega, show slots + ds = (slots + s264) + ds264 by omega] at q; exact q) (by have q := k10; rw [show nx + dn = nx264 + dn264 by omega, show cells + dn = (cells + d264) + dn264 by omega, show slots + ds = (slots + s264) + ds264 by omega] at q; exact q) (by have q := k11; rw [show nx + dn = nx264 + dn264 by omega, show cells + dn = (cells + d264) + dn264 by omega, show slots + ds = (slots + s264) + ds264 by omega] at q; exact q) (by have q := k12; rw [show nx + dn = nx264 + dn264 by omega, show cells + dn = (cells + d264) + dn264 by omega, show slots + ds = (slots + s264) + ds264 by omega] at q; exact q) (by have q := k13; rw [show nx + dn = nx264 + dn264 by omega, show cells + dn = (cells + d264) + dn264 by omega, show slots + ds = (slots + s264) + ds264 by omega] at q; exact q)
        · rw [if_neg c273] at hrun
          refine lv_iconst (v := (1 : Int32)) hx hb d_MacroExpandLaw_law_276 (by decide) ?_
          refine lv_goto (tgt := 281) hx hb d_MacroExpandLaw_law_277 (by decide) ?_
          exact j_281 x1 x2 x3 v264 x2 (1 : Int32) _ _ (cells + d264) (slots + s264) _ _ nx264 h264 _ _ _ hrun (by omega) (by omega) hw hS (lv_sub hl [0, 1, 2, 3] rfl) (by have q := k0; rw [show nx + dn = nx264 + dn264 by omega, show cells + dn = (cells + d264) + dn264 by omega, show slots + ds = (slots + s264) + ds264 by omega] at q; exact q) (by have q := k1; rw [show nx + dn = nx264 + dn264 by omega, show cells + dn = (cells + d264) + dn264 by omega, show slots + ds = (slots + s264) + ds264 by omega] at q; exact q) (by have q := k2; rw [show nx + dn = nx264 + dn264 by omega, show cells + dn = (cells + d264) + dn264 by omega, show slots + ds = (slots + s264) + ds264 by omega] at q; exact q) (by have q := k3; rw [show nx + dn = nx264 + dn264 by omega, show cells + dn = (cells + d264) + dn264 by omega, show slots + ds = (slots + s264) + ds264 by omega] at q; exact q) (by have q := k4; rw [show nx + dn = nx264 + dn264 by omega, show cells + dn = (cells + d264) + dn264 by omega, show slots + ds = (slots + s264) + ds264 by omega] at q; exact q) (by have q := k5; rw [show nx + dn = nx264 + dn264 by omega, show cells + dn = (cells + d264) + dn264 by omega, show slots + ds = (slots + s264) + ds264 by omega] at q; exact q) (by have q := k6; rw [show nx + dn = nx264 + dn264 by omega, show cells + dn = (cells + d264) + dn264 by omega, show slots + ds = (slots + s264) + ds264 by omega] at q; exact q) (by have q := k7; rw [show nx + dn = nx264 + dn264 by omega, show cells + dn = (cells + d264) + dn264 by omega, show slots + ds = (slots + s264) + ds264 by omega] at q; exact q) (by have q := k8; rw [show nx + dn = nx264 + dn264 by omega, show cells + dn = (cells + d264) + dn264 by omega, show slots + ds = (slots + s264) + ds264 by omega] at q; exact q) (by have q := k9; rw [show nx + dn = nx264 + dn264 by omega, show cells + dn = (cells + d264) + dn264 by omega, show slots + ds = (slots + s264) + ds264 by omega] at q; exact q) (by have q := k10; rw [show nx + dn = nx264 + dn264 by omega, show cells + dn = (cells + d264) + dn264 by omega, show slots + ds = (slots + s264) + ds264 by omega] at q; exact q) (by have q := k11; rw [show nx + dn = nx264 + dn264 by omega, show cells + dn = (cells + d264) + dn264 by omega, show slots + ds = (slots + s264) + ds264 by omega] at q; exact q) (by have q := k12; rw [show nx + dn = nx264 + dn264 by omega, show cells + dn = (cells + d264) + dn264 by omega, show slots + ds = (slots + s264) + ds264 by omega] at q; exact q) (by have q := k13; rw [show nx + dn = nx264 + dn264 by omega, show cells + dn = (cells + d264) + dn264 by omega, show slots + ds = (slots + s264) + ds264 by omega] at q; exact q)
      dsimp only [f_MacroExpandLaw_law_b30] at hrun
      have hcR : cells + dnb = cells + dnb := rfl
      have hsR : slots + dsb = slots + dsb := rfl
      have hnR : nx + dnb = nx + dnb := rfl
      refine lv_iload_n hx hb d_MacroExpandLaw_law_30 rfl (lv_at hl 3 rfl) ?_
      refine lv_aload_n hx hb d_MacroExpandLaw_law_31 rfl (lv_at hl 0 rfl) ?_
      refine h_slen S hX hbl hbA hS d_MacroExpandLaw_law_32 ?_
      refine lv_iconst (v := (4 : Int32)) hx hb d_MacroExpandLaw_law_33 (by decide) ?_
      refine lv_isub hx hb d_MacroExpandLaw_law_34 ?_
      refine lv_icmp_gt (tgt := 482) hx hb d_MacroExpandLaw_law_35 (by decide) (fun c35 => ?_) (fun c35 => ?_)
      · rw [if_pos c35] at hrun
        cases hrun
        exact W.widen (by omega) (by omega) (K13  rfl H locs ls hw hS (lv_sub hl [] rfl))
      · rw [if_neg c35] at hrun
        refine lv_aload_n hx hb d_MacroExpandLaw_law_38 rfl (lv_at hl 0 rfl) ?_
        refine lv_iload_n hx hb d_MacroExpandLaw_law_39 rfl (lv_at hl 3 rfl) ?_
        replace hrun := hb_some hrun
        obtain ⟨v40, g40, hrun⟩ := hrun
        refine h_sld S hX hbl hbA hS g40 d_MacroExpandLaw_law_40 ?_
        refine lv_bipush (v := (15 : Int32)) hx hb d_MacroExpandLaw_law_41 (by decide) ?_
        refine lv_iand hx hb d_MacroExpandLaw_law_43 ?_
        by_cases e44_0 : (v40 &&& (15 : Int32)) = (0 : Int32)
        · rw [if_pos e44_0] at hrun
          refine lv_tableIn (off := 64) (tgt := 108) hx hb d_MacroExpandLaw_law_44 (by rw [e44_0]; decide) (by rw [e44_0]; decide) (by rw [e44_0]; decide) (by decide) ?_
          refine h_aload_n hx hb d_MacroExpandLaw_law_108 rfl (lv_at hl 1 rfl) ?_
          refine lv_aload_n hx hb d_MacroExpandLaw_law_109 rfl (lv_at hl 0 rfl) ?_
          refine lv_iload_n hx hb d_MacroExpandLaw_law_110 rfl (lv_at hl 3 rfl) ?_
          refine lv_iconst (v := (1 : Int32)) hx hb d_MacroExpandLaw_law_111 (by decide) ?_
          refine lv_iadd hx hb d_MacroExpandLaw_law_112 ?_
          replace hrun := hb_some hrun
          obtain ⟨v113, g113, hrun⟩ := hrun
          refine h_sld S hX hbl hbA hS g113 d_MacroExpandLaw_law_113 ?_
          refine lv_aload_n hx hb d_MacroExpandLaw_law_114 rfl (lv_at hl 0 rfl) ?_
          refine lv_iload_n hx hb d_MacroExpandLaw_law_115 rfl (lv_at hl 3 rfl) ?_
          refine lv_iconst (v := (2 : Int32)) hx hb d_MacroExpandLaw_law_116 (by decide) ?_
          refine lv_iadd hx hb d_MacroExpandLaw_law_117 ?_
          replace hrun := hb_some hrun
          obtain ⟨v118, g118, hrun⟩ := hrun
          refine h_sld S hX hbl hbA hS g118 d_MacroExpandLaw_law_118 ?_
          refine lv_aload_n hx hb d_MacroExpandLaw_law_119 rfl (lv_at hl 0 rfl) ?_
          refine lv_iload_n hx hb d_MacroExpandLaw_law_120 rfl (lv_at hl 3 rfl) ?_
          refine lv_iconst (v := (3 : Int32)) hx hb d_MacroExpandLaw_law_121 (by decide) ?_
          refine lv_iadd hx hb d_MacroExpandLaw_law_122 ?_
          replace hrun := hb_some hrun
          obtain ⟨v123, g123, hrun⟩ := hrun
          refine h_sld S hX hbl hbA hS g123 d_MacroExpandLaw_law_123 ?_
          replace hrun := hb_some hrun
          obtain ⟨p124, rfl, hrun⟩ := hrun
          replace hrun := hb_some hrun
          obtain ⟨c124, k124, hrun⟩ := hrun
          replace hrun := hbind_some hrun
          obtain ⟨v124, d124, s124, h124, dn124, ds124, g124, hrun, en124, es124⟩ := hrun
          refine h_ci (h_runV S (As := [.int v113, .int v118, .int v123]) (rest := []) (c_MacroExpand_define l D dA b0 n p124 v113 v118 v123 nx g124) (cwV 3 S.2.2.2.2 (h_good _ (h_in4 ml_MacroExpandLaw_21 im_MacroExpand_define se_MacroExpand_define it_MacroExpand) cd_MacroExpand_define) rfl rfl rfl (by decide +kernel) ⟨Nat.le_of_ble_eq_true rfl, Nat.le_of_ble_eq_true rfl⟩) hK hN hw (ci := 0) rfl k124 rfl hl.1 (lv_room (Nat.le_of_ble_eq_true rfl)) d_MacroExpandLaw_law_124 ⟨show cells + d124 ≤ 600000 by omega, show slots + s124 ≤ 7302250 by omega⟩) hS (fun H locs hw hS => ?_)
          obtain ⟨nx124, ex124⟩ : ∃ z, z = nx + d124 := ⟨_, rfl⟩
          rw [← ex124] at hw
          try rw [← ex124] at hrun
          replace hcR : (cells + d124) + dn124 = cells + dnb := by omega
          replace hsR : (slots + s124) + ds124 = slots + dsb := by omega
          replace hnR : nx124 + dn124 = nx + dnb := by omega
          clear en124 es124 ex124
          refine h_aload_n hx hb d_MacroExpandLaw_law_127 rfl (lv_at hl 2 rfl) ?_
          refine lv_aload_n hx hb d_MacroExpandLaw_law_128 rfl (lv_at hl 0 rfl) ?_
          refine lv_iload_n hx hb d_MacroExpandLaw_law_129 rfl (lv_at hl 3 rfl) ?_
          refine lv_iconst (v := (1 : Int32)) hx hb d_MacroExpandLaw_law_130 (by decide) ?_
          refine lv_iadd hx hb d_MacroExpandLaw_law_131 ?_
          replace hrun := hb_some hrun
          obtain ⟨v132, g132, hrun⟩ := hrun
          refine h_sld S hX hbl hbA hS g132 d_MacroExpandLaw_law_132 ?_
          refine lv_aload_n hx hb d_MacroExpandLaw_law_133 rfl (lv_at hl 0 rfl) ?_
          refine lv_iload_n hx hb d_MacroExpandLaw_law_134 rfl (lv_at hl 3 rfl) ?_
          refine lv_iconst (v := (2 : Int32)) hx hb d_MacroExpandLaw_law_135 (by decide) ?_
          refine lv_iadd hx hb d_MacroExpandLaw_law_136 ?_
          replace hrun := hb_some hrun
          obtain ⟨v137, g137, hrun⟩ := hrun
          refine h_sld S hX hbl hbA hS g137 d_MacroExpandLaw_law_137 ?_
          refine lv_aload_n hx hb d_MacroExpandLaw_law_138 rfl (lv_at hl 0 rfl) ?_
          refine lv_iload_n hx hb d_MacroExpandLaw_law_139 rfl (lv_at hl 3 rfl) ?_
          refine lv_iconst (v := (3 : Int32)) hx hb d_MacroExpandLaw_law_140 (by decide) ?_
          refine lv_iadd hx hb d_MacroExpandLaw_law_141 ?_
          replace hrun := hb_some hrun
          obtain ⟨v142, g142, hrun⟩ := hrun
          refine h_sld S hX hbl hbA hS g142 d_MacroExpandLaw_law_142 ?_
          replace hrun := hb_some hrun
          obtain ⟨p143, rfl, hrun⟩ := hrun
          replace hrun := hb_some hrun
          obtain ⟨c143, k143, hrun⟩ := hrun
          replace hrun := hbW_some hrun
          obtain ⟨v143, h143, g143, hrun⟩ := hrun
          refine h_ci (h_runV S (As := [.int v132, .int v137, .int v142]) (rest := [.int v124]) (c_MacroExpandModel_define l D dA b0 n p143 v132 v137 v142 nx124 g143) (cwV 3 S.2.2.2.2 (h_good _ (h_in4 ml_MacroExpandLaw_25 im_MacroExpandModel_define se_MacroExpandModel_define it_MacroExpandModel) cd_MacroExpandModel_define) rfl rfl rfl (by decide +kernel) ⟨Nat.le_of_ble_eq_true rfl, Nat.le_of_ble_eq_true rfl⟩) hK hN hw (ci := 1) rfl k143 rfl hl.1 (lv_room (Nat.le_of_ble_eq_true rfl)) d_MacroExpandLaw_law_143 ⟨show (cells + d124) + 0 ≤ 600000 by omega, show (slots + s124) + 0 ≤ 7302250 by omega⟩) hS (fun H locs hw hS => ?_)
          refine lv_icmp_eq (tgt := 476) hx hb d_MacroExpandLaw_law_146 (by decide) (fun c146 => ?_) (fun c146 => ?_)
          · rw [if_pos c146] at hrun
            exact j_476 (some p124) (some p143) x3 _ _ (cells + d124) (slots + s124) _ _ nx124 h143 _ _ _ hrun (by omega) (by omega) hw hS (lv_sub hl [0, 1, 2, 3] rfl) (by have q := K0; rw [show nx + dnb = nx124 + dn124 by omega, show cells + dnb = (cells + d124) + dn124 by omega, show slots + dsb = (slots + s124) + ds124 by omega] at q; exact q) (by have q := K1; rw [show nx + dnb = nx124 + dn124 by omega, show cells + dnb = (cells + d124) + dn124 by omega, show slots + dsb = (slots + s124) + ds124 by omega] at q; exact q) (by have q := K2; rw [show nx + dnb = nx124 + dn124 by omega, show cells + dnb = (cells + d124) + dn124 by omega, show slots + dsb = (slots + s124) + ds124 by omega] at q; exact q) (by have q := K3; rw [show nx + dnb = nx124 + dn124 by omega, show cells + dnb = (cells + d124) + dn124 by omega, show slots + dsb = (slots + s124) + ds124 by omega] at q; exact q) (by have q := K4; rw [show nx + dnb = nx124 + dn124 by omega, show cells + dnb = (cells + d124) + dn124 by omega, show slots + dsb = (slots + s124) + ds124 by omega] at q; exact q) (by have q := K5; rw [show nx + dnb = nx124 + dn124 by omega, show cells + dnb = (cells + d124) + dn124 by omega, show slots + dsb = (slots + s124) + ds124 by omega] at q; exact q) (by have q := K6; rw [show nx + dnb = nx124 + dn124 by omega, show cells + dnb = (cells + d124) + dn124 by omega, show slots + dsb = (slots + s124) + ds124 by omega] at q; exact q) (by have q := K7; rw [show nx + dnb = nx124 + dn124 by omega, show cells + dnb = (cells + d124) + dn124 by omega, show slots + dsb = (slots + s124) + ds124 by omega] at q; exact q) (by have q := K8; rw [show nx + dnb = nx124 + dn124 by omega, show cells + dnb = (cells + d124) + dn124 by omega, show slots + dsb = (slots + s124) + ds124 by omega] at q; exact q) (by have q := K9; rw [show nx + dnb = nx124 + dn124 by omega, show cells + dnb = (cells + d124) + dn124 by omega, show slots + dsb = (slots + s124) + ds124 by omega] at q; exact q) (by have q := K10; rw [show nx + dnb = nx124 + dn124 by omega, show cells + dnb = (cells + d124) + dn124 by omega, show slots + dsb = (slots + s124) + ds124 by omega] at q; exact q) (by have q := K11; rw [show nx + dnb = nx124 + dn124 by omega, show cells + dnb = (cells + d124) + dn124 by omega, show slots + dsb = (slots + s124) + ds124 by omega] at q; exact q) (by have q := K12; rw [show nx + dnb = nx124 + dn124 by omega, show cells + dnb = (cells + d124) + dn124 by omega, show slots + dsb = (slots + s124) + ds124 by omega] at q; exact q) (by have q := K13; rw [show nx + dnb = nx124 + dn124 by omega, show cells + dnb = (cells + d124) + dn124 by omega, show slots + dsb = (slots + s124) + ds124 by omega] at q; exact q)
          · rw [if_neg c146] at hrun
            cases hrun
            rw [show nx124 = nx + dnb by omega] at hw
            exact W.widen (by omega) (by omega) (K1  rfl H locs ls hw hS (lv_sub hl [] rfl))
        rw [if_neg e44_0] at hrun
        by_cases e44_1 : (v40 &&& (15 : Int32)) = (1 : Int32)
        · rw [if_pos e44_1] at hrun
          refine lv_tableIn (off := 107) (tgt := 151) hx hb d_MacroExpandLaw_law_44 (by rw [e44_1]; decide) (by rw [e44_1]; decide) (by rw [e44_1]; decide) (by decide) ?_
          refine h_aload_n hx hb d_MacroExpandLaw_law_151 rfl (lv_at hl 1 rfl) ?_
          refine lv_aload_n hx hb d_MacroExpandLaw_law_152 rfl (lv_at hl 0 rfl) ?_
          refine lv_iload_n hx hb d_MacroExpandLaw_law_153 rfl (lv_at hl 3 rfl) ?_
          refine lv_iconst (v := (1 : Int32)) hx hb d_MacroExpandLaw_law_154 (by decide) ?_
          refine lv_iadd hx hb d_MacroExpandLaw_law_155 ?_
          replace hrun := hb_some hrun
          obtain ⟨v156, g156, hrun⟩ := hrun
          refine h_sld S hX hbl hbA hS g156 d_MacroExpandLaw_law_156 ?_
          refine lv_aload_n hx hb d_MacroExpandLaw_law_157 rfl (lv_at hl 0 rfl) ?_
          refine lv_iload_n hx hb d_MacroExpandLaw_law_158 rfl (lv_at hl 3 rfl) ?_
          refine lv_iconst (v := (2 : Int32)) hx hb d_MacroExpandLaw_law_159 (by decide) ?_
          refine lv_iadd hx hb d_MacroExpandLaw_law_160 ?_
          replace hrun := hb_some hrun
          obtain ⟨v161, g161, hrun⟩ := hrun
          refine h_sld S hX hbl hbA hS g161 d_MacroExpandLaw_law_161 ?_
          replace hrun := hb_some hrun
          obtain ⟨p162, rfl, hrun⟩ := hrun
          replace hrun := hb_some hrun
          obtain ⟨c162, k162, hrun⟩ := hrun
          replace hrun := hbind_some hrun
          obtain ⟨v162, d162, s162, h162, dn162, ds162, g162, hrun, en162, es162⟩ := hrun
          refine h_ci (h_runV S (As := [.int v156, .int v161]) (rest := []) (c_MacroExpand_body l D dA b0 p162 v156 v161 nx g162) (cwV 2 S.2.2.2.2 (h_good _ (h_in4 ml_MacroExpandLaw_26 im_MacroExpand_body se_MacroExpand_body it_MacroExpand) cd_MacroExpand_body) rfl rfl rfl (by decide +kernel) ⟨Nat.le_of_ble_eq_true rfl, Nat.le_of_ble_eq_true rfl⟩) hK hN hw (ci := 0) rfl k162 rfl hl.1 (lv_room (Nat.le_of_ble_eq_true rfl)) d_MacroExpandLaw_law_162 ⟨show cells + d162 ≤ 600000 by omega, show slots + s162 ≤ 7302250 by omega⟩) hS (fun H locs hw hS => ?_)
          obtain ⟨nx162, ex162⟩ : ∃ z, z = nx + d162 := ⟨_, rfl⟩
          rw [← ex162] at hw
          try rw [← ex162] at hrun
          replace hcR : (cells + d162) + dn162 = cells + dnb := by omega
          replace hsR : (slots + s162) + ds162 = slots + dsb := by omega
          replace hnR : nx162 + dn162 = nx + dnb := by omega
          clear en162 es162 ex162
          refine h_aload_n hx hb d_MacroExpandLaw_law_165 rfl (lv_at hl 2 rfl) ?_
          refine lv_aload_n hx hb d_MacroExpandLaw_law_166 rfl (lv_at hl 0 rfl) ?_
          refine lv_iload_n hx hb d_MacroExpandLaw_law_167 rfl (lv_at hl 3 rfl) ?_
          refine lv_iconst (v := (1 : Int32)) hx hb d_MacroExpandLaw_law_168 (by decide) ?_
          refine lv_iadd hx hb d_MacroExpandLaw_law_169 ?_
          replace hrun := hb_some hrun
          obtain ⟨v170, g170, hrun⟩ := hrun
          refine h_sld S hX hbl hbA hS g170 d_MacroExpandLaw_law_170 ?_
          refine lv_aload_n hx hb d_MacroExpandLaw_law_171 rfl (lv_at hl 0 rfl) ?_
          refine lv_iload_n hx hb d_MacroExpandLaw_law_172 rfl (lv_at hl 3 rfl) ?_
          refine lv_iconst (v := (2 : Int32)) hx hb d_MacroExpandLaw_law_173 (by decide) ?_
          refine lv_iadd hx hb d_MacroExpandLaw_law_174 ?_
          replace hrun := hb_some hrun
          obtain ⟨v175, g175, hrun⟩ := hrun
          refine h_sld S hX hbl hbA hS g175 d_MacroExpandLaw_law_175 ?_
          replace hrun := hb_some hrun
          obtain ⟨p176, rfl, hrun⟩ := hrun
          replace hrun := hb_some hrun
          obtain ⟨c176, k176, hrun⟩ := hrun
          replace hrun := hbW_some hrun
          obtain ⟨v176, h176, g176, hrun⟩ := hrun
          refine h_ci (h_runV S (As := [.int v170, .int v175]) (rest := [.int v162]) (c_MacroExpandModel_body l D dA b0 p176 v170 v175 nx162 g176) (cwV 2 S.2.2.2.2 (h_good _ (h_in4 ml_MacroExpandLaw_30 im_MacroExpandModel_body se_MacroExpandModel_body it_MacroExpandModel) cd_MacroExpandModel_body) rfl rfl rfl (by decide +kernel) ⟨Nat.le_of_ble_eq_true rfl, Nat.le_of_ble_eq_true rfl⟩) hK hN hw (ci := 1) rfl k176 rfl hl.1 (lv_room (Nat.le_of_ble_eq_true rfl)) d_MacroExpandLaw_law_176 ⟨show (cells + d162) + 0 ≤ 600000 by omega, show (slots + s162) + 0 ≤ 7302250 by omega⟩) hS (fun H locs hw hS => ?_)
          refine lv_icmp_eq (tgt := 476) hx hb d_MacroExpandLaw_law_179 (by decide) (fun c179 => ?_) (fun c179 => ?_)
          · rw [if_pos c179] at hrun
            exact j_476 (some p162) (some p176) x3 _ _ (cells + d162) (slots + s162) _ _ nx162 h176 _ _ _ hrun (by omega) (by omega) hw hS (lv_sub hl [0, 1, 2, 3] rfl) (by have q := K0; rw [show nx + dnb = nx162 + dn162 by omega, show cells + dnb = (cells + d162) + dn162 by omega, show slots + dsb = (slots + s162) + ds162 by omega] at q; exact q) (by have q := K1; rw [show nx + dnb = nx162 + dn162 by omega, show cells + dnb = (cells + d162) + dn162 by omega, show slots + dsb = (slots + s162) + ds162 by omega] at q; exact q) (by have q := K2; rw [show nx + dnb = nx162 + dn162 by omega, show cells + dnb = (cells + d162) + dn162 by omega, show slots + dsb = (slots + s162) + ds162 by omega] at q; exact q) (by have q := K3; rw [show nx + dnb = nx162 + dn162 by omega, show cells + dnb = (cells + d162) + dn162 by omega, show slots + dsb = (slots + s162) + ds162 by omega] at q; exact q) (by have q := K4; rw [show nx + dnb = nx162 + dn162 by omega, show cells + dnb = (cells + d162) + dn162 by omega, show slots + dsb = (slots + s162) + ds162 by omega] at q; exact q) (by have q := K5; rw [show nx + dnb = nx162 + dn162 by omega, show cells + dnb = (cells + d162) + dn162 by omega, show slots + dsb = (slots + s162) + ds162 by omega] at q; exact q) (by have q := K6; rw [show nx + dnb = nx162 + dn162 by omega, show cells + dnb = (cells + d162) + dn162 by omega, show slots + dsb = (slots + s162) + ds162 by omega] at q; exact q) (by have q := K7; rw [show nx + dnb = nx162 + dn162 by omega, show cells + dnb = (cells + d162) + dn162 by omega, show slots + dsb = (slots + s162) + ds162 by omega] at q; exact q) (by have q := K8; rw [show nx + dnb = nx162 + dn162 by omega, show cells + dnb = (cells + d162) + dn162 by omega, show slots + dsb = (slots + s162) + ds162 by omega] at q; exact q) (by have q := K9; rw [show nx + dnb = nx162 + dn162 by omega, show cells + dnb = (cells + d162) + dn162 by omega, show slots + dsb = (slots + s162) + ds162 by omega] at q; exact q) (by have q := K10; rw [show nx + dnb = nx162 + dn162 by omega, show cells + dnb = (cells + d162) + dn162 by omega, show slots + dsb = (slots + s162) + ds162 by omega] at q; exact q) (by have q := K11; rw [show nx + dnb = nx162 + dn162 by omega, show cells + dnb = (cells + d162) + dn162 by omega, show slots + dsb = (slots + s162) + ds162 by omega] at q; exact q) (by have q := K12; rw [show nx + dnb = nx162 + dn162 by omega, show cells + dnb = (cells + d162) + dn162 by omega, show slots + dsb = (slots + s162) + ds162 by omega] at q; exact q) (by have q := K13; rw [show nx + dnb = nx162 + dn162 by omega, show cells + dnb = (cells + d162) + dn162 by omega, show slots + dsb = (slots + s162) + ds162 by omega] at q; exact q)
          · rw [if_neg c179] at hrun
            cases hrun
            rw [show nx162 = nx + dnb by omega] at hw
            exact W.widen (by omega) (by omega) (K2  rfl H locs ls hw hS (lv_sub hl [] rfl))
        rw [if_neg e44_1] at hrun
        by_cases e44_2 : (v40 &&& (15 : Int32)) = (2 : Int32)
        · rw [if_pos e44_2] at hrun
          refine lv_tableIn (off := 140) (tgt := 184) hx hb d_MacroExpandLaw_law_44 (by rw [e44_2]; decide) (by rw [e44_2]; decide) (by rw [e44_2]; decide) (by decide) ?_
          refine h_aload_n hx hb d_MacroExpandLaw_law_184 rfl (lv_at hl 1 rfl) ?_
          refine lv_aload_n hx hb d_MacroExpandLaw_law_185 rfl (lv_at hl 0 rfl) ?_
          refine lv_iload_n hx hb d_MacroExpandLaw_law_186 rfl (lv_at hl 3 rfl) ?_
          refine lv_iconst (v := (1 : Int32)) hx hb d_MacroExpandLaw_law_187 (by decide) ?_
          refine lv_iadd hx hb d_MacroExpandLaw_law_188 ?_
          replace hrun := hb_some hrun
          obtain ⟨v189, g189, hrun⟩ := hrun
          refine h_sld S hX hbl hbA hS g189 d_MacroExpandLaw_law_189 ?_
          refine lv_aload_n hx hb d_MacroExpandLaw_law_190 rfl (lv_at hl 0 rfl) ?_
          refine lv_iload_n hx hb d_MacroExpandLaw_law_191 rfl (lv_at hl 3 rfl) ?_
          refine lv_iconst (v := (2 : Int32)) hx hb d_MacroExpandLaw_law_192 (by decide) ?_
          refine lv_iadd hx hb d_MacroExpandLaw_law_193 ?_
          replace hrun := hb_some hrun
          obtain ⟨v194, g194, hrun⟩ := hrun
          refine h_sld S hX hbl hbA hS g194 d_MacroExpandLaw_law_194 ?_
          refine lv_aload_n hx hb d_MacroExpandLaw_law_195 rfl (lv_at hl 0 rfl) ?_
          refine lv_iload_n hx hb d_MacroExpandLaw_law_196 rfl (lv_at hl 3 rfl) ?_
          refine lv_iconst (v := (3 : Int32)) hx hb d_MacroExpandLaw_law_197 (by decide) ?_
          refine lv_iadd hx hb d_MacroExpandLaw_law_198 ?_
          replace hrun := hb_some hrun
          obtain ⟨v199, g199, hrun⟩ := hrun
          refine h_sld S hX hbl hbA hS g199 d_MacroExpandLaw_law_199 ?_
          replace hrun := hb_some hrun
          obtain ⟨p200, rfl, hrun⟩ := hrun
          replace hrun := hb_some hrun
          obtain ⟨c200, k200, hrun⟩ := hrun
          replace hrun := hbind_some hrun
          obtain ⟨v200, d200, s200, h200, dn200, ds200, g200, hrun, en200, es200⟩ := hrun
          refine h_ci (h_runV S (As := [.int v189, .int v194, .int v199]) (rest := []) (c_MacroExpand_delimiter l D dA b0 p200 v189 v194 v199 nx g200) (cwV 3 S.2.2.2.2 (h_good _ (h_in4 ml_MacroExpandLaw_31 im_MacroExpand_delimiter se_MacroExpand_delimiter it_MacroExpand) cd_MacroExpand_delimiter) rfl rfl rfl (by decide +kernel) ⟨Nat.le_of_ble_eq_true rfl, Nat.le_of_ble_eq_true rfl⟩) hK hN hw (ci := 0) rfl k200 rfl hl.1 (lv_room (Nat.le_of_ble_eq_true rfl)) d_MacroExpandLaw_law_200 ⟨show cells + d200 ≤ 600000 by omega, show slots + s200 ≤ 7302250 by omega⟩) hS (fun H locs hw hS => ?_)
          obtain ⟨nx200, ex200⟩ : ∃ z, z = nx + d200 := ⟨_, rfl⟩
          rw [← ex200] at hw
          try rw [← ex200] at hrun
          replace hcR : (cells + d200) + dn200 = cells + dnb := by omega
          replace hsR : (slots + s200) + ds200 = slots + dsb := by omega
          replace hnR : nx200 + dn200 = nx + dnb := by omega
          clear en200 es200 ex200
          refine h_aload_n hx hb d_MacroExpandLaw_law_203 rfl (lv_at hl 2 rfl) ?_
          refine lv_aload_n hx hb d_MacroExpandLaw_law_204 rfl (lv_at hl 0 rfl) ?_
          refine lv_iload_n hx hb d_MacroExpandLaw_law_205 rfl (lv_at hl 3 rfl) ?_
          refine lv_iconst (v := (1 : Int32)) hx hb d_MacroExpandLaw_law_206 (by decide) ?_
          refine lv_iadd hx hb d_MacroExpandLaw_law_207 ?_
          replace hrun := hb_some hrun
          obtain ⟨v208, g208, hrun⟩ := hrun
          refine h_sld S hX hbl hbA hS g208 d_MacroExpandLaw_law_208 ?_
          refine lv_aload_n hx hb d_MacroExpandLaw_law_209 rfl (lv_at hl 0 rfl) ?_
          refine lv_iload_n hx hb d_MacroExpandLaw_law_210 rfl (lv_at hl 3 rfl) ?_
          refine lv_iconst (v := (2 : Int32)) hx hb d_MacroExpandLaw_law_211 (by decide) ?_
          refine lv_iadd hx hb d_MacroExpandLaw_law_212 ?_
          replace hrun := hb_some hrun
          obtain ⟨v213, g213, hrun⟩ := hrun
          refine h_sld S hX hbl hbA hS g213 d_MacroExpandLaw_law_213 ?_
          refine lv_aload_n hx hb d_MacroExpandLaw_law_214 rfl (lv_at hl 0 rfl) ?_
          refine lv_iload_n hx hb d_MacroExpandLaw_law_215 rfl (lv_at hl 3 rfl) ?_
          refine lv_iconst (v := (3 : Int32)) hx hb d_MacroExpandLaw_law_216 (by decide) ?_
          refine lv_iadd hx hb d_MacroExpandLaw_law_217 ?_
          replace hrun := hb_some hrun
          obtain ⟨v218, g218, hrun⟩ := hrun
          refine h_sld S hX hbl hbA hS g218 d_MacroExpandLaw_law_218 ?_
          replace hrun := hb_some hrun
          obtain ⟨p219, rfl, hrun⟩ := hrun
          replace hrun := hb_some hrun
          obtain ⟨c219, k219, hrun⟩ := hrun
          replace hrun := hbW_some hrun
          obtain ⟨v219, h219, g219, hrun⟩ := hrun
          refine h_ci (h_runV S (As := [.int v208, .int v213, .int v218]) (rest := [.int v200]) (c_MacroExpandModel_delimiter l D dA b0 p219 v208 v213 v218 nx200 g219) (cwV 3 S.2.2.2.2 (h_good _ (h_in4 ml_MacroExpandLaw_34 im_MacroExpandModel_delimiter se_MacroExpandModel_delimiter it_MacroExpandModel) cd_MacroExpandModel_delimiter) rfl rfl rfl (by decide +kernel) ⟨Nat.le_of_ble_eq_true rfl, Nat.le_of_ble_eq_true rfl⟩) hK hN hw (ci := 1) rfl k219 rfl hl.1 (lv_room (Nat.le_of_ble_eq_true rfl)) d_MacroExpandLaw_law_219 ⟨show (cells + d200) + 0 ≤ 600000 by omega, show (slots + s200) + 0 ≤ 7302250 by omega⟩) hS (fun H locs hw hS => ?_)
          refine lv_icmp_eq (tgt := 476) hx hb d_MacroExpandLaw_law_222 (by decide) (fun c222 => ?_) (fun c222 => ?_)
          · rw [if_pos c222] at hrun
            exact j_476 (some p200) (some p219) x3 _ _ (cells + d200) (slots + s200) _ _ nx200 h219 _ _ _ hrun (by omega) (by omega) hw hS (lv_sub hl [0, 1, 2, 3] rfl) (by have q := K0; rw [show nx + dnb = nx200 + dn200 by omega, show cells + dnb = (cells + d200) + dn200 by omega, show slots + dsb = (slots + s200) + ds200 by omega] at q; exact q) (by have q := K1; rw [show nx + dnb = nx200 + dn200 by omega, show cells + dnb = (cells + d200) + dn200 by omega, show slots + dsb = (slots + s200) + ds200 by omega] at q; exact q) (by have q := K2; rw [show nx + dnb = nx200 + dn200 by omega, show cells + dnb = (cells + d200) + dn200 by omega, show slots + dsb = (slots + s200) + ds200 by omega] at q; exact q) (by have q := K3; rw [show nx + dnb = nx200 + dn200 by omega, show cells + dnb = (cells + d200) + dn200 by omega, show slots + dsb = (slots + s200) + ds200 by omega] at q; exact q) (by have q := K4; rw [show nx + dnb = nx200 + dn200 by omega, show cells + dnb = (cells + d200) + dn200 by omega, show slots + dsb = (slots + s200) + ds200 by omega] at q; exact q) (by have q := K5; rw [show nx + dnb = nx200 + dn200 by omega, show cells + dnb = (cells + d200) + dn200 by omega, show slots + dsb = (slots + s200) + ds200 by omega] at q; exact q) (by have q := K6; rw [show nx + dnb = nx200 + dn200 by omega, show cells + dnb = (cells + d200) + dn200 by omega, show slots + dsb = (slots + s200) + ds200 by omega] at q; exact q) (by have q := K7; rw [show nx + dnb = nx200 + dn200 by omega, show cells + dnb = (cells + d200) + dn200 by omega, show slots + dsb = (slots + s200) + ds200 by omega] at q; exact q) (by have q := K8; rw [show nx + dnb = nx200 + dn200 by omega, show cells + dnb = (cells + d200) + dn200 by omega, show slots + dsb = (slots + s200) + ds200 by omega] at q; exact q) (by have q := K9; rw [show nx + dnb = nx200 + dn200 by omega, show cells + dnb = (cells + d200) + dn200 by omega, show slots + dsb = (slots + s200) + ds200 by omega] at q; exact q) (by have q := K10; rw [show nx + dnb = nx200 + dn200 by omega, show cells + dnb = (cells + d200) + dn200 by omega, show slots + dsb = (slots + s200) + ds200 by omega] at q; exact q) (by have q := K11; rw [show nx + dnb = nx200 + dn200 by omega, show cells + dnb = (cells + d200) + dn200 by omega, show slots + dsb = (slots + s200) + ds200 by omega] at q; exact q) (by have q := K12; rw [show nx + dnb = nx200 + dn200 by omega, show cells + dnb = (cells + d200) + dn200 by omega, show slots + dsb = (slots + s200) + ds200 by omega] at q; exact q) (by have q := K13; rw [show nx + dnb = nx200 + dn200 by omega, show cells + dnb = (cells + d200) + dn200 by omega, show slots + dsb = (slots + s200) + ds200 by omega] at q; exact q)
          · rw [if_neg c222] at hrun
            cases hrun
            rw [show nx200 = nx + dnb by omega] at hw
            exact W.widen (by omega) (by omega) (K3  rfl H locs ls hw hS (lv_sub hl [] rfl))
        rw [if_neg e44_2] at hrun
        by_cases e44_3 : (v40 &&& (15 : Int32)) = (3 : Int32)
        · rw [if_pos e44_3] at hrun
          refine lv_tableIn (off := 183) (tgt := 227) hx hb d_MacroExpandLaw_law_44 (by rw [e44_3]; decide) (by rw [e44_3]; decide) (by rw [e44_3]; decide) (by decide) ?_
          refine h_aload_n hx hb d_MacroExpandLaw_law_227 rfl (lv_at hl 1 rfl) ?_
          refine lv_aload_n hx hb d_MacroExpandLaw_law_228 rfl (lv_at hl 0 rfl) ?_
          refine lv_iload_n hx hb d_MacroExpandLaw_law_229 rfl (lv_at hl 3 rfl) ?_
          refine lv_iconst (v := (1 : Int32)) hx hb d_MacroExpandLaw_law_230 (by decide) ?_
          refine lv_iadd hx hb d_MacroExpandLaw_law_231 ?_
          replace hrun := hb_some hrun
          obtain ⟨v232, g232, hrun⟩ := hrun
          refine h_sld S hX hbl hbA hS g232 d_MacroExpandLaw_law_232 ?_
          replace hrun := hb_some hrun
          obtain ⟨p233, rfl, hrun⟩ := hrun
          replace hrun := hb_some hrun
          obtain ⟨c233, k233, hrun⟩ := hrun
          replace hrun := hbW_some hrun
          obtain ⟨v233, h233, g233, hrun⟩ := hrun
          refine h_ci (h_runV S (As := [.int v232]) (rest := []) (c_MacroExpand_token l D dA b0 p233 v232 nx g233) (cwV 1 S.2.2.2.2 (h_good _ (h_in4 ml_MacroExpandLaw_35 im_MacroExpand_token se_MacroExpand_token it_MacroExpand) cd_MacroExpand_token) rfl rfl rfl (by decide +kernel) ⟨Nat.le_of_ble_eq_true rfl, Nat.le_of_ble_eq_true rfl⟩) hK hN hw (ci := 0) rfl k233 rfl hl.1 (lv_room (Nat.le_of_ble_eq_true rfl)) d_MacroExpandLaw_law_233 ⟨show cells + 0 ≤ 600000 by omega, show slots + 0 ≤ 7302250 by omega⟩) hS (fun H locs hw hS => ?_)
          refine h_aload_n hx hb d_MacroExpandLaw_law_236 rfl (lv_at hl 2 rfl) ?_
          refine lv_aload_n hx hb d_MacroExpandLaw_law_237 rfl (lv_at hl 0 rfl) ?_
          refine lv_iload_n hx hb d_MacroExpandLaw_law_238 rfl (lv_at hl 3 rfl) ?_
          refine lv_iconst (v := (1 : Int32)) hx hb d_MacroExpandLaw_law_239 (by decide) ?_
          refine lv_iadd hx hb d_MacroExpandLaw_law_240 ?_
          replace hrun := hb_some hrun
          obtain ⟨v241, g241, hrun⟩ := hrun
          refine h_sld S hX hbl hbA hS g241 d_MacroExpandLaw_law_241 ?_
          replace hrun := hb_some hrun
          obtain ⟨p242, rfl, hrun⟩ := hrun
          replace hrun := hb_some hrun
          obtain ⟨c242, k242, hrun⟩ := hrun
          replace hrun := hbW_some hrun
          obtain ⟨v242, h242, g242, hrun⟩ := hrun
          refine h_ci (h_runV S (As := [.int v241]) (rest := [.int v233]) (c_MacroExpandModel_token l D dA b0 p242 v241 nx g242) (cwV 1 S.2.2.2.2 (h_good _ (h_in4 ml_MacroExpandLaw_39 im_MacroExpandModel_token se_MacroExpandModel_token it_MacroExpandModel) cd_MacroExpandModel_token) rfl rfl rfl (by decide +kernel) ⟨Nat.le_of_ble_eq_true rfl, Nat.le_of_ble_eq_true rfl⟩) hK hN hw (ci := 1) rfl k242 rfl hl.1 (lv_room (Nat.le_of_ble_eq_true rfl)) d_MacroExpandLaw_law_242 ⟨show cells + 0 ≤ 600000 by omega, show slots + 0 ≤ 7302250 by omega⟩) hS (fun H locs hw hS => ?_)
          refine lv_icmp_eq (tgt := 476) hx hb d_MacroExpandLaw_law_245 (by decide) (fun c245 => ?_) (fun c245 => ?_)
          · rw [if_pos c245] at hrun
            exact j_476 (some p233) (some p242) x3 _ _ cells slots _ _ nx h242 _ _ _ hrun (by omega) (by omega) hw hS (lv_sub hl [0, 1, 2, 3] rfl) K0 K1 K2 K3 K4 K5 K6 K7 K8 K9 K10 K11 K12 K13
          · rw [if_neg c245] at hrun
            cases hrun
            exact W.widen (by omega) (by omega) (K4  rfl H locs ls hw hS (lv_sub hl [] rfl))
        rw [if_neg e44_3] at hrun
        by_cases e44_4 : (v40 &&& (15 : Int32)) = (4 : Int32)
        · rw [if_pos e44_4] at hrun
          refine lv_tableIn (off := 206) (tgt := 250) hx hb d_MacroExpandLaw_law_44 (by rw [e44_4]; decide) (by rw [e44_4]; decide) (by rw [e44_4]; decide) (by decide) ?_
          refine h_aload_n hx hb d_MacroExpandLaw_law_250 rfl (lv_at hl 1 rfl) ?_
          refine lv_aload_n hx hb d_MacroExpandLaw_law_251 rfl (lv_at hl 0 rfl) ?_
          refine lv_iload_n hx hb d_MacroExpandLaw_law_252 rfl (lv_at hl 3 rfl) ?_
          refine lv_iconst (v := (1 : Int32)) hx hb d_MacroExpandLaw_law_253 (by decide) ?_
          refine lv_iadd hx hb d_MacroExpandLaw_law_254 ?_
          replace hrun := hb_some hrun
          obtain ⟨v255, g255, hrun⟩ := hrun
          refine h_sld S hX hbl hbA hS g255 d_MacroExpandLaw_law_255 ?_
          refine lv_if_eq (tgt := 263) hx hb d_MacroExpandLaw_law_256 (by decide) (fun c256 => ?_) (fun c256 => ?_)
          · rw [if_pos c256] at hrun
            refine lv_iconst (v := (0 : Int32)) hx hb d_MacroExpandLaw_law_263 (by decide) ?_
            exact j_264 x1 x2 x3 x1 (0 : Int32) _ _ cells slots _ _ nx h _ _ _ hrun (by omega) (by omega) hw hS (lv_sub hl [0, 1, 2, 3] rfl) K0 K1 K2 K3 K4 K5 K6 K7 K8 K9 K10 K11 K12 K13
          · rw [if_neg c256] at hrun
            refine lv_iconst (v := (1 : Int32)) hx hb d_MacroExpandLaw_law_259 (by decide) ?_
            refine lv_goto (tgt := 264) hx hb d_MacroExpandLaw_law_260 (by decide) ?_
            exact j_264 x1 x2 x3 x1 (1 : Int32) _ _ cells slots _ _ nx h _ _ _ hrun (by omega) (by omega) hw hS (lv_sub hl [0, 1, 2, 3] rfl) K0 K1 K2 K3 K4 K5 K6 K7 K8 K9 K10 K11 K12 K13
        rw [if_neg e44_4] at hrun
        by_cases e44_5 : (v40 &&& (15 : Int32)) = (5 : Int32)
        · rw [if_pos e44_5] at hrun
          refine lv_tableIn (off := 245) (tgt := 289) hx hb d_MacroExpandLaw_law_44 (by rw [e44_5]; decide) (by rw [e44_5]; decide) (by rw [e44_5]; decide) (by decide) ?_
          refine h_aload_n hx hb d_MacroExpandLaw_law_289 rfl (lv_at hl 1 rfl) ?_
          refine lv_aload_n hx hb d_MacroExpandLaw_law_290 rfl (lv_at hl 0 rfl) ?_
          refine lv_iload_n hx hb d_MacroExpandLaw_law_291 rfl (lv_at hl 3 rfl) ?_
          refine lv_iconst (v := (1 : Int32)) hx hb d_MacroExpandLaw_law_292 (by decide) ?_
          refine lv_iadd hx hb d_MacroExpandLaw_law_293 ?_
          replace hrun := hb_some hrun
          obtain ⟨v294, g294, hrun⟩ := hrun
          refine h_sld S hX hbl hbA hS g294 d_MacroExpandLaw_law_294 ?_
          replace hrun := hb_some hrun
          obtain ⟨p295, rfl, hrun⟩ := hrun
          replace hrun := hb_some hrun
          obtain ⟨c295, k295, hrun⟩ := hrun
          replace hrun := hb_some hrun
          obtain ⟨v295, g295, hrun⟩ := hrun
          refine h_ci (h_runV S (As := [.int v294]) (rest := []) (c_MacroExpand_at l D dA b0 p295 v294 nx g295) (cwV 1 S.2.2.2.2 (h_good _ (h_in4 ml_MacroExpandLaw_45 im_MacroExpand_at se_MacroExpand_at it_MacroExpand) cd_MacroExpand_at) rfl rfl rfl (by decide +kernel) ⟨Nat.le_of_ble_eq_true rfl, Nat.le_of_ble_eq_true rfl⟩) hK hN hw (ci := 0) rfl k295 rfl hl.1 (lv_room (Nat.le_of_ble_eq_true rfl)) d_MacroExpandLaw_law_295 ⟨show cells + 0 ≤ 600000 by omega, show slots + 0 ≤ 7302250 by omega⟩) hS (fun H locs hw hS => ?_)
          refine h_aload_n hx hb d_MacroExpandLaw_law_298 rfl (lv_at hl 2 rfl) ?_
          refine lv_aload_n hx hb d_MacroExpandLaw_law_299 rfl (lv_at hl 0 rfl) ?_
          refine lv_iload_n hx hb d_MacroExpandLaw_law_300 rfl (lv_at hl 3 rfl) ?_
          refine lv_iconst (v := (1 : Int32)) hx hb d_MacroExpandLaw_law_301 (by decide) ?_
          refine lv_iadd hx hb d_MacroExpandLaw_law_302 ?_
          replace hrun := hb_some hrun
          obtain ⟨v303, g303, hrun⟩ := hrun
          refine h_sld S hX hbl hbA hS g303 d_MacroExpandLaw_law_303 ?_
          replace hrun := hb_some hrun
          obtain ⟨p304, rfl, hrun⟩ := hrun
          replace hrun := hb_some hrun
          obtain ⟨c304, k304, hrun⟩ := hrun
          replace hrun := hb_some hrun
          obtain ⟨v304, g304, hrun⟩ := hrun
          refine h_ci (h_runV S (As := [.int v303]) (rest := [.int v295]) (c_MacroExpandModel_at l D dA b0 p304 v303 nx g304) (cwV 1 S.2.2.2.2 (h_good _ (h_in4 ml_MacroExpandLaw_48 im_MacroExpandModel_at se_MacroExpandModel_at it_MacroExpandModel) cd_MacroExpandModel_at) rfl rfl rfl (by decide +kernel) ⟨Nat.le_of_ble_eq_true rfl, Nat.le_of_ble_eq_true rfl⟩) hK hN hw (ci := 1) rfl k304 rfl hl.1 (lv_room (Nat.le_of_ble_eq_true rfl)) d_MacroExpandLaw_law_304 ⟨show cells + 0 ≤ 600000 by omega, show slots + 0 ≤ 7302250 by omega⟩) hS (fun H locs hw hS => ?_)
          refine lv_icmp_eq (tgt := 476) hx hb d_MacroExpandLaw_law_307 (by decide) (fun c307 => ?_) (fun c307 => ?_)
          · rw [if_pos c307] at hrun
            exact j_476 (some p295) (some p304) x3 _ _ cells slots _ _ nx h _ _ _ hrun (by omega) (by omega) hw hS (lv_sub hl [0, 1, 2, 3] rfl) K0 K1 K2 K3 K4 K5 K6 K7 K8 K9 K10 K11 K12 K13
          · rw [if_neg c307] at hrun
            cases hrun
            exact W.widen (by omega) (by omega) (K6  rfl H locs ls hw hS (lv_sub hl [] rfl))
        rw [if_neg e44_5] at hrun
        by_cases e44_6 : (v40 &&& (15 : Int32)) = (6 : Int32)
        · rw [if_pos e44_6] at hrun
          refine lv_tableIn (off := 268) (tgt := 312) hx hb d_MacroExpandLaw_law_44 (by rw [e44_6]; decide) (by rw [e44_6]; decide) (by rw [e44_6]; decide) (by decide) ?_
          refine h_aload_n hx hb d_MacroExpandLaw_law_312 rfl (lv_at hl 1 rfl) ?_
          refine lv_aload_n hx hb d_MacroExpandLaw_law_313 rfl (lv_at hl 0 rfl) ?_
          refine lv_iload_n hx hb d_MacroExpandLaw_law_314 rfl (lv_at hl 3 rfl) ?_
          refine lv_iconst (v := (1 : Int32)) hx hb d_MacroExpandLaw_law_315 (by decide) ?_
          refine lv_iadd hx hb d_MacroExpandLaw_law_316 ?_
          replace hrun := hb_some hrun
          obtain ⟨v317, g317, hrun⟩ := hrun
          refine h_sld S hX hbl hbA hS g317 d_MacroExpandLaw_law_317 ?_
          replace hrun := hb_some hrun
          obtain ⟨p318, rfl, hrun⟩ := hrun
          replace hrun := hb_some hrun
          obtain ⟨c318, k318, hrun⟩ := hrun
          replace hrun := hb_some hrun
          obtain ⟨v318, g318, hrun⟩ := hrun
          refine h_ci (h_runV S (As := [.int v317]) (rest := []) (c_MacroExpand_fault l D dA b0 p318 v317 nx g318) (cwV 1 S.2.2.2.2 (h_good _ (h_in4 ml_MacroExpandLaw_49 im_MacroExpand_fault se_MacroExpand_fault it_MacroExpand) cd_MacroExpand_fault) rfl rfl rfl (by decide +kernel) ⟨Nat.le_of_ble_eq_true rfl, Nat.le_of_ble_eq_true rfl⟩) hK hN hw (ci := 0) rfl k318 rfl hl.1 (lv_room (Nat.le_of_ble_eq_true rfl)) d_MacroExpandLaw_law_318 ⟨show cells + 0 ≤ 600000 by omega, show slots + 0 ≤ 7302250 by omega⟩) hS (fun H locs hw hS => ?_)
          refine h_aload_n hx hb d_MacroExpandLaw_law_321 rfl (lv_at hl 2 rfl) ?_
          refine lv_aload_n hx hb d_MacroExpandLaw_law_322 rfl (lv_at hl 0 rfl) ?_
          refine lv_iload_n hx hb d_MacroExpandLaw_law_323 rfl (lv_at hl 3 rfl) ?_
          refine lv_iconst (v := (1 : Int32)) hx hb d_MacroExpandLaw_law_324 (by decide) ?_
          refine lv_iadd hx hb d_MacroExpandLaw_law_325 ?_
          replace hrun := hb_some hrun
          obtain ⟨v326, g326, hrun⟩ := hrun
          refine h_sld S hX hbl hbA hS g326 d_MacroExpandLaw_law_326 ?_
          replace hrun := hb_some hrun
          obtain ⟨p327, rfl, hrun⟩ := hrun
          replace hrun := hb_some hrun
          obtain ⟨c327, k327, hrun⟩ := hrun
          replace hrun := hb_some hrun
          obtain ⟨v327, g327, hrun⟩ := hrun
          refine h_ci (h_runV S (As := [.int v326]) (rest := [.int v318]) (c_MacroExpandModel_fault l D dA b0 p327 v326 nx g327) (cwV 1 S.2.2.2.2 (h_good _ (h_in4 ml_MacroExpandLaw_52 im_MacroExpandModel_fault se_MacroExpandModel_fault it_MacroExpandModel) cd_MacroExpandModel_fault) rfl rfl rfl (by decide +kernel) ⟨Nat.le_of_ble_eq_true rfl, Nat.le_of_ble_eq_true rfl⟩) hK hN hw (ci := 1) rfl k327 rfl hl.1 (lv_room (Nat.le_of_ble_eq_true rfl)) d_MacroExpandLaw_law_327 ⟨show cells + 0 ≤ 600000 by omega, show slots + 0 ≤ 7302250 by omega⟩) hS (fun H locs hw hS => ?_)
          refine lv_icmp_eq (tgt := 476) hx hb d_MacroExpandLaw_law_330 (by decide) (fun c330 => ?_) (fun c330 => ?_)
          · rw [if_pos c330] at hrun
            exact j_476 (some p318) (some p327) x3 _ _ cells slots _ _ nx h _ _ _ hrun (by omega) (by omega) hw hS (lv_sub hl [0, 1, 2, 3] rfl) K0 K1 K2 K3 K4 K5 K6 K7 K8 K9 K10 K11 K12 K13
          · rw [if_neg c330] at hrun
            cases hrun
            exact W.widen (by omega) (by omega) (K7  rfl H locs ls hw hS (lv_sub hl [] rfl))
        rw [if_neg e44_6] at hrun
        by_cases e44_7 : (v40 &&& (15 : Int32)) = (7 : Int32)
        · rw [if_pos e44_7] at hrun
          refine lv_tableIn (off := 291) (tgt := 335) hx hb d_MacroExpandLaw_law_44 (by rw [e44_7]; decide) (by rw [e44_7]; decide) (by rw [e44_7]; decide) (by decide) ?_
          refine h_aload_n hx hb d_MacroExpandLaw_law_335 rfl (lv_at hl 1 rfl) ?_
          refine lv_aload_n hx hb d_MacroExpandLaw_law_336 rfl (lv_at hl 0 rfl) ?_
          refine lv_iload_n hx hb d_MacroExpandLaw_law_337 rfl (lv_at hl 3 rfl) ?_
          refine lv_iconst (v := (1 : Int32)) hx hb d_MacroExpandLaw_law_338 (by decide) ?_
          refine lv_iadd hx hb d_MacroExpandLaw_law_339 ?_
          replace hrun := hb_some hrun
          obtain ⟨v340, g340, hrun⟩ := hrun
          refine h_sld S hX hbl hbA hS g340 d_MacroExpandLaw_law_340 ?_
          refine lv_if_eq (tgt := 348) hx hb d_MacroExpandLaw_law_341 (by decide) (fun c341 => ?_) (fun c341 => ?_)
          · rw [if_pos c341] at hrun
            refine lv_iconst (v := (0 : Int32)) hx hb d_MacroExpandLaw_law_348 (by decide) ?_
            exact j_349 x1 x2 x3 x1 (0 : Int32) _ _ cells slots _ _ nx h _ _ _ hrun (by omega) (by omega) hw hS (lv_sub hl [0, 1, 2, 3] rfl) K0 K1 K2 K3 K4 K5 K6 K7 K8 K9 K10 K11 K12 K13
          · rw [if_neg c341] at hrun
            refine lv_iconst (v := (1 : Int32)) hx hb d_MacroExpandLaw_law_344 (by decide) ?_
            refine lv_goto (tgt := 349) hx hb d_MacroExpandLaw_law_345 (by decide) ?_
            exact j_349 x1 x2 x3 x1 (1 : Int32) _ _ cells slots _ _ nx h _ _ _ hrun (by omega) (by omega) hw hS (lv_sub hl [0, 1, 2, 3] rfl) K0 K1 K2 K3 K4 K5 K6 K7 K8 K9 K10 K11 K12 K13
        rw [if_neg e44_7] at hrun
        by_cases e44_8 : (v40 &&& (15 : Int32)) = (8 : Int32)
        · rw [if_pos e44_8] at hrun
          refine lv_tableIn (off := 330) (tgt := 374) hx hb d_MacroExpandLaw_law_44 (by rw [e44_8]; decide) (by rw [e44_8]; decide) (by rw [e44_8]; decide) (by decide) ?_
          refine h_aload_n hx hb d_MacroExpandLaw_law_374 rfl (lv_at hl 1 rfl) ?_
          refine lv_aload_n hx hb d_MacroExpandLaw_law_375 rfl (lv_at hl 0 rfl) ?_
          refine lv_iload_n hx hb d_MacroExpandLaw_law_376 rfl (lv_at hl 3 rfl) ?_
          refine lv_iconst (v := (1 : Int32)) hx hb d_MacroExpandLaw_law_377 (by decide) ?_
          refine lv_iadd hx hb d_MacroExpandLaw_law_378 ?_
          replace hrun := hb_some hrun
          obtain ⟨v379, g379, hrun⟩ := hrun
          refine h_sld S hX hbl hbA hS g379 d_MacroExpandLaw_law_379 ?_
          replace hrun := hb_some hrun
          obtain ⟨p380, rfl, hrun⟩ := hrun
          replace hrun := hb_some hrun
          obtain ⟨c380, k380, hrun⟩ := hrun
          replace hrun := hb_some hrun
          obtain ⟨v380, g380, hrun⟩ := hrun
          refine h_ci (h_runV S (As := [.int v379]) (rest := []) (c_MacroExpand_named l D dA b0 p380 v379 nx g380) (cwV 1 S.2.2.2.2 (h_good _ (h_in4 ml_MacroExpandLaw_57 im_MacroExpand_named se_MacroExpand_named it_MacroExpand) cd_MacroExpand_named) rfl rfl rfl (by decide +kernel) ⟨Nat.le_of_ble_eq_true rfl, Nat.le_of_ble_eq_true rfl⟩) hK hN hw (ci := 0) rfl k380 rfl hl.1 (lv_room (Nat.le_of_ble_eq_true rfl)) d_MacroExpandLaw_law_380 ⟨show cells + 0 ≤ 600000 by omega, show slots + 0 ≤ 7302250 by omega⟩) hS (fun H locs hw hS => ?_)
          refine h_aload_n hx hb d_MacroExpandLaw_law_383 rfl (lv_at hl 2 rfl) ?_
          refine lv_aload_n hx hb d_MacroExpandLaw_law_384 rfl (lv_at hl 0 rfl) ?_
          refine lv_iload_n hx hb d_MacroExpandLaw_law_385 rfl (lv_at hl 3 rfl) ?_
          refine lv_iconst (v := (1 : Int32)) hx hb d_MacroExpandLaw_law_386 (by decide) ?_
          refine lv_iadd hx hb d_MacroExpandLaw_law_387 ?_
          replace hrun := hb_some hrun
          obtain ⟨v388, g388, hrun⟩ := hrun
          refine h_sld S hX hbl hbA hS g388 d_MacroExpandLaw_law_388 ?_
          replace hrun := hb_some hrun
          obtain ⟨p389, rfl, hrun⟩ := hrun
          replace hrun := hb_some hrun
          obtain ⟨c389, k389, hrun⟩ := hrun
          replace hrun := hb_some hrun
          obtain ⟨v389, g389, hrun⟩ := hrun
          refine h_ci (h_runV S (As := [.int v388]) (rest := [.int v380]) (c_MacroExpandModel_named l D dA b0 p389 v388 nx g389) (cwV 1 S.2.2.2.2 (h_good _ (h_in4 ml_MacroExpandLaw_60 im_MacroExpandModel_named se_MacroExpandModel_named it_MacroExpandModel) cd_MacroExpandModel_named) rfl rfl rfl (by decide +kernel) ⟨Nat.le_of_ble_eq_true rfl, Nat.le_of_ble_eq_true rfl⟩) hK hN hw (ci := 1) rfl k389 rfl hl.1 (lv_room (Nat.le_of_ble_eq_true rfl)) d_MacroExpandLaw_law_389 ⟨show cells + 0 ≤ 600000 by omega, show slots + 0 ≤ 7302250 by omega⟩) hS (fun H locs hw hS => ?_)
          refine lv_icmp_eq (tgt := 476) hx hb d_MacroExpandLaw_law_392 (by decide) (fun c392 => ?_) (fun c392 => ?_)
          · rw [if_pos c392] at hrun
            exact j_476 (some p380) (some p389) x3 _ _ cells slots _ _ nx h _ _ _ hrun (by omega) (by omega) hw hS (lv_sub hl [0, 1, 2, 3] rfl) K0 K1 K2 K3 K4 K5 K6 K7 K8 K9 K10 K11 K12 K13
          · rw [if_neg c392] at hrun
            cases hrun
            exact W.widen (by omega) (by omega) (K9  rfl H locs ls hw hS (lv_sub hl [] rfl))
        rw [if_neg e44_8] at hrun
        by_cases e44_9 : (v40 &&& (15 : Int32)) = (9 : Int32)
        · rw [if_pos e44_9] at hrun
          refine lv_tableIn (off := 353) (tgt := 397) hx hb d_MacroExpandLaw_law_44 (by rw [e44_9]; decide) (by rw [e44_9]; decide) (by rw [e44_9]; decide) (by decide) ?_
          refine h_aload_n hx hb d_MacroExpandLaw_law_397 rfl (lv_at hl 1 rfl) ?_
          refine lv_aload_n hx hb d_MacroExpandLaw_law_398 rfl (lv_at hl 0 rfl) ?_
          refine lv_iload_n hx hb d_MacroExpandLaw_law_399 rfl (lv_at hl 3 rfl) ?_
          refine lv_iconst (v := (1 : Int32)) hx hb d_MacroExpandLaw_law_400 (by decide) ?_
          refine lv_iadd hx hb d_MacroExpandLaw_law_401 ?_
          replace hrun := hb_some hrun
          obtain ⟨v402, g402, hrun⟩ := hrun
          refine h_sld S hX hbl hbA hS g402 d_MacroExpandLaw_law_402 ?_
          refine lv_aload_n hx hb d_MacroExpandLaw_law_403 rfl (lv_at hl 0 rfl) ?_
          refine lv_iload_n hx hb d_MacroExpandLaw_law_404 rfl (lv_at hl 3 rfl) ?_
          refine lv_iconst (v := (2 : Int32)) hx hb d_MacroExpandLaw_law_405 (by decide) ?_
          refine lv_iadd hx hb d_MacroExpandLaw_law_406 ?_
          replace hrun := hb_some hrun
          obtain ⟨v407, g407, hrun⟩ := hrun
          refine h_sld S hX hbl hbA hS g407 d_MacroExpandLaw_law_407 ?_
          replace hrun := hb_some hrun
          obtain ⟨p408, rfl, hrun⟩ := hrun
          replace hrun := hb_some hrun
          obtain ⟨c408, k408, hrun⟩ := hrun
          replace hrun := hb_some hrun
          obtain ⟨v408, g408, hrun⟩ := hrun
          refine h_ci (h_runV S (As := [.int v402, .int v407]) (rest := []) (c_MacroExpand_traced l D dA b0 p408 v402 v407 nx g408) (cwV 2 S.2.2.2.2 (h_good _ (h_in4 ml_MacroExpandLaw_61 im_MacroExpand_traced se_MacroExpand_traced it_MacroExpand) cd_MacroExpand_traced) rfl rfl rfl (by decide +kernel) ⟨Nat.le_of_ble_eq_true rfl, Nat.le_of_ble_eq_true rfl⟩) hK hN hw (ci := 0) rfl k408 rfl hl.1 (lv_room (Nat.le_of_ble_eq_true rfl)) d_MacroExpandLaw_law_408 ⟨show cells + 0 ≤ 600000 by omega, show slots + 0 ≤ 7302250 by omega⟩) hS (fun H locs hw hS => ?_)
          refine h_aload_n hx hb d_MacroExpandLaw_law_411 rfl (lv_at hl 2 rfl) ?_
          refine lv_aload_n hx hb d_MacroExpandLaw_law_412 rfl (lv_at hl 0 rfl) ?_
          refine lv_iload_n hx hb d_MacroExpandLaw_law_413 rfl (lv_at hl 3 rfl) ?_
          refine lv_iconst (v := (1 : Int32)) hx hb d_MacroExpandLaw_law_414 (by decide) ?_
          refine lv_iadd hx hb d_MacroExpandLaw_law_415 ?_
          replace hrun := hb_some hrun
          obtain ⟨v416, g416, hrun⟩ := hrun
          refine h_sld S hX hbl hbA hS g416 d_MacroExpandLaw_law_416 ?_
          refine lv_aload_n hx hb d_MacroExpandLaw_law_417 rfl (lv_at hl 0 rfl) ?_
          refine lv_iload_n hx hb d_MacroExpandLaw_law_418 rfl (lv_at hl 3 rfl) ?_
          refine lv_iconst (v := (2 : Int32)) hx hb d_MacroExpandLaw_law_419 (by decide) ?_
          refine lv_iadd hx hb d_MacroExpandLaw_law_420 ?_
          replace hrun := hb_some hrun
          obtain ⟨v421, g421, hrun⟩ := hrun
          refine h_sld S hX hbl hbA hS g421 d_MacroExpandLaw_law_421 ?_
          replace hrun := hb_some hrun
          obtain ⟨p422, rfl, hrun⟩ := hrun
          replace hrun := hb_some hrun
          obtain ⟨c422, k422, hrun⟩ := hrun
          replace hrun := hb_some hrun
          obtain ⟨v422, g422, hrun⟩ := hrun
          refine h_ci (h_runV S (As := [.int v416, .int v421]) (rest := [.int v408]) (c_MacroExpandModel_traced l D dA b0 p422 v416 v421 nx g422) (cwV 2 S.2.2.2.2 (h_good _ (h_in4 ml_MacroExpandLaw_64 im_MacroExpandModel_traced se_MacroExpandModel_traced it_MacroExpandModel) cd_MacroExpandModel_traced) rfl rfl rfl (by decide +kernel) ⟨Nat.le_of_ble_eq_true rfl, Nat.le_of_ble_eq_true rfl⟩) hK hN hw (ci := 1) rfl k422 rfl hl.1 (lv_room (Nat.le_of_ble_eq_true rfl)) d_MacroExpandLaw_law_422 ⟨show cells + 0 ≤ 600000 by omega, show slots + 0 ≤ 7302250 by omega⟩) hS (fun H locs hw hS => ?_)
          refine lv_icmp_eq (tgt := 476) hx hb d_MacroExpandLaw_law_425 (by decide) (fun c425 => ?_) (fun c425 => ?_)
          · rw [if_pos c425] at hrun
            exact j_476 (some p408) (some p422) x3 _ _ cells slots _ _ nx h _ _ _ hrun (by omega) (by omega) hw hS (lv_sub hl [0, 1, 2, 3] rfl) K0 K1 K2 K3 K4 K5 K6 K7 K8 K9 K10 K11 K12 K13
          · rw [if_neg c425] at hrun
            cases hrun
            exact W.widen (by omega) (by omega) (K10  rfl H locs ls hw hS (lv_sub hl [] rfl))
        rw [if_neg e44_9] at hrun
        by_cases e44_10 : (v40 &&& (15 : Int32)) = (10 : Int32)
        · rw [if_pos e44_10] at hrun
          refine lv_tableIn (off := 386) (tgt := 430) hx hb d_MacroExpandLaw_law_44 (by rw [e44_10]; decide) (by rw [e44_10]; decide) (by rw [e44_10]; decide) (by decide) ?_
          refine h_aload_n hx hb d_MacroExpandLaw_law_430 rfl (lv_at hl 1 rfl) ?_
          refine lv_aload_n hx hb d_MacroExpandLaw_law_431 rfl (lv_at hl 0 rfl) ?_
          refine lv_iload_n hx hb d_MacroExpandLaw_law_432 rfl (lv_at hl 3 rfl) ?_
          refine lv_iconst (v := (1 : Int32)) hx hb d_MacroExpandLaw_law_433 (by decide) ?_
          refine lv_iadd hx hb d_MacroExpandLaw_law_434 ?_
          replace hrun := hb_some hrun
          obtain ⟨v435, g435, hrun⟩ := hrun
          refine h_sld S hX hbl hbA hS g435 d_MacroExpandLaw_law_435 ?_
          replace hrun := hb_some hrun
          obtain ⟨p436, rfl, hrun⟩ := hrun
          replace hrun := hb_some hrun
          obtain ⟨c436, k436, hrun⟩ := hrun
          replace hrun := hb_some hrun
          obtain ⟨v436, g436, hrun⟩ := hrun
          refine h_ci (h_runV S (As := [.int v435]) (rest := []) (c_MacroExpand_input l D dA b0 p436 v435 nx g436) (cwV 1 S.2.2.2.2 (h_good _ (h_in4 ml_MacroExpandLaw_65 im_MacroExpand_input se_MacroExpand_input it_MacroExpand) cd_MacroExpand_input) rfl rfl rfl (by decide +kernel) ⟨Nat.le_of_ble_eq_true rfl, Nat.le_of_ble_eq_true rfl⟩) hK hN hw (ci := 0) rfl k436 rfl hl.1 (lv_room (Nat.le_of_ble_eq_true rfl)) d_MacroExpandLaw_law_436 ⟨show cells + 0 ≤ 600000 by omega, show slots + 0 ≤ 7302250 by omega⟩) hS (fun H locs hw hS => ?_)
          refine h_aload_n hx hb d_MacroExpandLaw_law_439 rfl (lv_at hl 2 rfl) ?_
          refine lv_aload_n hx hb d_MacroExpandLaw_law_440 rfl (lv_at hl 0 rfl) ?_
          refine lv_iload_n hx hb d_MacroExpandLaw_law_441 rfl (lv_at hl 3 rfl) ?_
          refine lv_iconst (v := (1 : Int32)) hx hb d_MacroExpandLaw_law_442 (by decide) ?_
          refine lv_iadd hx hb d_MacroExpandLaw_law_443 ?_
          replace hrun := hb_some hrun
          obtain ⟨v444, g444, hrun⟩ := hrun
          refine h_sld S hX hbl hbA hS g444 d_MacroExpandLaw_law_444 ?_
          replace hrun := hb_some hrun
          obtain ⟨p445, rfl, hrun⟩ := hrun
          replace hrun := hb_some hrun
          obtain ⟨c445, k445, hrun⟩ := hrun
          replace hrun := hb_some hrun
          obtain ⟨v445, g445, hrun⟩ := hrun
          refine h_ci (h_runV S (As := [.int v444]) (rest := [.int v436]) (c_MacroExpandModel_input l D dA b0 p445 v444 nx g445) (cwV 1 S.2.2.2.2 (h_good _ (h_in4 ml_MacroExpandLaw_68 im_MacroExpandModel_input se_MacroExpandModel_input it_MacroExpandModel) cd_MacroExpandModel_input) rfl rfl rfl (by decide +kernel) ⟨Nat.le_of_ble_eq_true rfl, Nat.le_of_ble_eq_true rfl⟩) hK hN hw (ci := 1) rfl k445 rfl hl.1 (lv_room (Nat.le_of_ble_eq_true rfl)) d_MacroExpandLaw_law_445 ⟨show cells + 0 ≤ 600000 by omega, show slots + 0 ≤ 7302250 by omega⟩) hS (fun H locs hw hS => ?_)
          refine lv_icmp_eq (tgt := 476) hx hb d_MacroExpandLaw_law_448 (by decide) (fun c448 => ?_) (fun c448 => ?_)
          · rw [if_pos c448] at hrun
            exact j_476 (some p436) (some p445) x3 _ _ cells slots _ _ nx h _ _ _ hrun (by omega) (by omega) hw hS (lv_sub hl [0, 1, 2, 3] rfl) K0 K1 K2 K3 K4 K5 K6 K7 K8 K9 K10 K11 K12 K13
          · rw [if_neg c448] at hrun
            cases hrun
            exact W.widen (by omega) (by omega) (K11  rfl H locs ls hw hS (lv_sub hl [] rfl))
        rw [if_neg e44_10] at hrun
        by_cases e44_11 : (v40 &&& (15 : Int32)) = (11 : Int32)
        · rw [if_pos e44_11] at hrun
          refine lv_tableIn (off := 409) (tgt := 453) hx hb d_MacroExpandLaw_law_44 (by rw [e44_11]; decide) (by rw [e44_11]; decide) (by rw [e44_11]; decide) (by decide) ?_
          refine h_aload_n hx hb d_MacroExpandLaw_law_453 rfl (lv_at hl 1 rfl) ?_
          refine lv_aload_n hx hb d_MacroExpandLaw_law_454 rfl (lv_at hl 0 rfl) ?_
          refine lv_iload_n hx hb d_MacroExpandLaw_law_455 rfl (lv_at hl 3 rfl) ?_
          refine lv_iconst (v := (1 : Int32)) hx hb d_MacroExpandLaw_law_456 (by decide) ?_
          refine lv_iadd hx hb d_MacroExpandLaw_law_457 ?_
          replace hrun := hb_some hrun
          obtain ⟨v458, g458, hrun⟩ := hrun
          refine h_sld S hX hbl hbA hS g458 d_MacroExpandLaw_law_458 ?_
          replace hrun := hb_some hrun
          obtain ⟨p459, rfl, hrun⟩ := hrun
          replace hrun := hb_some hrun
          obtain ⟨c459, k459, hrun⟩ := hrun
          replace hrun := hb_some hrun
          obtain ⟨v459, g459, hrun⟩ := hrun
          refine h_ci (h_runV S (As := [.int v458]) (rest := []) (c_MacroExpand_macro l D dA b0 p459 v458 nx g459) (cwV 1 S.2.2.2.2 (h_good _ (h_in4 ml_MacroExpandLaw_69 im_MacroExpand_macro se_MacroExpand_macro it_MacroExpand) cd_MacroExpand_macro) rfl rfl rfl (by decide +kernel) ⟨Nat.le_of_ble_eq_true rfl, Nat.le_of_ble_eq_true rfl⟩) hK hN hw (ci := 0) rfl k459 rfl hl.1 (lv_room (Nat.le_of_ble_eq_true rfl)) d_MacroExpandLaw_law_459 ⟨show cells + 0 ≤ 600000 by omega, show slots + 0 ≤ 7302250 by omega⟩) hS (fun H locs hw hS => ?_)
          refine h_aload_n hx hb d_MacroExpandLaw_law_462 rfl (lv_at hl 2 rfl) ?_
          refine lv_aload_n hx hb d_MacroExpandLaw_law_463 rfl (lv_at hl 0 rfl) ?_
          refine lv_iload_n hx hb d_MacroExpandLaw_law_464 rfl (lv_at hl 3 rfl) ?_
          refine lv_iconst (v := (1 : Int32)) hx hb d_MacroExpandLaw_law_465 (by decide) ?_
          refine lv_iadd hx hb d_MacroExpandLaw_law_466 ?_
          replace hrun := hb_some hrun
          obtain ⟨v467, g467, hrun⟩ := hrun
          refine h_sld S hX hbl hbA hS g467 d_MacroExpandLaw_law_467 ?_
          replace hrun := hb_some hrun
          obtain ⟨p468, rfl, hrun⟩ := hrun
          replace hrun := hb_some hrun
          obtain ⟨c468, k468, hrun⟩ := hrun
          replace hrun := hb_some hrun
          obtain ⟨v468, g468, hrun⟩ := hrun
          refine h_ci (h_runV S (As := [.int v467]) (rest := [.int v459]) (c_MacroExpandModel_macro l D dA b0 p468 v467 nx g468) (cwV 1 S.2.2.2.2 (h_good _ (h_in4 ml_MacroExpandLaw_72 im_MacroExpandModel_macro se_MacroExpandModel_macro it_MacroExpandModel) cd_MacroExpandModel_macro) rfl rfl rfl (by decide +kernel) ⟨Nat.le_of_ble_eq_true rfl, Nat.le_of_ble_eq_true rfl⟩) hK hN hw (ci := 1) rfl k468 rfl hl.1 (lv_room (Nat.le_of_ble_eq_true rfl)) d_MacroExpandLaw_law_468 ⟨show cells + 0 ≤ 600000 by omega, show slots + 0 ≤ 7302250 by omega⟩) hS (fun H locs hw hS => ?_)
          refine lv_icmp_eq (tgt := 476) hx hb d_MacroExpandLaw_law_471 (by decide) (fun c471 => ?_) (fun c471 => ?_)
          · rw [if_pos c471] at hrun
            exact j_476 (some p459) (some p468) x3 _ _ cells slots _ _ nx h _ _ _ hrun (by omega) (by omega) hw hS (lv_sub hl [0, 1, 2, 3] rfl) K0 K1 K2 K3 K4 K5 K6 K7 K8 K9 K10 K11 K12 K13
          · rw [if_neg c471] at hrun
            cases hrun
            exact W.widen (by omega) (by omega) (K12  rfl H locs ls hw hS (lv_sub hl [] rfl))
        rw [if_neg e44_11] at hrun
        refine lv_tableOut (tgt := 476) hx hb d_MacroExpandLaw_law_44 (by have q0 := lv_neT e44_0 (show ((0 : Int32)).toInt = 0 by decide); have q1 := lv_neT e44_1 (show ((1 : Int32)).toInt = 1 by decide); have q2 := lv_neT e44_2 (show ((2 : Int32)).toInt = 2 by decide); have q3 := lv_neT e44_3 (show ((3 : Int32)).toInt = 3 by decide); have q4 := lv_neT e44_4 (show ((4 : Int32)).toInt = 4 by decide); have q5 := lv_neT e44_5 (show ((5 : Int32)).toInt = 5 by decide); have q6 := lv_neT e44_6 (show ((6 : Int32)).toInt = 6 by decide); have q7 := lv_neT e44_7 (show ((7 : Int32)).toInt = 7 by decide); have q8 := lv_neT e44_8 (show ((8 : Int32)).toInt = 8 by decide); have q9 := lv_neT e44_9 (show ((9 : Int32)).toInt = 9 by decide); have q10 := lv_neT e44_10 (show ((10 : Int32)).toInt = 10 by decide); have q11 := lv_neT e44_11 (show ((11 : Int32)).toInt = 11 by decide); omega) (by decide) ?_
        exact j_476 x1 x2 x3 _ _ cells slots _ _ nx h _ _ _ hrun (by omega) (by omega) hw hS (lv_sub hl [0, 1, 2, 3] rfl) K0 K1 K2 K3 K4 K5 K6 K7 K8 K9 K10 K11 K12 K13
  unfold f_MacroExpandLaw_law at hrun
  replace hrun := hnew_some hrun
  obtain ⟨h0, dn0, ds0, eh0, hrun, en0, es0⟩ := hrun
  refine h_new S (fun w q => hT w (i_MacroExpand w q)) t_MacroExpand t_MacroExpand_ok (hT _ cl_MacroExpandLaw_7) (hT _ in_MacroExpand) (hT _ it_MacroExpand) hK (ci := 0) rfl dv_MacroExpand hw hS (show 0 + 1 ≤ 600000 by omega) (show 0 + 7 ≤ 7302250 by omega) d_MacroExpandLaw_law_0 (fun H hw hS => ?_)
  rw [← eh0] at hw
  clear eh0
  obtain ⟨nx0, ex0⟩ : ∃ z, z = nx + 1 := ⟨_, rfl⟩
  rw [← ex0] at hw
  try rw [← ex0] at hrun
  replace hcR : (0 + 1) + dn0 = dnZ := by omega
  replace hsR : (0 + 7) + ds0 = dsZ := by omega
  replace hnR : nx0 + dn0 = nxZ + dnZ := by omega
  clear en0 es0 ex0
  refine lv_dup hx hb d_MacroExpandLaw_law_3 rfl ?_
  refine lv_aload_n hx hb d_MacroExpandLaw_law_4 rfl (lv_at hl 0 rfl) ?_
  refine lv_iconst (v := (0 : Int32)) hx hb d_MacroExpandLaw_law_5 (by decide) ?_
  replace hrun := hb_some hrun
  obtain ⟨v6, g6, hrun⟩ := hrun
  refine h_ci (h_runSX S (As := [.ref a0, .int (0 : Int32)]) (rest := [.ref nx, .ref nx]) (c_MacroExpandLaw_cell l D dA b0 a0 L xs (0 : Int32) nx0 g6) (va_cwS 2 S.2.2.2.2 (h_good _ (h_in3 ml_MacroExpandLaw_9 sm_MacroExpandLaw_cell it_MacroExpandLaw) cd_MacroExpandLaw_cell) rfl rfl rfl (by decide +kernel) ⟨Nat.le_of_ble_eq_true rfl, Nat.le_of_ble_eq_true rfl⟩) hK hN hw hX hbl hbA hS rfl hl.1 (lv_room (Nat.le_of_ble_eq_true rfl)) d_MacroExpandLaw_law_6 ⟨show (0 + 1) + 0 ≤ 600000 by omega, show (0 + 7) + 0 ≤ 7302250 by omega⟩) hS (fun H locs hw hS => ?_)
  refine lv_i2l hx hb d_MacroExpandLaw_law_9 rfl ?_
  replace hrun := hbind_some hrun
  obtain ⟨_u10, d10, s10, h10, dn10, ds10, g10, hrun, en10, es10⟩ := hrun
  refine h_cv (h_runI S (As := [.long v6.toInt64]) (rest := [.ref nx]) (c_MacroExpand_init l D dA b0 n nx v6.toInt64 nx0 g10) (cwI 1 S.2.2.2.2 (h_good [] (fun _ q => absurd q List.not_mem_nil) cd_MacroExpand_init) rfl rfl rfl (S.2.2.2.2 _ (hT _ it_MacroExpand)) (S.2.2.2.2 _ (hT _ ml_MacroExpandLaw_15)) (S.2.2.2.2 _ (hT _ im_MacroExpand_init)) rfl (by decide +kernel) ⟨Nat.le_of_ble_eq_true rfl, Nat.le_of_ble_eq_true rfl⟩) hK hN hw rfl hl.1 (lv_room (Nat.le_of_ble_eq_true rfl)) d_MacroExpandLaw_law_10 ⟨show (0 + 1) + d10 ≤ 600000 by omega, show (0 + 7) + s10 ≤ 7302250 by omega⟩) hS (fun H locs hw hS => ?_)
  obtain ⟨nx10, ex10⟩ : ∃ z, z = nx0 + d10 := ⟨_, rfl⟩
  rw [← ex10] at hw
  try rw [← ex10] at hrun
  replace hcR : ((0 + 1) + d10) + dn10 = dnZ := by omega
  replace hsR : ((0 + 7) + s10) + ds10 = dsZ := by omega
  replace hnR : nx10 + dn10 = nxZ + dnZ := by omega
  clear en10 es10 ex10
  refine lv_astore_n (lv' := [(1, .ref nx), (0, .ref a0)]) hx hb d_MacroExpandLaw_law_13 rfl hl (by decide) rfl (fun ls hl => ?_)
  replace hrun := hnew_some hrun
  obtain ⟨h14, dn14, ds14, eh14, hrun, en14, es14⟩ := hrun
  refine h_new S (fun w q => hT w (i_MacroExpandModel w q)) t_MacroExpandModel t_MacroExpandModel_ok (hT _ cl_MacroExpandLaw_18) (hT _ in_MacroExpandModel) (hT _ it_MacroExpandModel) hK (ci := 1) rfl dv_MacroExpandModel hw hS (show ((0 + 1) + d10) + 1 ≤ 600000 by omega) (show ((0 + 7) + s10) + 37 ≤ 7302250 by omega) d_MacroExpandLaw_law_14 (fun H hw hS => ?_)
  rw [← eh14] at hw
  clear eh14
  obtain ⟨nx14, ex14⟩ : ∃ z, z = nx10 + 1 := ⟨_, rfl⟩
  rw [← ex14] at hw
  try rw [← ex14] at hrun
  replace hcR : (((0 + 1) + d10) + 1) + dn14 = dnZ := by omega
  replace hsR : (((0 + 7) + s10) + 37) + ds14 = dsZ := by omega
  replace hnR : nx14 + dn14 = nxZ + dnZ := by omega
  clear en14 es14 ex14
  refine lv_dup hx hb d_MacroExpandLaw_law_17 rfl ?_
  refine lv_aload_n hx hb d_MacroExpandLaw_law_18 rfl (lv_at hl 1 rfl) ?_
  refine lv_iconst (v := (0 : Int32)) hx hb d_MacroExpandLaw_law_19 (by decide) ?_
  replace hrun := hb_some hrun
  obtain ⟨v20, g20, hrun⟩ := hrun
  refine h_ci (h_runSX S (As := [.ref a0, .int (0 : Int32)]) (rest := [.ref nx10, .ref nx10]) (c_MacroExpandLaw_cell l D dA b0 a0 L xs (0 : Int32) nx14 g20) (va_cwS 2 S.2.2.2.2 (h_good _ (h_in3 ml_MacroExpandLaw_9 sm_MacroExpandLaw_cell it_MacroExpandLaw) cd_MacroExpandLaw_cell) rfl rfl rfl (by decide +kernel) ⟨Nat.le_of_ble_eq_true rfl, Nat.le_of_ble_eq_true rfl⟩) hK hN hw hX hbl hbA hS rfl hl.1 (lv_room (Nat.le_of_ble_eq_true rfl)) d_MacroExpandLaw_law_20 ⟨show (((0 + 1) + d10) + 1) + 0 ≤ 600000 by omega, show (((0 + 7) + s10) + 37) + 0 ≤ 7302250 by omega⟩) hS (fun H locs hw hS => ?_)
  refine lv_i2l hx hb d_MacroExpandLaw_law_23 rfl ?_
  replace hrun := hbind_some hrun
  obtain ⟨_u24, d24, s24, h24, dn24, ds24, g24, hrun, en24, es24⟩ := hrun
  refine h_cv (h_runI S (As := [.long v20.toInt64]) (rest := [.ref nx10]) (c_MacroExpandModel_init l D dA b0 n nx10 v20.toInt64 nx14 g24) (cwI 1 S.2.2.2.2 (h_good [] (fun _ q => absurd q List.not_mem_nil) cd_MacroExpandModel_init) rfl rfl rfl (S.2.2.2.2 _ (hT _ it_MacroExpandModel)) (S.2.2.2.2 _ (hT _ ml_MacroExpandLaw_20)) (S.2.2.2.2 _ (hT _ im_MacroExpandModel_init)) rfl (by decide +kernel) ⟨Nat.le_of_ble_eq_true rfl, Nat.le_of_ble_eq_true rfl⟩) hK hN hw rfl hl.1 (lv_room (Nat.le_of_ble_eq_true rfl)) d_MacroExpandLaw_law_24 ⟨show (((0 + 1) + d10) + 1) + d24 ≤ 600000 by omega, show (((0 + 7) + s10) + 37) + s24 ≤ 7302250 by omega⟩) hS (fun H locs hw hS => ?_)
  obtain ⟨nx24, ex24⟩ : ∃ z, z = nx14 + d24 := ⟨_, rfl⟩
  rw [← ex24] at hw
  try rw [← ex24] at hrun
  replace hcR : ((((0 + 1) + d10) + 1) + d24) + dn24 = dnZ := by omega
  replace hsR : ((((0 + 7) + s10) + 37) + s24) + ds24 = dsZ := by omega
  replace hnR : nx24 + dn24 = nxZ + dnZ := by omega
  clear en24 es24 ex24
  refine lv_astore_n (lv' := [(2, .ref nx10), (1, .ref nx), (0, .ref a0)]) hx hb d_MacroExpandLaw_law_27 rfl hl (by decide) rfl (fun ls hl => ?_)
  refine lv_iconst (v := (1 : Int32)) hx hb d_MacroExpandLaw_law_28 (by decide) ?_
  refine lv_istore_n (lv' := [(3, .int (1 : Int32)), (2, .ref nx10), (1, .ref nx), (0, .ref a0)]) hx hb d_MacroExpandLaw_law_29 rfl hl (by decide) rfl (fun ls hl => ?_)
  replace hrun := hbind_some hrun
  obtain ⟨b30, d30, s30, h30l, dn30, ds30, g30, hrun, en30, es30⟩ := hrun
  refine l_30 (some nx) (some nx10) n (1 : Int32) ((((0 + 1) + d10) + 1) + d24) ((((0 + 7) + s10) + 37) + s24) _ _ nx24 h24 _ _ _ _ _ g30 (by omega) (by omega) hw hS (lv_sub hl [3, 2, 1, 0] rfl) ?_ ?_ ?_ ?_ ?_ ?_ ?_ ?_ ?_ ?_ ?_ ?_ ?_
  · rintro  eq9 H locs ls hw hS hl
    obtain rfl := eq9.symm
    obtain ⟨nx30l, ex30⟩ : ∃ z, z = nx24 + d30 := ⟨_, rfl⟩
    rw [← ex30] at hw
    try rw [← ex30] at hrun
    replace hcR : (((((0 + 1) + d10) + 1) + d24) + d30) + dn30 = dnZ := by omega
    replace hsR : (((((0 + 7) + s10) + 37) + s24) + s30) + ds30 = dsZ := by omega
    replace hnR : nx30l + dn30 = nxZ + dnZ := by omega
    clear en30 es30 ex30
    try dsimp only at hrun
    refine lv_iconst (v := (0 : Int32)) hx hb d_MacroExpandLaw_law_149 (by decide) ?_
    cases hrun
    exact absurd hr1 (by decide)
  · rintro  eq9 H locs ls hw hS hl
    obtain rfl := eq9.symm
    obtain ⟨nx30l, ex30⟩ : ∃ z, z = nx24 + d30 := ⟨_, rfl⟩
    rw [← ex30] at hw
    try rw [← ex30] at hrun
    replace hcR : (((((0 + 1) + d10) + 1) + d24) + d30) + dn30 = dnZ := by omega
    replace hsR : (((((0 + 7) + s10) + 37) + s24) + s30) + ds30 = dsZ := by omega
    replace hnR : nx30l + dn30 = nxZ + dnZ := by omega
    clear en30 es30 ex30
    try dsimp only at hrun
    refine lv_iconst (v := (0 : Int32)) hx hb d_MacroExpandLaw_law_182 (by decide) ?_
    cases hrun
    exact absurd hr1 (by decide)
  · rintro  eq9 H locs ls hw hS hl
    obtain rfl := eq9.symm
    obtain ⟨nx30l, ex30⟩ : ∃ z, z = nx24 + d30 := ⟨_, rfl⟩
    rw [← ex30] at hw
    try rw [← ex30] at hrun
    replace hcR : (((((0 + 1) + d10) + 1) + d24) + d30) + dn30 = dnZ := by omega
    replace hsR : (((((0 + 7) + s10) + 37) + s24) + s30) + ds30 = dsZ := by omega
    replace hnR : nx30l + dn30 = nxZ + dnZ := by omega
    clear en30 es30 ex30
    try dsimp only at hrun
    refine lv_iconst (v := (0 : Int32)) hx hb d_MacroExpandLaw_law_225 (by decide) ?_
    cases hrun
    exact absurd hr1 (by decide)
  · rintro  eq9 H locs ls hw hS hl
    obtain rfl := eq9.symm
    obtain ⟨nx30l, ex30⟩ : ∃ z, z = nx24 + d30 := ⟨_, rfl⟩
    rw [← ex30] at hw
    try rw [← ex30] at hrun
    replace hcR : (((((0 + 1) + d10) + 1) + d24) + d30) + dn30 = dnZ := by omega
    replace hsR : (((((0 + 7) + s10) + 37) + s24) + s30) + ds30 = dsZ := by omega
    replace hnR : nx30l + dn30 = nxZ + dnZ := by omega
    clear en30 es30 ex30
    try dsimp only at hrun
    refine lv_iconst (v := (0 : Int32)) hx hb d_MacroExpandLaw_law_248 (by decide) ?_
    cases hrun
    exact absurd hr1 (by decide)
  · rintro  eq9 H locs ls hw hS hl
    obtain rfl := eq9.symm
    obtain ⟨nx30l, ex30⟩ : ∃ z, z = nx24 + d30 := ⟨_, rfl⟩
    rw [← ex30] at hw
    try rw [← ex30] at hrun
    replace hcR : (((((0 + 1) + d10) + 1) + d24) + d30) + dn30 = dnZ := by omega
    replace hsR : (((((0 + 7) + s10) + 37) + s24) + s30) + ds30 = dsZ := by omega
    replace hnR : nx30l + dn30 = nxZ + dnZ := by omega
    clear en30 es30 ex30
    try dsimp only at hrun
    refine lv_iconst (v := (0 : Int32)) hx hb d_MacroExpandLaw_law_287 (by decide) ?_
    cases hrun
    exact absurd hr1 (by decide)
  · rintro  eq9 H locs ls hw hS hl
    obtain rfl := eq9.symm
    obtain ⟨nx30l, ex30⟩ : ∃ z, z = nx24 + d30 := ⟨_, rfl⟩
    rw [← ex30] at hw
    try rw [← ex30] at hrun
    replace hcR : (((((0 + 1) + d10) + 1) + d24) + d30) + dn30 = dnZ := by omega
    replace hsR : (((((0 + 7) + s10) + 37) + s24) + s30) + ds30 = dsZ := by omega
    replace hnR : nx30l + dn30 = nxZ + dnZ := by omega
    clear en30 es30 ex30
    try dsimp only at hrun
    refine lv_iconst (v := (0 : Int32)) hx hb d_MacroExpandLaw_law_310 (by decide) ?_
    cases hrun
    exact absurd hr1 (by decide)
  · rintro  eq9 H locs ls hw hS hl
    obtain rfl := eq9.symm
    obtain ⟨nx30l, ex30⟩ : ∃ z, z = nx24 + d30 := ⟨_, rfl⟩
    rw [← ex30] at hw
    try rw [← ex30] at hrun
    replace hcR : (((((0 + 1) + d10) + 1) + d24) + d30) + dn30 = dnZ := by omega
    replace hsR : (((((0 + 7) + s10) + 37) + s24) + s30) + ds30 = dsZ := by omega
    replace hnR : nx30l + dn30 = nxZ + dnZ := by omega
    clear en30 es30 ex30
    try dsimp only at hrun
    refine lv_iconst (v := (0 : Int32)) hx hb d_MacroExpandLaw_law_333 (by decide) ?_
    cases hrun
    exact absurd hr1 (by decide)
  · rintro  eq9 H locs ls hw hS hl
    obtain rfl := eq9.symm
    obtain ⟨nx30l, ex30⟩ : ∃ z, z = nx24 + d30 := ⟨_, rfl⟩
    rw [← ex30] at hw
    try rw [← ex30] at hrun
    replace hcR : (((((0 + 1) + d10) + 1) + d24) + d30) + dn30 = dnZ := by omega
    replace hsR : (((((0 + 7) + s10) + 37) + s24) + s30) + ds30 = dsZ := by omega
    replace hnR : nx30l + dn30 = nxZ + dnZ := by omega
    clear en30 es30 ex30
    try dsimp only at hrun
    refine lv_iconst (v := (0 : Int32)) hx hb d_MacroExpandLaw_law_372 (by decide) ?_
    cases hrun
    exact absurd hr1 (by decide)
  · rintro  eq9 H locs ls hw hS hl
    obtain rfl := eq9.symm
    obtain ⟨nx30l, ex30⟩ : ∃ z, z = nx24 + d30 := ⟨_, rfl⟩
    rw [← ex30] at hw
    try rw [← ex30] at hrun
    replace hcR : (((((0 + 1) + d10) + 1) + d24) + d30) + dn30 = dnZ := by omega
    replace hsR : (((((0 + 7) + s10) + 37) + s24) + s30) + ds30 = dsZ := by omega
    replace hnR : nx30l + dn30 = nxZ + dnZ := by omega
    clear en30 es30 ex30
    try dsimp only at hrun
    refine lv_iconst (v := (0 : Int32)) hx hb d_MacroExpandLaw_law_395 (by decide) ?_
    cases hrun
    exact absurd hr1 (by decide)
  · rintro  eq9 H locs ls hw hS hl
    obtain rfl := eq9.symm
    obtain ⟨nx30l, ex30⟩ : ∃ z, z = nx24 + d30 := ⟨_, rfl⟩
    rw [← ex30] at hw
    try rw [← ex30] at hrun
    replace hcR : (((((0 + 1) + d10) + 1) + d24) + d30) + dn30 = dnZ := by omega
    replace hsR : (((((0 + 7) + s10) + 37) + s24) + s30) + ds30 = dsZ := by omega
    replace hnR : nx30l + dn30 = nxZ + dnZ := by omega
    clear en30 es30 ex30
    try dsimp only at hrun
    refine lv_iconst (v := (0 : Int32)) hx hb d_MacroExpandLaw_law_428 (by decide) ?_
    cases hrun
    exact absurd hr1 (by decide)
  · rintro  eq9 H locs ls hw hS hl
    obtain rfl := eq9.symm
    obtain ⟨nx30l, ex30⟩ : ∃ z, z = nx24 + d30 := ⟨_, rfl⟩
    rw [← ex30] at hw
    try rw [← ex30] at hrun
    replace hcR : (((((0 + 1) + d10) + 1) + d24) + d30) + dn30 = dnZ := by omega
    replace hsR : (((((0 + 7) + s10) + 37) + s24) + s30) + ds30 = dsZ := by omega
    replace hnR : nx30l + dn30 = nxZ + dnZ := by omega
    clear en30 es30 ex30
    try dsimp only at hrun
    refine lv_iconst (v := (0 : Int32)) hx hb d_MacroExpandLaw_law_451 (by decide) ?_
    cases hrun
    exact absurd hr1 (by decide)
  · rintro  eq9 H locs ls hw hS hl
    obtain rfl := eq9.symm
    obtain ⟨nx30l, ex30⟩ : ∃ z, z = nx24 + d30 := ⟨_, rfl⟩
    rw [← ex30] at hw
    try rw [← ex30] at hrun
    replace hcR : (((((0 + 1) + d10) + 1) + d24) + d30) + dn30 = dnZ := by omega
    replace hsR : (((((0 + 7) + s10) + 37) + s24) + s30) + ds30 = dsZ := by omega
    replace hnR : nx30l + dn30 = nxZ + dnZ := by omega
    clear en30 es30 ex30
    try dsimp only at hrun
    refine lv_iconst (v := (0 : Int32)) hx hb d_MacroExpandLaw_law_474 (by decide) ?_
    cases hrun
    exact absurd hr1 (by decide)
  · rintro  eq9 H locs ls hw hS hl
    obtain rfl := eq9.symm
    obtain ⟨nx30l, ex30⟩ : ∃ z, z = nx24 + d30 := ⟨_, rfl⟩
    rw [← ex30] at hw
    try rw [← ex30] at hrun
    replace hcR : (((((0 + 1) + d10) + 1) + d24) + d30) + dn30 = dnZ := by omega
    replace hsR : (((((0 + 7) + s10) + 37) + s24) + s30) + ds30 = dsZ := by omega
    replace hnR : nx30l + dn30 = nxZ + dnZ := by omega
    clear en30 es30 ex30
    try dsimp only at hrun
    refine lv_iconst (v := (1 : Int32)) hx hb d_MacroExpandLaw_law_482 (by decide) ?_
    cases hrun
    refine W.widen (k := 600000) (n := 7302250) (by omega) (by omega) ?_
    refine va_forget (fun q9 hq9 => by have z := hS.2.2 q9 hq9; have z2 : b0 ≤ q9.base := z; omega) ?_
    exact lw_ret hx hb hr hlocks d_MacroExpandLaw_law_483
