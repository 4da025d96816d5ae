set_option maxHeartbeats 4000000 in
set_option maxRecDepth 100000 in
theorem c_Expander_putBack (l : Launch) (D : va_G) (dA : Nat → ClassId) (b0 : Nat) (a0 : Nat) (nx : Nat) {h h' : hH} {r : Int32} (hrun : f_Expander_putBack a0 h = some (r, h')) : Met l y_Expander_putBack w_Expander_putBack ({ frames := 1, cells := 0, slots := 0, locals := 21 } : Room) (va_Pc [.ref a0] (hB D dA b0 nx h)) (va_Qi (fun r' (_ : Unit) => r' = r) (fun (_ : Unit) t => hW D dA classes b0 nx h' t.heap) (hA b0)) 0 0 (hA b0) := by
  refine Met.ofW (cc := b_Expander_putBack) (maxL := 1) (ret := (some .int)) (by decide) rfl ?_
  intro p e s m args below meth c s₁ B hml hv
  obtain ⟨rfl, hw, hK, hN⟩ := hv
  have hx := B.exec
  have hb := B.bytes
  have hr := B.returns
  have hlocks := B.notSynchronized
  have S : CallFix p m c b_Expander_putBack 1 s ([.ref a0] : List Value).toArray w_Expander_putBack R_Expander := ⟨hx, hb, hml, findClass_of_methodNamed B.named, atoms_spec (ws := w_Expander_putBack) B.pre⟩
  have hT : ∀ w ∈ tbl, w ∈ w_Expander_putBack := fun _ q => List.mem_cons_of_mem _ q
  have hS : va_S (hA b0) s.heap s.heap [] := va_S.rf
  have hl := lv_entry ([.ref a0]) (n := 1) (Nat.le_of_ble_eq_true rfl)
  rw [lg_entry_eq]
  generalize (lg_sl ([.ref a0]) ++ List.replicate (1 - (lg_sl ([.ref a0])).length) Slot.unset).toArray = ls at hl ⊢
  have hl : lv_has ls 1 [(0, .ref a0)] := hl
  unfold f_Expander_putBack at hrun
  refine lv_aload_n hx hb d_Expander_putBack_0 rfl (lv_at hl 0 rfl) ?_
  replace hrun := hb_some hrun
  obtain ⟨v1, g1, hrun⟩ := hrun
  refine h_getR S (fun w q => hT w (i_Expander w q)) hK (ci := 5) rfl 1 (by decide) (hT _ fl_Expander_15) hw g1 d_Expander_putBack_1 ?_
  replace hrun := hb_some hrun
  obtain ⟨p4, rfl, hrun⟩ := hrun
  replace hrun := hb_some hrun
  obtain ⟨c4, k4, hrun⟩ := hrun
  replace hrun := hb_some hrun
  obtain ⟨v4, g4, hrun⟩ := hrun
  refine h_ci (h_runV S (As := []) (rest := []) (c_Input_isFull l D dA b0 p4 nx g4) (cwV 0 S.2.2.2.2 (h_good _ (h_in4 ml_Expander_118 im_Input_isFull se_Input_isFull it_Input) cd_Input_isFull) rfl rfl rfl (by decide +kernel) ⟨Nat.le_of_ble_eq_true rfl, Nat.le_of_ble_eq_true rfl⟩) hK hN hw (ci := 6) rfl k4 rfl hl.1 (lv_room (Nat.le_of_ble_eq_true rfl)) d_Expander_putBack_4 ⟨Nat.le_refl _, Nat.le_refl _⟩) hS (fun H locs hw hS => ?_)
  refine lv_if_eq (tgt := 13) hx hb d_Expander_putBack_7 (by decide) (fun c7 => ?_) (fun c7 => ?_)
  · rw [if_pos c7] at hrun
    refine lv_aload_n hx hb d_Expander_putBack_13 rfl (lv_at hl 0 rfl) ?_
    refine lv_dup hx hb d_Expander_putBack_14 rfl ?_
    replace hrun := hb_some hrun
    obtain ⟨v15, g15, hrun⟩ := hrun
    refine h_getI S (fun w q => hT w (i_Expander w q)) hK (ci := 5) rfl 9 (by decide) (hT _ fl_Expander_56) hw g15 d_Expander_putBack_15 ?_
    refine lv_iconst (v := (1 : Int32)) hx hb d_Expander_putBack_18 (by decide) ?_
    refine lv_isub hx hb d_Expander_putBack_19 ?_
    replace hrun := hb_some hrun
    obtain ⟨h20, g20, hrun⟩ := hrun
    refine h_put S (fun w q => hT w (i_Expander w q)) t_Expander t_Expander_ok n_Expander hK (ci := 5) rfl 9 (by decide) (hT _ fl_Expander_56) rfl rfl rfl hw hS g20 d_Expander_putBack_20 (fun H locs hw hS => ?_)
    refine lv_aload_n hx hb d_Expander_putBack_23 rfl (lv_at hl 0 rfl) ?_
    refine lv_iconst (v := (0 : Int32)) hx hb d_Expander_putBack_24 (by decide) ?_
    replace hrun := hb_some hrun
    obtain ⟨h25, g25, hrun⟩ := hrun
    obtain ⟨n25, f25, g25⟩ := hpZ_spec g25
    refine h_put S (fun w q => hT w (i_Expander w q)) t_Expander t_Expander_ok n_Expander hK (ci := 5) rfl 11 (by decide) (hT _ fl_Expander_63) rfl n25 f25 hw hS g25 d_Expander_putBack_25 (fun H locs hw hS => ?_)
    refine lv_aload_n hx hb d_Expander_putBack_28 rfl (lv_at hl 0 rfl) ?_
    replace hrun := hb_some hrun
    obtain ⟨v29, g29, hrun⟩ := hrun
    refine h_getR S (fun w q => hT w (i_Expander w q)) hK (ci := 5) rfl 1 (by decide) (hT _ fl_Expander_15) hw g29 d_Expander_putBack_29 ?_
    refine lv_aload_n hx hb d_Expander_putBack_32 rfl (lv_at hl 0 rfl) ?_
    replace hrun := hb_some hrun
    obtain ⟨v33, g33, hrun⟩ := hrun
    refine h_getR S (fun w q => hT w (i_Expander w q)) hK (ci := 5) rfl 6 (by decide) (hT _ fl_Expander_43) hw g33 d_Expander_putBack_33 ?_
    refine lv_aload_n hx hb d_Expander_putBack_36 rfl (lv_at hl 0 rfl) ?_
    replace hrun := hb_some hrun
    obtain ⟨v37, g37, hrun⟩ := hrun
    refine h_getI S (fun w q => hT w (i_Expander w q)) hK (ci := 5) rfl 9 (by decide) (hT _ fl_Expander_56) hw g37 d_Expander_putBack_37 ?_
    replace hrun := hb_some hrun
    obtain ⟨p40, rfl, hrun⟩ := hrun
    replace hrun := hb_some hrun
    obtain ⟨v40, g40, hrun⟩ := hrun
    refine h_iald S hK (kd := 0) rfl hw g40 d_Expander_putBack_40 ?_
    replace hrun := hb_some hrun
    obtain ⟨p41, rfl, hrun⟩ := hrun
    replace hrun := hb_some hrun
    obtain ⟨c41, k41, hrun⟩ := hrun
    replace hrun := hbW_some hrun
    obtain ⟨_u41, h41, g41, hrun⟩ := hrun
    refine h_cv (h_runV S (As := [.int v40]) (rest := []) (c_Input_put l D dA b0 p41 v40 nx g41) (cwV 1 S.2.2.2.2 (h_good _ (h_in4 ml_Expander_121 im_Input_put se_Input_put it_Input) cd_Input_put) rfl rfl rfl (by decide +kernel) ⟨Nat.le_of_ble_eq_true rfl, Nat.le_of_ble_eq_true rfl⟩) hK hN hw (ci := 6) rfl k41 rfl hl.1 (lv_room (Nat.le_of_ble_eq_true rfl)) d_Expander_putBack_41 ⟨Nat.le_refl _, Nat.le_refl _⟩) hS (fun H locs hw hS => ?_)
    refine lv_iconst (v := (0 : Int32)) hx hb d_Expander_putBack_44 (by decide) ?_
    cases hrun
    exact W.iret hx hb hr (fun t ht hW9 => ⟨⟨_, (), rfl, rfl, by show hW D dA classes b0 _ _ t.heap; rw [ht]; exact hw⟩, hS.F ht⟩) hS.2.2 d_Expander_putBack_45
  · rw [if_neg c7] at hrun
    refine lv_bipush (v := (8 : Int32)) hx hb d_Expander_putBack_10 (by decide) ?_
    cases hrun
    exact W.iret hx hb hr (fun t ht hW9 => ⟨⟨_, (), rfl, rfl, by show hW D dA classes b0 _ _ t.heap; rw [ht]; exact hw⟩, hS.F ht⟩) hS.2.2 d_Expander_putBack_12
set_option maxHeartbeats 4000000 in
set_option maxRecDepth 100000 in
theorem c_Expander_expandOnce (l : Launch) (D : va_G) (dA : Nat → ClassId) (b0 : Nat) (n : Nat) (a0 : Nat) (nxZ : Nat) {h h' : hH} {r : Int32} {dnZ dsZ : Nat} (hrun : f_Expander_expandOnce n a0 nxZ h = some (r, dnZ, dsZ, h')) : Met l y_Expander_expandOnce w_Expander_expandOnce ({ frames := 6, cells := dnZ, slots := dsZ, locals := 166 } : Room) (va_Pc [.ref a0] (hB D dA b0 nxZ h)) (va_Qi (fun r' (_ : Unit) => r' = r) (fun (_ : Unit) t => hW D dA classes b0 (nxZ + dnZ) h' t.heap) (hA b0)) dnZ dsZ (hA b0) := by
  refine Met.ofW (cc := b_Expander_expandOnce) (maxL := 5) (ret := (some .int)) (by decide) rfl ?_
  intro p e s m args below meth c s₁ B hml hv
  obtain ⟨rfl, hw, hK, hN⟩ := hv
  have hx := B.exec
  have hb := B.bytes
  have hr := B.returns
  have hlocks := B.notSynchronized
  have S : CallFix p m c b_Expander_expandOnce 5 s ([.ref a0] : List Value).toArray w_Expander_expandOnce R_Expander := ⟨hx, hb, hml, findClass_of_methodNamed B.named, atoms_spec (ws := w_Expander_expandOnce) B.pre⟩
  have hT : ∀ w ∈ tbl, w ∈ w_Expander_expandOnce := fun _ q => List.mem_cons_of_mem _ q
  have hS : va_S (hA b0) s.heap s.heap [] := va_S.rf
  have hl := lv_entry ([.ref a0]) (n := 5) (Nat.le_of_ble_eq_true rfl)
  rw [lg_entry_eq]
  generalize (lg_sl ([.ref a0]) ++ List.replicate (5 - (lg_sl ([.ref a0])).length) Slot.unset).toArray = ls at hl ⊢
  have hl : lv_has ls 5 [(0, .ref a0)] := hl
  obtain ⟨dn, edn⟩ : ∃ z, z = dnZ := ⟨_, rfl⟩
  obtain ⟨ds, eds⟩ : ∃ z, z = dsZ := ⟨_, rfl⟩
  obtain ⟨nx, enx⟩ : ∃ z, z = nxZ := ⟨_, rfl⟩
  rw [← edn, ← eds, ← enx] at hrun
  rw [← enx] at hw
  have hcR : 0 + dn = dnZ := by omega
  have hsR : 0 + ds = dsZ := by omega
  have hnR : nx + dn = nxZ + dnZ := by omega
  clear edn eds enx
  have l_7 : ∀ (n9 : Nat) (x9 : Int32 × Int32) (cells slots dn ds nx : Nat) (h : hH) (b9 : (Int32)) (h9 : hH) (H : Heap) (locs : List Loc) (ls : Array Slot), hloopA (f_Expander_expandOnce_b7 n a0) n9 x9 nx h = some (b9, dn, ds, h9) → cells + dn ≤ dnZ → slots + ds ≤ dsZ → hW D dA classes b0 nx h H → va_S (hA b0) s.heap H locs → lv_has ls 5 (match x9 with | (x1, x2) => [(0, .ref a0), (1, .int x1), (2, .int x2)]) → (∀ (z1 : Int32), b9 = z1 → ∀ (H : Heap) (locs : List Loc) (ls : Array Slot), hW D dA classes b0 (nx + dn) h9 H → va_S (hA b0) s.heap H locs → lv_has ls 5 [(1, .int z1)] → W p l e (headSpec w_Expander_expandOnce ({ frames := 6, cells := dnZ, slots := dsZ, locals := 166 } : Room)).room s m ([.ref a0] : List Value).toArray below meth c H locs (cells + dn) (slots + ds) (MQ below (va_Qi (fun r' (_ : Unit) => r' = r) (fun (_ : Unit) t => hW D dA classes b0 (nxZ + dnZ) h' t.heap) (hA b0)) ([.ref a0] : List Value).toArray s dnZ dsZ (hA b0)) (F0 m 110 ls [])) → W p l e (headSpec w_Expander_expandOnce ({ frames := 6, cells := dnZ, slots := dsZ, locals := 166 } : Room)).room s m ([.ref a0] : List Value).toArray below meth c H locs cells slots (MQ below (va_Qi (fun r' (_ : Unit) => r' = r) (fun (_ : Unit) t => hW D dA classes b0 (nxZ + dnZ) h' t.heap) (hA b0)) ([.ref a0] : List Value).toArray s dnZ dsZ (hA b0)) (F0 m 7 ls []) := by
    intro  n9
    induction n9 with
    | zero =>
      intro x9 cells slots dn ds nx h b9 h9 H locs ls hrun
      cases hrun
    | succ n9 ih =>
      rintro ⟨x1, x2⟩ cells slots dn ds nx h b9 h9 H locs ls hrun hcB hsB hw hS hl k0
      have hl : lv_has ls 5 [(0, .ref a0), (1, .int x1), (2, .int x2)] := hl
      unfold hloopA at hrun
      obtain ⟨q9, dnb, dsb, h9b, dnr, dsr, hbody, hrun9, edn, eds⟩ := hbind_some hrun
      have K0 : (∀ (z1 : Int32) (z2 : Int32), q9 = .inl (z1, z2) → ∀ (H : Heap) (locs : List Loc) (ls : Array Slot), hW D dA classes b0 (nx + dnb) h9b H → va_S (hA b0) s.heap H locs → lv_has ls 5 [(0, .ref a0), (1, .int z1), (2, .int z2)] → W p l e (headSpec w_Expander_expandOnce ({ frames := 6, cells := dnZ, slots := dsZ, locals := 166 } : Room)).room s m ([.ref a0] : List Value).toArray below meth c H locs (cells + dnb) (slots + dsb) (MQ below (va_Qi (fun r' (_ : Unit) => r' = r) (fun (_ : Unit) t => hW D dA classes b0 (nxZ + dnZ) h' t.heap) (hA b0)) ([.ref a0] : List Value).toArray s dnZ dsZ (hA b0)) (F0 m 7 ls [])) := by
        intro z1 z2 eq9 H locs ls hw hS hl
        subst eq9
        exact ih (z1, z2) (cells + dnb) (slots + dsb) dnr dsr (nx + dnb) h9b b9 h9 H locs ls hrun9 (by omega) (by omega) hw hS hl (by have q := k0; rw [show nx + dn = nx + dnb + dnr by omega, show cells + dn = cells + dnb + dnr by omega, show slots + ds = slots + dsb + dsr by omega] at q; exact q)
      have K1 : (∀ (z1 : Int32), q9 = .inr z1 → ∀ (H : Heap) (locs : List Loc) (ls : Array Slot), hW D dA classes b0 (nx + dnb) h9b H → va_S (hA b0) s.heap H locs → lv_has ls 5 [(1, .int z1)] → W p l e (headSpec w_Expander_expandOnce ({ frames := 6, cells := dnZ, slots := dsZ, locals := 166 } : Room)).room s m ([.ref a0] : List Value).toArray below meth c H locs (cells + dnb) (slots + dsb) (MQ below (va_Qi (fun r' (_ : Unit) => r' = r) (fun (_ : Unit) t => hW D dA classes b0 (nxZ + dnZ) h' t.heap) (hA b0)) ([.ref a0] : List Value).toArray s dnZ dsZ (hA b0)) (F0 m 110 ls [])) := by
        intro z1 eq9 H locs ls hw hS hl
        subst eq9
        cases hrun9
        subst edn; subst eds
        exact k0 _ rfl H locs ls hw hS hl
      clear hrun hrun9 ih k0
      have hrun := hbody
      clear hbody
      replace hcB : cells + dnb ≤ dnZ := by omega
      replace hsB : slots + dsb ≤ dsZ := by omega
      clear edn eds
      have j_104 : ∀  (x1 : Int32) (x2 : Int32) (q9 : (Int32 × Int32) ⊕ ((Int32))) (h9 : hH) (cells slots dn ds nx : Nat) (h : hH) (H : Heap) (locs : List Loc) (ls : Array Slot), f_Expander_expandOnce_j104 n a0 x1 x2 nx h = some (q9, dn, ds, h9) → cells + dn ≤ dnZ → slots + ds ≤ dsZ → hW D dA classes b0 nx h H → va_S (hA b0) s.heap H locs → lv_has ls 5 [(0, .ref a0), (1, .int x1), (2, .int x2)] → (∀ (z1 : Int32) (z2 : Int32), q9 = .inl (z1, z2) → ∀ (H : Heap) (locs : List Loc) (ls : Array Slot), hW D dA classes b0 (nx + dn) h9 H → va_S (hA b0) s.heap H locs → lv_has ls 5 [(0, .ref a0), (1, .int z1), (2, .int z2)] → W p l e (headSpec w_Expander_expandOnce ({ frames := 6, cells := dnZ, slots := dsZ, locals := 166 } : Room)).room s m ([.ref a0] : List Value).toArray below meth c H locs (cells + dn) (slots + ds) (MQ below (va_Qi (fun r' (_ : Unit) => r' = r) (fun (_ : Unit) t => hW D dA classes b0 (nxZ + dnZ) h' t.heap) (hA b0)) ([.ref a0] : List Value).toArray s dnZ dsZ (hA b0)) (F0 m 7 ls [])) → (∀ (z1 : Int32), q9 = .inr z1 → ∀ (H : Heap) (locs : List Loc) (ls : Array Slot), hW D dA classes b0 (nx + dn) h9 H → va_S (hA b0) s.heap H locs → lv_has ls 5 [(1, .int z1)] → W p l e (headSpec w_Expander_expandOnce ({ frames := 6, cells := dnZ, slots := dsZ, locals := 166 } : Room)).room s m ([.ref a0] : List Value).toArray below meth c H locs (cells + dn) (slots + ds) (MQ below (va_Qi (fun r' (_ : Unit) => r' = r) (fun (_ : Unit) t => hW D dA classes b0 (nxZ + dnZ) h' t.heap) (hA b0)) ([.ref a0] : List Value).toArray s dnZ dsZ (hA b0)) (F0 m 110 ls [])) → W p l e (headSpec w_Expander_expandOnce ({ frames := 6, cells := dnZ, slots := dsZ, locals := 166 } : Room)).room s m ([.ref a0] : List Value).toArray below meth c H locs cells slots (MQ below (va_Qi (fun r' (_ : Unit) => r' = r) (fun (_ : Unit) t => hW D dA classes b0 (nxZ + dnZ) h' t.heap) (hA b0)) ([.ref a0] : List Value).toArray s dnZ dsZ (hA b0)) (F0 m 104 ls []) := by
        intro x1 x2 q9 h9 cells slots dn ds nx h H locs ls hrun hcB hsB hw hS hl k0 k1
        unfold f_Expander_expandOnce_j104 at hrun
        have hcR : cells + dn = cells + dn := rfl
        have hsR : slots + ds = slots + ds := rfl
        have hnR : nx + dn = nx + dn := rfl
        refine lv_iinc (v := (x2 + (1 : Int32))) (lv' := [(2, .int (x2 + (1 : Int32))), (0, .ref a0), (1, .int x1)]) hx hb d_Expander_expandOnce_104 hl (k := 2) rfl rfl (by decide) rfl (fun ls hl => ?_)
        refine lv_goto (tgt := 7) hx hb d_Expander_expandOnce_107 (by decide) ?_
        cases hrun
        exact W.widen (by omega) (by omega) (k0 x1 (x2 + (1 : Int32)) rfl H locs ls hw hS (lv_sub hl [1, 2, 0] rfl))
      have j_103 : ∀  (x2 : Int32) (y0 : Int32) (q9 : (Int32 × Int32) ⊕ ((Int32))) (h9 : hH) (cells slots dn ds nx : Nat) (h : hH) (H : Heap) (locs : List Loc) (ls : Array Slot), f_Expander_expandOnce_j103 n a0 x2 y0 nx h = some (q9, dn, ds, h9) → cells + dn ≤ dnZ → slots + ds ≤ dsZ → hW D dA classes b0 nx h H → va_S (hA b0) s.heap H locs → lv_has ls 5 [(0, .ref a0), (2, .int x2)] → (∀ (z1 : Int32) (z2 : Int32), q9 = .inl (z1, z2) → ∀ (H : Heap) (locs : List Loc) (ls : Array Slot), hW D dA classes b0 (nx + dn) h9 H → va_S (hA b0) s.heap H locs → lv_has ls 5 [(0, .ref a0), (1, .int z1), (2, .int z2)] → W p l e (headSpec w_Expander_expandOnce ({ frames := 6, cells := dnZ, slots := dsZ, locals := 166 } : Room)).room s m ([.ref a0] : List Value).toArray below meth c H locs (cells + dn) (slots + ds) (MQ below (va_Qi (fun r' (_ : Unit) => r' = r) (fun (_ : Unit) t => hW D dA classes b0 (nxZ + dnZ) h' t.heap) (hA b0)) ([.ref a0] : List Value).toArray s dnZ dsZ (hA b0)) (F0 m 7 ls [])) → (∀ (z1 : Int32), q9 = .inr z1 → ∀ (H : Heap) (locs : List Loc) (ls : Array Slot), hW D dA classes b0 (nx + dn) h9 H → va_S (hA b0) s.heap H locs → lv_has ls 5 [(1, .int z1)] → W p l e (headSpec w_Expander_expandOnce ({ frames := 6, cells := dnZ, slots := dsZ, locals := 166 } : Room)).room s m ([.ref a0] : List Value).toArray below meth c H locs (cells + dn) (slots + ds) (MQ below (va_Qi (fun r' (_ : Unit) => r' = r) (fun (_ : Unit) t => hW D dA classes b0 (nxZ + dnZ) h' t.heap) (hA b0)) ([.ref a0] : List Value).toArray s dnZ dsZ (hA b0)) (F0 m 110 ls [])) → W p l e (headSpec w_Expander_expandOnce ({ frames := 6, cells := dnZ, slots := dsZ, locals := 166 } : Room)).room s m ([.ref a0] : List Value).toArray below meth c H locs cells slots (MQ below (va_Qi (fun r' (_ : Unit) => r' = r) (fun (_ : Unit) t => hW D dA classes b0 (nxZ + dnZ) h' t.heap) (hA b0)) ([.ref a0] : List Value).toArray s dnZ dsZ (hA b0)) (F0 m 103 ls [.int y0]) := by
        intro x2 y0 q9 h9 cells slots dn ds nx h H locs ls hrun hcB hsB hw hS hl k0 k1
        unfold f_Expander_expandOnce_j103 at hrun
        have hcR : cells + dn = cells + dn := rfl
        have hsR : slots + ds = slots + ds := rfl
        have hnR : nx + dn = nx + dn := rfl
        refine lv_istore_n (lv' := [(1, .int y0), (0, .ref a0), (2, .int x2)]) hx hb d_Expander_expandOnce_103 rfl hl (by decide) rfl (fun ls hl => ?_)
        exact j_104 y0 x2 _ _ cells slots _ _ nx h _ _ _ hrun (by omega) (by omega) hw hS (lv_sub hl [1, 0, 2] rfl) k0 k1
      have j_88 : ∀  (x2 : Int32) (x3 : Int32) (q9 : (Int32 × Int32) ⊕ ((Int32))) (h9 : hH) (cells slots dn ds nx : Nat) (h : hH) (H : Heap) (locs : List Loc) (ls : Array Slot), f_Expander_expandOnce_j88 n a0 x2 x3 nx h = some (q9, dn, ds, h9) → cells + dn ≤ dnZ → slots + ds ≤ dsZ → hW D dA classes b0 nx h H → va_S (hA b0) s.heap H locs → lv_has ls 5 [(0, .ref a0), (2, .int x2), (3, .int x3)] → (∀ (z1 : Int32) (z2 : Int32), q9 = .inl (z1, z2) → ∀ (H : Heap) (locs : List Loc) (ls : Array Slot), hW D dA classes b0 (nx + dn) h9 H → va_S (hA b0) s.heap H locs → lv_has ls 5 [(0, .ref a0), (1, .int z1), (2, .int z2)] → W p l e (headSpec w_Expander_expandOnce ({ frames := 6, cells := dnZ, slots := dsZ, locals := 166 } : Room)).room s m ([.ref a0] : List Value).toArray below meth c H locs (cells + dn) (slots + ds) (MQ below (va_Qi (fun r' (_ : Unit) => r' = r) (fun (_ : Unit) t => hW D dA classes b0 (nxZ + dnZ) h' t.heap) (hA b0)) ([.ref a0] : List Value).toArray s dnZ dsZ (hA b0)) (F0 m 7 ls [])) → (∀ (z1 : Int32), q9 = .inr z1 → ∀ (H : Heap) (locs : List Loc) (ls : Array Slot), hW D dA classes b0 (nx + dn) h9 H → va_S (hA b0) s.heap H locs → lv_has ls 5 [(1, .int z1)] → W p l e (headSpec w_Expander_expandOnce ({ frames := 6, cells := dnZ, slots := dsZ, locals := 166 } : Room)).room s m ([.ref a0] : List Value).toArray below meth c H locs (cells + dn) (slots + ds) (MQ below (va_Qi (fun r' (_ : Unit) => r' = r) (fun (_ : Unit) t => hW D dA classes b0 (nxZ + dnZ) h' t.heap) (hA b0)) ([.ref a0] : List Value).toArray s dnZ dsZ (hA b0)) (F0 m 110 ls [])) → W p l e (headSpec w_Expander_expandOnce ({ frames := 6, cells := dnZ, slots := dsZ, locals := 166 } : Room)).room s m ([.ref a0] : List Value).toArray below meth c H locs cells slots (MQ below (va_Qi (fun r' (_ : Unit) => r' = r) (fun (_ : Unit) t => hW D dA classes b0 (nxZ + dnZ) h' t.heap) (hA b0)) ([.ref a0] : List Value).toArray s dnZ dsZ (hA b0)) (F0 m 88 ls []) := by
        intro x2 x3 q9 h9 cells slots dn ds nx h H locs ls hrun hcB hsB hw hS hl k0 k1
        unfold f_Expander_expandOnce_j88 at hrun
        have hcR : cells + dn = cells + dn := rfl
        have hsR : slots + ds = slots + ds := rfl
        have hnR : nx + dn = nx + dn := rfl
        refine lv_iload_n hx hb d_Expander_expandOnce_88 rfl (lv_at hl 2 rfl) ?_
        refine lv_if_eq (tgt := 99) hx hb d_Expander_expandOnce_89 (by decide) (fun c89 => ?_) (fun c89 => ?_)
        · rw [if_pos c89] at hrun
          refine lv_aload_n hx hb d_Expander_expandOnce_99 rfl (lv_at hl 0 rfl) ?_
          replace hrun := hb_some hrun
          obtain ⟨c100, k100, hrun⟩ := hrun
          replace hrun := hbW_some hrun
          obtain ⟨v100, h100, g100, hrun⟩ := hrun
          refine h_ci (h_runV S (As := []) (rest := []) (c_Expander_putBack l D dA b0 a0 nx g100) (cwV 0 S.2.2.2.2 (h_good _ (h_in4 ml_Expander_99 im_Expander_putBack se_Expander_putBack it_Expander) cd_Expander_putBack) rfl rfl rfl (by decide +kernel) ⟨Nat.le_of_ble_eq_true rfl, Nat.le_of_ble_eq_true rfl⟩) hK hN hw (ci := 5) rfl k100 rfl hl.1 (lv_room (Nat.le_of_ble_eq_true rfl)) d_Expander_expandOnce_100 ⟨show cells + 0 ≤ dnZ by omega, show slots + 0 ≤ dsZ by omega⟩) hS (fun H locs hw hS => ?_)
          exact j_103 x2 v100 _ _ cells slots _ _ nx h100 _ _ _ hrun (by omega) (by omega) hw hS (lv_sub hl [0, 1] rfl) k0 k1
        · rw [if_neg c89] at hrun
          refine lv_aload_n hx hb d_Expander_expandOnce_92 rfl (lv_at hl 0 rfl) ?_
          replace hrun := hb_some hrun
          obtain ⟨c93, k93, hrun⟩ := hrun
          replace hrun := hbW_some hrun
          obtain ⟨v93, h93, g93, hrun⟩ := hrun
          refine h_ci (h_runV S (As := []) (rest := []) (c_Expander_goOnNaming l D dA b0 n a0 nx g93) (cwV 0 S.2.2.2.2 (h_good _ (h_in4 ml_Expander_96 im_Expander_goOnNaming se_Expander_goOnNaming it_Expander) cd_Expander_goOnNaming) rfl rfl rfl (by decide +kernel) ⟨Nat.le_of_ble_eq_true rfl, Nat.le_of_ble_eq_true rfl⟩) hK hN hw (ci := 5) rfl k93 rfl hl.1 (lv_room (Nat.le_of_ble_eq_true rfl)) d_Expander_expandOnce_93 ⟨show cells + 0 ≤ dnZ by omega, show slots + 0 ≤ dsZ by omega⟩) hS (fun H locs hw hS => ?_)
          refine lv_goto (tgt := 103) hx hb d_Expander_expandOnce_96 (by decide) ?_
          exact j_103 x2 v93 _ _ cells slots _ _ nx h93 _ _ _ hrun (by omega) (by omega) hw hS (lv_sub hl [0, 1] rfl) k0 k1
      have j_61 : ∀  (x2 : Int32) (x3 : Int32) (y0 : Int32) (q9 : (Int32 × Int32) ⊕ ((Int32))) (h9 : hH) (cells slots dn ds nx : Nat) (h : hH) (H : Heap) (locs : List Loc) (ls : Array Slot), f_Expander_expandOnce_j61 n a0 x2 x3 y0 nx h = some (q9, dn, ds, h9) → cells + dn ≤ dnZ → slots + ds ≤ dsZ → hW D dA classes b0 nx h H → va_S (hA b0) s.heap H locs → lv_has ls 5 [(0, .ref a0), (2, .int x2), (3, .int x3)] → (∀ (z1 : Int32) (z2 : Int32), q9 = .inl (z1, z2) → ∀ (H : Heap) (locs : List Loc) (ls : Array Slot), hW D dA classes b0 (nx + dn) h9 H → va_S (hA b0) s.heap H locs → lv_has ls 5 [(0, .ref a0), (1, .int z1), (2, .int z2)] → W p l e (headSpec w_Expander_expandOnce ({ frames := 6, cells := dnZ, slots := dsZ, locals := 166 } : Room)).room s m ([.ref a0] : List Value).toArray below meth c H locs (cells + dn) (slots + ds) (MQ below (va_Qi (fun r' (_ : Unit) => r' = r) (fun (_ : Unit) t => hW D dA classes b0 (nxZ + dnZ) h' t.heap) (hA b0)) ([.ref a0] : List Value).toArray s dnZ dsZ (hA b0)) (F0 m 7 ls [])) → (∀ (z1 : Int32), q9 = .inr z1 → ∀ (H : Heap) (locs : List Loc) (ls : Array Slot), hW D dA classes b0 (nx + dn) h9 H → va_S (hA b0) s.heap H locs → lv_has ls 5 [(1, .int z1)] → W p l e (headSpec w_Expander_expandOnce ({ frames := 6, cells := dnZ, slots := dsZ, locals := 166 } : Room)).room s m ([.ref a0] : List Value).toArray below meth c H locs (cells + dn) (slots + ds) (MQ below (va_Qi (fun r' (_ : Unit) => r' = r) (fun (_ : Unit) t => hW D dA classes b0 (nxZ + dnZ) h' t.heap) (hA b0)) ([.ref a0] : List Value).toArray s dnZ dsZ (hA b0)) (F0 m 110 ls [])) → W p l e (headSpec w_Expander_expandOnce ({ frames := 6, cells := dnZ, slots := dsZ, locals := 166 } : Room)).room s m ([.ref a0] : List Value).toArray below meth c H locs cells slots (MQ below (va_Qi (fun r' (_ : Unit) => r' = r) (fun (_ : Unit) t => hW D dA classes b0 (nxZ + dnZ) h' t.heap) (hA b0)) ([.ref a0] : List Value).toArray s dnZ dsZ (hA b0)) (F0 m 61 ls [.int y0]) := by
        intro x2 x3 y0 q9 h9 cells slots dn ds nx h H locs ls hrun hcB hsB hw hS hl k0 k1
        unfold f_Expander_expandOnce_j61 at hrun
        have hcR : cells + dn = cells + dn := rfl
        have hsR : slots + ds = slots + ds := rfl
        have hnR : nx + dn = nx + dn := rfl
        refine lv_istore (lv' := [(4, .int y0), (0, .ref a0), (2, .int x2), (3, .int x3)]) hx hb d_Expander_expandOnce_61 hl (by decide) rfl (fun ls hl => ?_)
        refine lv_aload_n hx hb d_Expander_expandOnce_63 rfl (lv_at hl 1 rfl) ?_
        refine lv_iconst (v := (0 : Int32)) hx hb d_Expander_expandOnce_64 (by decide) ?_
        replace hrun := hb_some hrun
        obtain ⟨h65, g65, hrun⟩ := hrun
        obtain ⟨n65, f65, g65⟩ := hpZ_spec g65
        refine h_put S (fun w q => hT w (i_Expander w q)) t_Expander t_Expander_ok n_Expander hK (ci := 5) rfl 10 (by decide) (hT _ fl_Expander_59) rfl n65 f65 hw hS g65 d_Expander_expandOnce_65 (fun H locs hw hS => ?_)
        refine lv_iload hx hb d_Expander_expandOnce_68 (lv_at hl 0 rfl) ?_
        refine lv_if_eq (tgt := 88) hx hb d_Expander_expandOnce_70 (by decide) (fun c70 => ?_) (fun c70 => ?_)
        · rw [if_pos c70] at hrun
          exact j_88 x2 x3 _ _ cells slots _ _ nx h65 _ _ _ hrun (by omega) (by omega) hw hS (lv_sub hl [1, 2, 3] rfl) k0 k1
        · rw [if_neg c70] at hrun
          refine lv_aload_n hx hb d_Expander_expandOnce_73 rfl (lv_at hl 1 rfl) ?_
          replace hrun := hb_some hrun
          obtain ⟨c74, k74, hrun⟩ := hrun
          replace hrun := hb_some hrun
          obtain ⟨v74, g74, hrun⟩ := hrun
          refine h_ci (h_runV S (As := []) (rest := []) (c_Expander_canExpand l D dA b0 a0 nx g74) (cwV 0 S.2.2.2.2 (h_good _ (h_in4 ml_Expander_92 im_Expander_canExpand se_Expander_canExpand it_Expander) cd_Expander_canExpand) rfl rfl rfl (by decide +kernel) ⟨Nat.le_of_ble_eq_true rfl, Nat.le_of_ble_eq_true rfl⟩) hK hN hw (ci := 5) rfl k74 rfl hl.1 (lv_room (Nat.le_of_ble_eq_true rfl)) d_Expander_expandOnce_74 ⟨show cells + 0 ≤ dnZ by omega, show slots + 0 ≤ dsZ by omega⟩) hS (fun H locs hw hS => ?_)
          refine lv_if_eq (tgt := 88) hx hb d_Expander_expandOnce_77 (by decide) (fun c77 => ?_) (fun c77 => ?_)
          · rw [if_pos c77] at hrun
            exact j_88 x2 x3 _ _ cells slots _ _ nx h65 _ _ _ hrun (by omega) (by omega) hw hS (lv_sub hl [1, 2, 3] rfl) k0 k1
          · rw [if_neg c77] at hrun
            refine lv_aload_n hx hb d_Expander_expandOnce_80 rfl (lv_at hl 1 rfl) ?_
            replace hrun := hb_some hrun
            obtain ⟨c81, k81, hrun⟩ := hrun
            replace hrun := hbind_some hrun
            obtain ⟨v81, d81, s81, h81, dn81, ds81, g81, hrun, en81, es81⟩ := hrun
            refine h_ci (h_runV S (As := []) (rest := []) (c_Expander_expandFirst l D dA b0 n a0 nx g81) (cwV 0 S.2.2.2.2 (h_good _ (h_in4 ml_Expander_88 im_Expander_expandFirst se_Expander_expandFirst it_Expander) cd_Expander_expandFirst) rfl rfl rfl (by decide +kernel) ⟨Nat.le_of_ble_eq_true rfl, Nat.le_of_ble_eq_true rfl⟩) hK hN hw (ci := 5) rfl k81 rfl hl.1 (lv_room (Nat.le_of_ble_eq_true rfl)) d_Expander_expandOnce_81 ⟨show cells + d81 ≤ dnZ by omega, show slots + s81 ≤ dsZ by omega⟩) hS (fun H locs hw hS => ?_)
            obtain ⟨nx81, ex81⟩ : ∃ z, z = nx + d81 := ⟨_, rfl⟩
            rw [← ex81] at hw
            try rw [← ex81] at hrun
            replace hcR : (cells + d81) + dn81 = cells + dn := by omega
            replace hsR : (slots + s81) + ds81 = slots + ds := by omega
            replace hnR : nx81 + dn81 = nx + dn := by omega
            clear en81 es81 ex81
            refine lv_istore_n (lv' := [(1, .int v81), (4, .int y0), (0, .ref a0), (2, .int x2), (3, .int x3)]) hx hb d_Expander_expandOnce_84 rfl hl (by decide) rfl (fun ls hl => ?_)
            refine lv_goto (tgt := 104) hx hb d_Expander_expandOnce_85 (by decide) ?_
            exact j_104 v81 x2 _ _ (cells + d81) (slots + s81) _ _ nx81 h81 _ _ _ hrun (by omega) (by omega) hw hS (lv_sub hl [2, 0, 3] rfl) (by have q := k0; rw [show nx + dn = nx81 + dn81 by omega, show cells + dn = (cells + d81) + dn81 by omega, show slots + ds = (slots + s81) + ds81 by omega] at q; exact q) (by have q := k1; rw [show nx + dn = nx81 + dn81 by omega, show cells + dn = (cells + d81) + dn81 by omega, show slots + ds = (slots + s81) + ds81 by omega] at q; exact q)
      have j_56 : ∀  (x2 : Int32) (x3 : Int32) (q9 : (Int32 × Int32) ⊕ ((Int32))) (h9 : hH) (cells slots dn ds nx : Nat) (h : hH) (H : Heap) (locs : List Loc) (ls : Array Slot), f_Expander_expandOnce_j56 n a0 x2 x3 nx h = some (q9, dn, ds, h9) → cells + dn ≤ dnZ → slots + ds ≤ dsZ → hW D dA classes b0 nx h H → va_S (hA b0) s.heap H locs → lv_has ls 5 [(0, .ref a0), (2, .int x2), (3, .int x3)] → (∀ (z1 : Int32) (z2 : Int32), q9 = .inl (z1, z2) → ∀ (H : Heap) (locs : List Loc) (ls : Array Slot), hW D dA classes b0 (nx + dn) h9 H → va_S (hA b0) s.heap H locs → lv_has ls 5 [(0, .ref a0), (1, .int z1), (2, .int z2)] → W p l e (headSpec w_Expander_expandOnce ({ frames := 6, cells := dnZ, slots := dsZ, locals := 166 } : Room)).room s m ([.ref a0] : List Value).toArray below meth c H locs (cells + dn) (slots + ds) (MQ below (va_Qi (fun r' (_ : Unit) => r' = r) (fun (_ : Unit) t => hW D dA classes b0 (nxZ + dnZ) h' t.heap) (hA b0)) ([.ref a0] : List Value).toArray s dnZ dsZ (hA b0)) (F0 m 7 ls [])) → (∀ (z1 : Int32), q9 = .inr z1 → ∀ (H : Heap) (locs : List Loc) (ls : Array Slot), hW D dA classes b0 (nx + dn) h9 H → va_S (hA b0) s.heap H locs → lv_has ls 5 [(1, .int z1)] → W p l e (headSpec w_Expander_expandOnce ({ frames := 6, cells := dnZ, slots := dsZ, locals := 166 } : Room)).room s m ([.ref a0] : List Value).toArray below meth c H locs (cells + dn) (slots + ds) (MQ below (va_Qi (fun r' (_ : Unit) => r' = r) (fun (_ : Unit) t => hW D dA classes b0 (nxZ + dnZ) h' t.heap) (hA b0)) ([.ref a0] : List Value).toArray s dnZ dsZ (hA b0)) (F0 m 110 ls [])) → W p l e (headSpec w_Expander_expandOnce ({ frames := 6, cells := dnZ, slots := dsZ, locals := 166 } : Room)).room s m ([.ref a0] : List Value).toArray below meth c H locs cells slots (MQ below (va_Qi (fun r' (_ : Unit) => r' = r) (fun (_ : Unit) t => hW D dA classes b0 (nxZ + dnZ) h' t.heap) (hA b0)) ([.ref a0] : List Value).toArray s dnZ dsZ (hA b0)) (F0 m 56 ls []) := by
        intro x2 x3 q9 h9 cells slots dn ds nx h H locs ls hrun hcB hsB hw hS hl k0 k1
        unfold f_Expander_expandOnce_j56 at hrun
        have hcR : cells + dn = cells + dn := rfl
        have hsR : slots + ds = slots + ds := rfl
        have hnR : nx + dn = nx + dn := rfl
        refine lv_iconst (v := (1 : Int32)) hx hb d_Expander_expandOnce_56 (by decide) ?_
        refine lv_goto (tgt := 61) hx hb d_Expander_expandOnce_57 (by decide) ?_
        exact j_61 x2 x3 (1 : Int32) _ _ cells slots _ _ nx h _ _ _ hrun (by omega) (by omega) hw hS (lv_sub hl [0, 1, 2] rfl) k0 k1
      have j_44 : ∀  (x2 : Int32) (y0 : Int32) (q9 : (Int32 × Int32) ⊕ ((Int32))) (h9 : hH) (cells slots dn ds nx : Nat) (h : hH) (H : Heap) (locs : List Loc) (ls : Array Slot), f_Expander_expandOnce_j44 n a0 x2 y0 nx h = some (q9, dn, ds, h9) → cells + dn ≤ dnZ → slots + ds ≤ dsZ → hW D dA classes b0 nx h H → va_S (hA b0) s.heap H locs → lv_has ls 5 [(0, .ref a0), (2, .int x2)] → (∀ (z1 : Int32) (z2 : Int32), q9 = .inl (z1, z2) → ∀ (H : Heap) (locs : List Loc) (ls : Array Slot), hW D dA classes b0 (nx + dn) h9 H → va_S (hA b0) s.heap H locs → lv_has ls 5 [(0, .ref a0), (1, .int z1), (2, .int z2)] → W p l e (headSpec w_Expander_expandOnce ({ frames := 6, cells := dnZ, slots := dsZ, locals := 166 } : Room)).room s m ([.ref a0] : List Value).toArray below meth c H locs (cells + dn) (slots + ds) (MQ below (va_Qi (fun r' (_ : Unit) => r' = r) (fun (_ : Unit) t => hW D dA classes b0 (nxZ + dnZ) h' t.heap) (hA b0)) ([.ref a0] : List Value).toArray s dnZ dsZ (hA b0)) (F0 m 7 ls [])) → (∀ (z1 : Int32), q9 = .inr z1 → ∀ (H : Heap) (locs : List Loc) (ls : Array Slot), hW D dA classes b0 (nx + dn) h9 H → va_S (hA b0) s.heap H locs → lv_has ls 5 [(1, .int z1)] → W p l e (headSpec w_Expander_expandOnce ({ frames := 6, cells := dnZ, slots := dsZ, locals := 166 } : Room)).room s m ([.ref a0] : List Value).toArray below meth c H locs (cells + dn) (slots + ds) (MQ below (va_Qi (fun r' (_ : Unit) => r' = r) (fun (_ : Unit) t => hW D dA classes b0 (nxZ + dnZ) h' t.heap) (hA b0)) ([.ref a0] : List Value).toArray s dnZ dsZ (hA b0)) (F0 m 110 ls [])) → W p l e (headSpec w_Expander_expandOnce ({ frames := 6, cells := dnZ, slots := dsZ, locals := 166 } : Room)).room s m ([.ref a0] : List Value).toArray below meth c H locs cells slots (MQ below (va_Qi (fun r' (_ : Unit) => r' = r) (fun (_ : Unit) t => hW D dA classes b0 (nxZ + dnZ) h' t.heap) (hA b0)) ([.ref a0] : List Value).toArray s dnZ dsZ (hA b0)) (F0 m 44 ls [.int y0]) := by
        intro x2 y0 q9 h9 cells slots dn ds nx h H locs ls hrun hcB hsB hw hS hl k0 k1
        unfold f_Expander_expandOnce_j44 at hrun
        have hcR : cells + dn = cells + dn := rfl
        have hsR : slots + ds = slots + ds := rfl
        have hnR : nx + dn = nx + dn := rfl
        refine lv_istore_n (lv' := [(3, .int y0), (0, .ref a0), (2, .int x2)]) hx hb d_Expander_expandOnce_44 rfl hl (by decide) rfl (fun ls hl => ?_)
        refine lv_iload_n hx hb d_Expander_expandOnce_45 rfl (lv_at hl 0 rfl) ?_
        refine lv_if_ne (tgt := 56) hx hb d_Expander_expandOnce_46 (by decide) (fun c46 => ?_) (fun c46 => ?_)
        · rw [if_neg c46] at hrun
          exact j_56 x2 y0 _ _ cells slots _ _ nx h _ _ _ hrun (by omega) (by omega) hw hS (lv_sub hl [1, 2, 0] rfl) k0 k1
        · rw [if_pos c46] at hrun
          refine lv_aload_n hx hb d_Expander_expandOnce_49 rfl (lv_at hl 1 rfl) ?_
          replace hrun := hb_some hrun
          obtain ⟨v50, g50, hrun⟩ := hrun
          refine h_getI S (fun w q => hT w (i_Expander w q)) hK (ci := 5) rfl 10 (by decide) (hT _ fl_Expander_59) hw g50 d_Expander_expandOnce_50 ?_
          refine lv_if_eq (tgt := 60) hx hb d_Expander_expandOnce_53 (by decide) (fun c53 => ?_) (fun c53 => ?_)
          · rw [if_pos c53] at hrun
            refine lv_iconst (v := (0 : Int32)) hx hb d_Expander_expandOnce_60 (by decide) ?_
            exact j_61 x2 y0 (0 : Int32) _ _ cells slots _ _ nx h _ _ _ hrun (by omega) (by omega) hw hS (lv_sub hl [1, 2, 0] rfl) k0 k1
          · rw [if_neg c53] at hrun
            exact j_56 x2 y0 _ _ cells slots _ _ nx h _ _ _ hrun (by omega) (by omega) hw hS (lv_sub hl [1, 2, 0] rfl) k0 k1
      dsimp only [f_Expander_expandOnce_b7] at hrun
      have hcR : cells + dnb = cells + dnb := rfl
      have hsR : slots + dsb = slots + dsb := rfl
      have hnR : nx + dnb = nx + dnb := rfl
      refine lv_iload_n hx hb d_Expander_expandOnce_7 rfl (lv_at hl 2 rfl) ?_
      refine lv_ldc hx hb S.2.2.2.1 (S.2.2.2.2 _ (hT _ ct_Expander_91)) d_Expander_expandOnce_8 ?_
      refine lv_icmp_ge (tgt := 110) hx hb d_Expander_expandOnce_10 (by decide) (fun c10 => ?_) (fun c10 => ?_)
      · rw [if_pos c10] at hrun
        cases hrun
        exact W.widen (by omega) (by omega) (K1 x1 rfl H locs ls hw hS (lv_sub hl [1] rfl))
      · rw [if_neg c10] at hrun
        refine lv_iload_n hx hb d_Expander_expandOnce_13 rfl (lv_at hl 1 rfl) ?_
        refine lv_if_ne (tgt := 110) hx hb d_Expander_expandOnce_14 (by decide) (fun c14 => ?_) (fun c14 => ?_)
        · rw [if_neg c14] at hrun
          cases hrun
          exact W.widen (by omega) (by omega) (K1 x1 rfl H locs ls hw hS (lv_sub hl [1] rfl))
        · rw [if_pos c14] at hrun
          refine lv_aload_n hx hb d_Expander_expandOnce_17 rfl (lv_at hl 0 rfl) ?_
          replace hrun := hb_some hrun
          obtain ⟨v18, g18, hrun⟩ := hrun
          refine h_getI S (fun w q => hT w (i_Expander w q)) hK (ci := 5) rfl 9 (by decide) (hT _ fl_Expander_56) hw g18 d_Expander_expandOnce_18 ?_
          refine lv_if_le (tgt := 110) hx hb d_Expander_expandOnce_21 (by decide) (fun c21 => ?_) (fun c21 => ?_)
          · rw [if_pos c21] at hrun
            cases hrun
            exact W.widen (by omega) (by omega) (K1 x1 rfl H locs ls hw hS (lv_sub hl [1] rfl))
          · rw [if_neg c21] at hrun
            refine lv_aload_n hx hb d_Expander_expandOnce_24 rfl (lv_at hl 0 rfl) ?_
            replace hrun := hb_some hrun
            obtain ⟨v25, g25, hrun⟩ := hrun
            refine h_getR S (fun w q => hT w (i_Expander w q)) hK (ci := 5) rfl 6 (by decide) (hT _ fl_Expander_43) hw g25 d_Expander_expandOnce_25 ?_
            refine lv_aload_n hx hb d_Expander_expandOnce_28 rfl (lv_at hl 0 rfl) ?_
            replace hrun := hb_some hrun
            obtain ⟨v29, g29, hrun⟩ := hrun
            refine h_getI S (fun w q => hT w (i_Expander w q)) hK (ci := 5) rfl 9 (by decide) (hT _ fl_Expander_56) hw g29 d_Expander_expandOnce_29 ?_
            refine lv_iconst (v := (1 : Int32)) hx hb d_Expander_expandOnce_32 (by decide) ?_
            refine lv_isub hx hb d_Expander_expandOnce_33 ?_
            replace hrun := hb_some hrun
            obtain ⟨p34, rfl, hrun⟩ := hrun
            replace hrun := hb_some hrun
            obtain ⟨v34, g34, hrun⟩ := hrun
            refine h_iald S hK (kd := 0) rfl hw g34 d_Expander_expandOnce_34 ?_
            refine lv_iconst (v := (-1 : Int32)) hx hb d_Expander_expandOnce_35 (by decide) ?_
            refine lv_icmp_ne (tgt := 43) hx hb d_Expander_expandOnce_36 (by decide) (fun c36 => ?_) (fun c36 => ?_)
            · rw [if_neg c36] at hrun
              refine lv_iconst (v := (0 : Int32)) hx hb d_Expander_expandOnce_43 (by decide) ?_
              exact j_44 x2 (0 : Int32) _ _ cells slots _ _ nx h _ _ _ hrun (by omega) (by omega) hw hS (lv_sub hl [0, 2] rfl) K0 K1
            · rw [if_pos c36] at hrun
              refine lv_iconst (v := (1 : Int32)) hx hb d_Expander_expandOnce_39 (by decide) ?_
              refine lv_goto (tgt := 44) hx hb d_Expander_expandOnce_40 (by decide) ?_
              exact j_44 x2 (1 : Int32) _ _ cells slots _ _ nx h _ _ _ hrun (by omega) (by omega) hw hS (lv_sub hl [0, 2] rfl) K0 K1
  unfold f_Expander_expandOnce at hrun
  refine lv_aload_n hx hb d_Expander_expandOnce_0 rfl (lv_at hl 0 rfl) ?_
  replace hrun := hb_some hrun
  obtain ⟨c1, k1, hrun⟩ := hrun
  replace hrun := hbind_some hrun
  obtain ⟨v1, d1, s1, h1, dn1, ds1, g1, hrun, en1, es1⟩ := hrun
  refine h_ci (h_runV S (As := []) (rest := []) (c_Expander_expandFirst l D dA b0 n a0 nx g1) (cwV 0 S.2.2.2.2 (h_good _ (h_in4 ml_Expander_88 im_Expander_expandFirst se_Expander_expandFirst it_Expander) cd_Expander_expandFirst) rfl rfl rfl (by decide +kernel) ⟨Nat.le_of_ble_eq_true rfl, Nat.le_of_ble_eq_true rfl⟩) hK hN hw (ci := 5) rfl k1 rfl hl.1 (lv_room (Nat.le_of_ble_eq_true rfl)) d_Expander_expandOnce_1 ⟨show 0 + d1 ≤ dnZ by omega, show 0 + s1 ≤ dsZ by omega⟩) hS (fun H locs hw hS => ?_)
  obtain ⟨nx1, ex1⟩ : ∃ z, z = nx + d1 := ⟨_, rfl⟩
  rw [← ex1] at hw
  try rw [← ex1] at hrun
  replace hcR : (0 + d1) + dn1 = dnZ := by omega
  replace hsR : (0 + s1) + ds1 = dsZ := by omega
  replace hnR : nx1 + dn1 = nxZ + dnZ := by omega
  clear en1 es1 ex1
  refine lv_istore_n (lv' := [(1, .int v1), (0, .ref a0)]) hx hb d_Expander_expandOnce_4 rfl hl (by decide) rfl (fun ls hl => ?_)
  refine lv_iconst (v := (0 : Int32)) hx hb d_Expander_expandOnce_5 (by decide) ?_
  refine lv_istore_n (lv' := [(2, .int (0 : Int32)), (1, .int v1), (0, .ref a0)]) hx hb d_Expander_expandOnce_6 rfl hl (by decide) rfl (fun ls hl => ?_)
  replace hrun := hbind_some hrun
  obtain ⟨b7, d7, s7, h7l, dn7, ds7, g7, hrun, en7, es7⟩ := hrun
  refine l_7 n (v1, (0 : Int32)) (0 + d1) (0 + s1) _ _ nx1 h1 _ _ _ _ _ g7 (by omega) (by omega) hw hS (lv_sub hl [2, 1, 0] rfl) ?_
  · rintro x1_7 eq9 H locs ls hw hS hl
    obtain rfl := eq9.symm
    obtain ⟨nx7l, ex7⟩ : ∃ z, z = nx1 + d7 := ⟨_, rfl⟩
    rw [← ex7] at hw
    try rw [← ex7] at hrun
    replace hcR : ((0 + d1) + d7) + dn7 = dnZ := by omega
    replace hsR : ((0 + s1) + s7) + ds7 = dsZ := by omega
    replace hnR : nx7l + dn7 = nxZ + dnZ := by omega
    clear en7 es7 ex7
    try dsimp only at hrun
    refine lv_iload_n hx hb d_Expander_expandOnce_110 rfl (lv_at hl 0 rfl) ?_
    cases hrun
    refine W.widen (k := dnZ) (n := dsZ) (by omega) (by omega) ?_
    rw [show nx7l = nxZ + dnZ by omega] at hw
    exact W.iret hx hb hr (fun t ht hW9 => ⟨⟨_, (), rfl, rfl, by show hW D dA classes b0 _ _ t.heap; rw [ht]; exact hw⟩, hS.F ht⟩) hS.2.2 d_Expander_expandOnce_111
set_option maxHeartbeats 4000000 in
set_option maxRecDepth 100000 in
theorem c_Definition_acceptName (l : Launch) (D : va_G) (dA : Nat → ClassId) (b0 : Nat) (a0 : Nat) (i1 : Int32) (nx : Nat) {h h' : hH} {r : Int32} (hrun : f_Definition_acceptName a0 i1 h = some (r, h')) : Met l y_Definition_acceptName w_Definition_acceptName ({ frames := 1, cells := 0, slots := 0, locals := 20 } : Room) (va_Pc [.ref a0, .int i1] (hB D dA b0 nx h)) (va_Qi (fun r' (_ : Unit) => r' = r) (fun (_ : Unit) t => hW D dA classes b0 nx h' t.heap) (hA b0)) 0 0 (hA b0) := by
  refine Met.ofW (cc := b_Definition_acceptName) (maxL := 2) (ret := (some .int)) (by decide) rfl ?_
  intro p e s m args below meth c s₁ B hml hv
  obtain ⟨rfl, hw, hK, hN⟩ := hv
  have hx := B.exec
  have hb := B.bytes
  have hr := B.returns
  have hlocks := B.notSynchronized
  have S : CallFix p m c b_Definition_acceptName 2 s ([.ref a0, .int i1] : List Value).toArray w_Definition_acceptName R_Definition := ⟨hx, hb, hml, findClass_of_methodNamed B.named, atoms_spec (ws := w_Definition_acceptName) B.pre⟩
  have hT : ∀ w ∈ tbl, w ∈ w_Definition_acceptName := fun _ q => List.mem_cons_of_mem _ q
  have hS : va_S (hA b0) s.heap s.heap [] := va_S.rf
  have hl := lv_entry ([.ref a0, .int i1]) (n := 2) (Nat.le_of_ble_eq_true rfl)
  rw [lg_entry_eq]
  generalize (lg_sl ([.ref a0, .int i1]) ++ List.replicate (2 - (lg_sl ([.ref a0, .int i1])).length) Slot.unset).toArray = ls at hl ⊢
  have hl : lv_has ls 2 [(0, .ref a0), (1, .int i1)] := hl
  unfold f_Definition_acceptName at hrun
  refine lv_iload_n hx hb d_Definition_acceptName_0 rfl (lv_at hl 1 rfl) ?_
  replace hrun := hb_some hrun
  obtain ⟨v1, g1, hrun⟩ := hrun
  refine h_ci (h_runS S (As := [.int i1]) (rest := []) (c_Kind_isName l D dA b0 i1 nx g1) (va_cwS 1 S.2.2.2.2 (h_good _ (h_in3 ml_Definition_58 sm_Kind_isName it_Kind) cd_Kind_isName) rfl rfl rfl (by decide +kernel) ⟨Nat.le_of_ble_eq_true rfl, Nat.le_of_ble_eq_true rfl⟩) hK hN hw rfl hl.1 (lv_room (Nat.le_of_ble_eq_true rfl)) d_Definition_acceptName_1 ⟨Nat.le_refl _, Nat.le_refl _⟩) hS (fun H locs hw hS => ?_)
  refine lv_if_ne (tgt := 10) hx hb d_Definition_acceptName_4 (by decide) (fun c4 => ?_) (fun c4 => ?_)
  · rw [if_neg c4] at hrun
    refine lv_aload_n hx hb d_Definition_acceptName_10 rfl (lv_at hl 0 rfl) ?_
    refine lv_iload_n hx hb d_Definition_acceptName_11 rfl (lv_at hl 1 rfl) ?_
    replace hrun := hb_some hrun
    obtain ⟨h12, g12, hrun⟩ := hrun
    refine h_put S (fun w q => hT w (i_Definition w q)) t_Definition t_Definition_ok n_Definition hK (ci := 4) rfl 4 (by decide) (hT _ fl_Definition_35) rfl rfl rfl hw hS g12 d_Definition_acceptName_12 (fun H locs hw hS => ?_)
    refine lv_aload_n hx hb d_Definition_acceptName_15 rfl (lv_at hl 0 rfl) ?_
    refine lv_iconst (v := (2 : Int32)) hx hb d_Definition_acceptName_16 (by decide) ?_
    replace hrun := hb_some hrun
    obtain ⟨h17, g17, hrun⟩ := hrun
    refine h_put S (fun w q => hT w (i_Definition w q)) t_Definition t_Definition_ok n_Definition hK (ci := 4) rfl 2 (by decide) (hT _ fl_Definition_24) rfl rfl rfl hw hS g17 d_Definition_acceptName_17 (fun H locs hw hS => ?_)
    refine lv_iconst (v := (0 : Int32)) hx hb d_Definition_acceptName_20 (by decide) ?_
    cases hrun
    exact W.iret hx hb hr (fun t ht hW9 => ⟨⟨_, (), rfl, rfl, by show hW D dA classes b0 _ _ t.heap; rw [ht]; exact hw⟩, hS.F ht⟩) hS.2.2 d_Definition_acceptName_21
  · rw [if_pos c4] at hrun
    refine lv_bipush (v := (6 : Int32)) hx hb d_Definition_acceptName_7 (by decide) ?_
    cases hrun
    exact W.iret hx hb hr (fun t ht hW9 => ⟨⟨_, (), rfl, rfl, by show hW D dA classes b0 _ _ t.heap; rw [ht]; exact hw⟩, hS.F ht⟩) hS.2.2 d_Definition_acceptName_9
set_option maxHeartbeats 4000000 in
set_option maxRecDepth 100000 in
theorem c_Definition_addTo (l : Launch) (D : va_G) (dA : Nat → ClassId) (b0 : Nat) (a0 : Nat) (i1 : Int32) (nxZ : Nat) {h h' : hH} {r : Int32} {dnZ dsZ : Nat} (hrun : f_Definition_addTo a0 i1 nxZ h = some (r, dnZ, dsZ, h')) : Met l y_Definition_addTo w_Definition_addTo ({ frames := 3, cells := dnZ, slots := dsZ, locals := 91 } : Room) (va_Pc [.ref a0, .int i1] (hB D dA b0 nxZ h)) (va_Qi (fun r' (_ : Unit) => r' = r) (fun (_ : Unit) t => hW D dA classes b0 (nxZ + dnZ) h' t.heap) (hA b0)) dnZ dsZ (hA b0) := by
  refine Met.ofW (cc := b_Definition_addTo) (maxL := 2) (ret := (some .int)) (by decide) rfl ?_
  intro p e s m args below meth c s₁ B hml hv
  obtain ⟨rfl, hw, hK, hN⟩ := hv
  have hx := B.exec
  have hb := B.bytes
  have hr := B.returns
  have hlocks := B.notSynchronized
  have S : CallFix p m c b_Definition_addTo 2 s ([.ref a0, .int i1] : List Value).toArray w_Definition_addTo R_Definition := ⟨hx, hb, hml, findClass_of_methodNamed B.named, atoms_spec (ws := w_Definition_addTo) B.pre⟩
  have hT : ∀ w ∈ tbl, w ∈ w_Definition_addTo := fun _ q => List.mem_cons_of_mem _ q
  have hS : va_S (hA b0) s.heap s.heap [] := va_S.rf
  have hl := lv_entry ([.ref a0, .int i1]) (n := 2) (Nat.le_of_ble_eq_true rfl)
  rw [lg_entry_eq]
  generalize (lg_sl ([.ref a0, .int i1]) ++ List.replicate (2 - (lg_sl ([.ref a0, .int i1])).length) Slot.unset).toArray = ls at hl ⊢
  have hl : lv_has ls 2 [(0, .ref a0), (1, .int i1)] := hl
  obtain ⟨dn, edn⟩ : ∃ z, z = dnZ := ⟨_, rfl⟩
  obtain ⟨ds, eds⟩ : ∃ z, z = dsZ := ⟨_, rfl⟩
  obtain ⟨nx, enx⟩ : ∃ z, z = nxZ := ⟨_, rfl⟩
  rw [← edn, ← eds, ← enx] at hrun
  rw [← enx] at hw
  have hcR : 0 + dn = dnZ := by omega
  have hsR : 0 + ds = dsZ := by omega
  have hnR : nx + dn = nxZ + dnZ := by omega
  clear edn eds enx
  unfold f_Definition_addTo at hrun
  refine lv_aload_n hx hb d_Definition_addTo_0 rfl (lv_at hl 0 rfl) ?_
  replace hrun := hb_some hrun
  obtain ⟨c1, k1, hrun⟩ := hrun
  replace hrun := hb_some hrun
  obtain ⟨v1, g1, hrun⟩ := hrun
  refine h_ci (h_runV S (As := []) (rest := []) (c_Row_isFull l D dA b0 a0 nx g1) (cwV 0 S.2.2.2.2 (h_good _ (h_in4 ml_Definition_86 im_Row_isFull se_Row_isFull it_Row) cd_Row_isFull) rfl rfl rfl (by decide +kernel) ⟨Nat.le_of_ble_eq_true rfl, Nat.le_of_ble_eq_true rfl⟩) hK hN hw (ci := 8) rfl k1 rfl hl.1 (lv_room (Nat.le_of_ble_eq_true rfl)) d_Definition_addTo_1 ⟨show 0 + 0 ≤ dnZ by omega, show 0 + 0 ≤ dsZ by omega⟩) hS (fun H locs hw hS => ?_)
  refine lv_if_eq (tgt := 10) hx hb d_Definition_addTo_4 (by decide) (fun c4 => ?_) (fun c4 => ?_)
  · rw [if_pos c4] at hrun
    refine lv_aload_n hx hb d_Definition_addTo_10 rfl (lv_at hl 0 rfl) ?_
    refine lv_iload_n hx hb d_Definition_addTo_11 rfl (lv_at hl 1 rfl) ?_
    replace hrun := hb_some hrun
    obtain ⟨c12, k12, hrun⟩ := hrun
    replace hrun := hbind_some hrun
    obtain ⟨_u12, d12, s12, h12, dn12, ds12, g12, hrun, en12, es12⟩ := hrun
    refine h_cv (h_runV S (As := [.int i1]) (rest := []) (c_Row_add l D dA b0 a0 i1 nx g12) (cwV 1 S.2.2.2.2 (h_good _ (h_in4 ml_Definition_89 im_Row_add se_Row_add it_Row) cd_Row_add) rfl rfl rfl (by decide +kernel) ⟨Nat.le_of_ble_eq_true rfl, Nat.le_of_ble_eq_true rfl⟩) hK hN hw (ci := 8) rfl k12 rfl hl.1 (lv_room (Nat.le_of_ble_eq_true rfl)) d_Definition_addTo_12 ⟨show 0 + d12 ≤ dnZ by omega, show 0 + s12 ≤ dsZ by omega⟩) hS (fun H locs hw hS => ?_)
    obtain ⟨nx12, ex12⟩ : ∃ z, z = nx + d12 := ⟨_, rfl⟩
    rw [← ex12] at hw
    try rw [← ex12] at hrun
    replace hcR : (0 + d12) + dn12 = dnZ := by omega
    replace hsR : (0 + s12) + ds12 = dsZ := by omega
    replace hnR : nx12 + dn12 = nxZ + dnZ := by omega
    clear en12 es12 ex12
    refine lv_iconst (v := (0 : Int32)) hx hb d_Definition_addTo_15 (by decide) ?_
    cases hrun
    refine W.widen (k := dnZ) (n := dsZ) (by omega) (by omega) ?_
    rw [show nx12 = nxZ + dnZ by omega] at hw
    exact W.iret hx hb hr (fun t ht hW9 => ⟨⟨_, (), rfl, rfl, by show hW D dA classes b0 _ _ t.heap; rw [ht]; exact hw⟩, hS.F ht⟩) hS.2.2 d_Definition_addTo_16
  · rw [if_neg c4] at hrun
    refine lv_bipush (v := (8 : Int32)) hx hb d_Definition_addTo_7 (by decide) ?_
    cases hrun
    refine W.widen (k := dnZ) (n := dsZ) (by omega) (by omega) ?_
    rw [show nx = nxZ + dnZ by omega] at hw
    exact W.iret hx hb hr (fun t ht hW9 => ⟨⟨_, (), rfl, rfl, by show hW D dA classes b0 _ _ t.heap; rw [ht]; exact hw⟩, hS.F ht⟩) hS.2.2 d_Definition_addTo_9
set_option maxHeartbeats 4000000 in
set_option maxRecDepth 100000 in
theorem c_Definition_acceptInRows (l : Launch) (D : va_G) (dA : Nat → ClassId) (b0 : Nat) (a0 : Nat) (i1 : Int32) (nxZ : Nat) {h h' : hH} {r : Int32} {dnZ dsZ : Nat} (hrun : f_Definition_acceptInRows a0 i1 nxZ h = some (r, dnZ, dsZ, h')) : Met l y_Definition_acceptInRows w_Definition_acceptInRows ({ frames := 4, cells := dnZ, slots := dsZ, locals := 112 } : Room) (va_Pc [.ref a0, .int i1] (hB D dA b0 nxZ h)) (va_Qi (fun r' (_ : Unit) => r' = r) (fun (_ : Unit) t => hW D dA classes b0 (nxZ + dnZ) h' t.heap) (hA b0)) dnZ dsZ (hA b0) := by
  refine Met.ofW (cc := b_Definition_acceptInRows) (maxL := 2) (ret := (some .int)) (by decide) rfl ?_
  intro p e s m args below meth c s₁ B hml hv
  obtain ⟨rfl, hw, hK, hN⟩ := hv
  have hx := B.exec
  have hb := B.bytes
  have hr := B.returns
  have hlocks := B.notSynchronized
  have S : CallFix p m c b_Definition_acceptInRows 2 s ([.ref a0, .int i1] : List Value).toArray w_Definition_acceptInRows R_Definition := ⟨hx, hb, hml, findClass_of_methodNamed B.named, atoms_spec (ws := w_Definition_acceptInRows) B.pre⟩
  have hT : ∀ w ∈ tbl, w ∈ w_Definition_acceptInRows := fun _ q => List.mem_cons_of_mem _ q
  have hS : va_S (hA b0) s.heap s.heap [] := va_S.rf
  have hl := lv_entry ([.ref a0, .int i1]) (n := 2) (Nat.le_of_ble_eq_true rfl)
  rw [lg_entry_eq]
  generalize (lg_sl ([.ref a0, .int i1]) ++ List.replicate (2 - (lg_sl ([.ref a0, .int i1])).length) Slot.unset).toArray = ls at hl ⊢
  have hl : lv_has ls 2 [(0, .ref a0), (1, .int i1)] := hl
  obtain ⟨dn, edn⟩ : ∃ z, z = dnZ := ⟨_, rfl⟩
  obtain ⟨ds, eds⟩ : ∃ z, z = dsZ := ⟨_, rfl⟩
  obtain ⟨nx, enx⟩ : ∃ z, z = nxZ := ⟨_, rfl⟩
  rw [← edn, ← eds, ← enx] at hrun
  rw [← enx] at hw
  have hcR : 0 + dn = dnZ := by omega
  have hsR : 0 + ds = dsZ := by omega
  have hnR : nx + dn = nxZ + dnZ := by omega
  clear edn eds enx
  unfold f_Definition_acceptInRows at hrun
  refine lv_iload_n hx hb d_Definition_acceptInRows_0 rfl (lv_at hl 1 rfl) ?_
  refine lv_sipush (v := (257 : Int32)) hx hb d_Definition_acceptInRows_1 (by decide) ?_
  refine lv_icmp_ne (tgt := 14) hx hb d_Definition_acceptInRows_4 (by decide) (fun c4 => ?_) (fun c4 => ?_)
  · rw [if_neg c4] at hrun
    refine lv_iload_n hx hb d_Definition_acceptInRows_14 rfl (lv_at hl 1 rfl) ?_
    refine lv_sipush (v := (258 : Int32)) hx hb d_Definition_acceptInRows_15 (by decide) ?_
    refine lv_icmp_ne (tgt := 24) hx hb d_Definition_acceptInRows_18 (by decide) (fun c18 => ?_) (fun c18 => ?_)
    · rw [if_neg c18] at hrun
      refine lv_iload_n hx hb d_Definition_acceptInRows_24 rfl (lv_at hl 1 rfl) ?_
      replace hrun := hb_some hrun
      obtain ⟨v25, g25, hrun⟩ := hrun
      refine h_ci (h_runS S (As := [.int i1]) (rest := []) (c_Kind_isParameter l D dA b0 i1 nx g25) (va_cwS 1 S.2.2.2.2 (h_good _ (h_in3 ml_Definition_64 sm_Kind_isParameter it_Kind) cd_Kind_isParameter) rfl rfl rfl (by decide +kernel) ⟨Nat.le_of_ble_eq_true rfl, Nat.le_of_ble_eq_true rfl⟩) hK hN hw rfl hl.1 (lv_room (Nat.le_of_ble_eq_true rfl)) d_Definition_acceptInRows_25 ⟨show 0 + 0 ≤ dnZ by omega, show 0 + 0 ≤ dsZ by omega⟩) hS (fun H locs hw hS => ?_)
      refine lv_if_eq (tgt := 59) hx hb d_Definition_acceptInRows_28 (by decide) (fun c28 => ?_) (fun c28 => ?_)
      · rw [if_pos c28] at hrun
        refine lv_aload_n hx hb d_Definition_acceptInRows_59 rfl (lv_at hl 0 rfl) ?_
        replace hrun := hb_some hrun
        obtain ⟨v60, g60, hrun⟩ := hrun
        refine h_getR S (fun w q => hT w (i_Definition w q)) hK (ci := 4) rfl 0 (by decide) (hT _ fl_Definition_11) hw g60 d_Definition_acceptInRows_60 ?_
        refine lv_iconst (v := (0 : Int32)) hx hb d_Definition_acceptInRows_63 (by decide) ?_
        refine lv_aload_n hx hb d_Definition_acceptInRows_64 rfl (lv_at hl 0 rfl) ?_
        replace hrun := hb_some hrun
        obtain ⟨v65, g65, hrun⟩ := hrun
        refine h_getI S (fun w q => hT w (i_Definition w q)) hK (ci := 4) rfl 5 (by decide) (hT _ fl_Definition_38) hw g65 d_Definition_acceptInRows_65 ?_
        refine lv_aload_n hx hb d_Definition_acceptInRows_68 rfl (lv_at hl 0 rfl) ?_
        replace hrun := hb_some hrun
        obtain ⟨v69, g69, hrun⟩ := hrun
        refine h_getR S (fun w q => hT w (i_Definition w q)) hK (ci := 4) rfl 0 (by decide) (hT _ fl_Definition_11) hw g69 d_Definition_acceptInRows_69 ?_
        replace hrun := hb_some hrun
        obtain ⟨p72, rfl, hrun⟩ := hrun
        replace hrun := hb_some hrun
        obtain ⟨v72, g72, hrun⟩ := hrun
        refine h_alen S hK (kd := 3) rfl hw g72 d_Definition_acceptInRows_72 ?_
        refine lv_iconst (v := (1 : Int32)) hx hb d_Definition_acceptInRows_73 (by decide) ?_
        refine lv_isub hx hb d_Definition_acceptInRows_74 ?_
        refine va_mmin hx hb (by rw [hml]; exact hl.1.symm) S.2.2.2.1 (S.2.2.2.2 _ (hT _ ml_Definition_70)) (S.2.2.2.2 _ (hT _ sm_mmin)) (S.2.2.2.2 _ (hT _ it_Math)) (S.2.2.2.2 _ (hT _ cd_mmin)) (Nat.le_of_ble_eq_true rfl) (by simp only [List.map, List.sum_cons, List.sum_nil, h_cat]; exact Nat.le_of_ble_eq_true rfl) (show 0 ≤ dnZ by omega) (show 0 ≤ dsZ by omega) d_Definition_acceptInRows_75 ?_
        refine va_mmax hx hb (by rw [hml]; exact hl.1.symm) S.2.2.2.1 (S.2.2.2.2 _ (hT _ ml_Definition_76)) (S.2.2.2.2 _ (hT _ sm_mmax)) (S.2.2.2.2 _ (hT _ it_Math)) (S.2.2.2.2 _ (hT _ cd_mmax)) (Nat.le_of_ble_eq_true rfl) (by simp only [List.map, List.sum_cons, List.sum_nil, h_cat]; exact Nat.le_of_ble_eq_true rfl) (show 0 ≤ dnZ by omega) (show 0 ≤ dsZ by omega) d_Definition_acceptInRows_78 ?_
        replace hrun := hb_some hrun
        obtain ⟨p81, rfl, hrun⟩ := hrun
        replace hrun := hb_some hrun
        obtain ⟨v81, g81, hrun⟩ := hrun
        refine h_aald S hK (kd := 3) rfl hw g81 d_Definition_acceptInRows_81 ?_
        refine lv_iload_n hx hb d_Definition_acceptInRows_82 rfl (lv_at hl 1 rfl) ?_
        replace hrun := hb_some hrun
        obtain ⟨p83_0, rfl, hrun⟩ := hrun
        replace hrun := hbind_some hrun
        obtain ⟨v83, d83, s83, h83, dn83, ds83, g83, hrun, en83, es83⟩ := hrun
        refine h_ci (h_runS S (As := [.ref p83_0, .int i1]) (rest := []) (c_Definition_addTo l D dA b0 p83_0 i1 nx g83) (va_cwS 2 S.2.2.2.2 (h_good _ (h_in3 ml_Definition_79 sm_Definition_addTo it_Definition) cd_Definition_addTo) rfl rfl rfl (by decide +kernel) ⟨Nat.le_of_ble_eq_true rfl, Nat.le_of_ble_eq_true rfl⟩) hK hN hw rfl hl.1 (lv_room (Nat.le_of_ble_eq_true rfl)) d_Definition_acceptInRows_83 ⟨show 0 + d83 ≤ dnZ by omega, show 0 + s83 ≤ dsZ by omega⟩) hS (fun H locs hw hS => ?_)
        obtain ⟨nx83, ex83⟩ : ∃ z, z = nx + d83 := ⟨_, rfl⟩
        rw [← ex83] at hw
        try rw [← ex83] at hrun
        replace hcR : (0 + d83) + dn83 = dnZ := by omega
        replace hsR : (0 + s83) + ds83 = dsZ := by omega
        replace hnR : nx83 + dn83 = nxZ + dnZ := by omega
        clear en83 es83 ex83
        cases hrun
        refine W.widen (k := dnZ) (n := dsZ) (by omega) (by omega) ?_
        rw [show nx83 = nxZ + dnZ by omega] at hw
        exact W.iret hx hb hr (fun t ht hW9 => ⟨⟨_, (), rfl, rfl, by show hW D dA classes b0 _ _ t.heap; rw [ht]; exact hw⟩, hS.F ht⟩) hS.2.2 d_Definition_acceptInRows_86
      · rw [if_neg c28] at hrun
        refine lv_iload_n hx hb d_Definition_acceptInRows_31 rfl (lv_at hl 1 rfl) ?_
        replace hrun := hb_some hrun
        obtain ⟨v32, g32, hrun⟩ := hrun
        refine h_ci (h_runS S (As := [.int i1]) (rest := []) (c_Kind_argumentOf l D dA b0 i1 nx g32) (va_cwS 1 S.2.2.2.2 (h_good _ (h_in3 ml_Definition_67 sm_Kind_argumentOf it_Kind) cd_Kind_argumentOf) rfl rfl rfl (by decide +kernel) ⟨Nat.le_of_ble_eq_true rfl, Nat.le_of_ble_eq_true rfl⟩) hK hN hw rfl hl.1 (lv_room (Nat.le_of_ble_eq_true rfl)) d_Definition_acceptInRows_32 ⟨show 0 + 0 ≤ dnZ by omega, show 0 + 0 ≤ dsZ by omega⟩) hS (fun H locs hw hS => ?_)
        refine lv_aload_n hx hb d_Definition_acceptInRows_35 rfl (lv_at hl 0 rfl) ?_
        replace hrun := hb_some hrun
        obtain ⟨v36, g36, hrun⟩ := hrun
        refine h_getI S (fun w q => hT w (i_Definition w q)) hK (ci := 4) rfl 5 (by decide) (hT _ fl_Definition_38) hw g36 d_Definition_acceptInRows_36 ?_
        refine lv_iconst (v := (1 : Int32)) hx hb d_Definition_acceptInRows_39 (by decide) ?_
        refine lv_iadd hx hb d_Definition_acceptInRows_40 ?_
        refine lv_icmp_eq (tgt := 47) hx hb d_Definition_acceptInRows_41 (by decide) (fun c41 => ?_) (fun c41 => ?_)
        · rw [if_pos c41] at hrun
          refine lv_aload_n hx hb d_Definition_acceptInRows_47 rfl (lv_at hl 0 rfl) ?_
          refine lv_dup hx hb d_Definition_acceptInRows_48 rfl ?_
          replace hrun := hb_some hrun
          obtain ⟨v49, g49, hrun⟩ := hrun
          refine h_getI S (fun w q => hT w (i_Definition w q)) hK (ci := 4) rfl 5 (by decide) (hT _ fl_Definition_38) hw g49 d_Definition_acceptInRows_49 ?_
          refine lv_iconst (v := (1 : Int32)) hx hb d_Definition_acceptInRows_52 (by decide) ?_
          refine lv_iadd hx hb d_Definition_acceptInRows_53 ?_
          replace hrun := hb_some hrun
          obtain ⟨h54, g54, hrun⟩ := hrun
          refine h_put S (fun w q => hT w (i_Definition w q)) t_Definition t_Definition_ok n_Definition hK (ci := 4) rfl 5 (by decide) (hT _ fl_Definition_38) rfl rfl rfl hw hS g54 d_Definition_acceptInRows_54 (fun H locs hw hS => ?_)
          refine lv_iconst (v := (0 : Int32)) hx hb d_Definition_acceptInRows_57 (by decide) ?_
          cases hrun
          refine W.widen (k := dnZ) (n := dsZ) (by omega) (by omega) ?_
          rw [show nx = nxZ + dnZ by omega] at hw
          exact W.iret hx hb hr (fun t ht hW9 => ⟨⟨_, (), rfl, rfl, by show hW D dA classes b0 _ _ t.heap; rw [ht]; exact hw⟩, hS.F ht⟩) hS.2.2 d_Definition_acceptInRows_58
        · rw [if_neg c41] at hrun
          refine lv_bipush (v := (6 : Int32)) hx hb d_Definition_acceptInRows_44 (by decide) ?_
          cases hrun
          refine W.widen (k := dnZ) (n := dsZ) (by omega) (by omega) ?_
          rw [show nx = nxZ + dnZ by omega] at hw
          exact W.iret hx hb hr (fun t ht hW9 => ⟨⟨_, (), rfl, rfl, by show hW D dA classes b0 _ _ t.heap; rw [ht]; exact hw⟩, hS.F ht⟩) hS.2.2 d_Definition_acceptInRows_46
    · rw [if_pos c18] at hrun
      refine lv_bipush (v := (6 : Int32)) hx hb d_Definition_acceptInRows_21 (by decide) ?_
      cases hrun
      refine W.widen (k := dnZ) (n := dsZ) (by omega) (by omega) ?_
      rw [show nx = nxZ + dnZ by omega] at hw
      exact W.iret hx hb hr (fun t ht hW9 => ⟨⟨_, (), rfl, rfl, by show hW D dA classes b0 _ _ t.heap; rw [ht]; exact hw⟩, hS.F ht⟩) hS.2.2 d_Definition_acceptInRows_23
  · rw [if_pos c4] at hrun
    refine lv_aload_n hx hb d_Definition_acceptInRows_7 rfl (lv_at hl 0 rfl) ?_
    refine lv_iconst (v := (3 : Int32)) hx hb d_Definition_acceptInRows_8 (by decide) ?_
    replace hrun := hb_some hrun
    obtain ⟨h9, g9, hrun⟩ := hrun
    refine h_put S (fun w q => hT w (i_Definition w q)) t_Definition t_Definition_ok n_Definition hK (ci := 4) rfl 2 (by decide) (hT _ fl_Definition_24) rfl rfl rfl hw hS g9 d_Definition_acceptInRows_9 (fun H locs hw hS => ?_)
    refine lv_iconst (v := (0 : Int32)) hx hb d_Definition_acceptInRows_12 (by decide) ?_
    cases hrun
    refine W.widen (k := dnZ) (n := dsZ) (by omega) (by omega) ?_
    rw [show nx = nxZ + dnZ by omega] at hw
    exact W.iret hx hb hr (fun t ht hW9 => ⟨⟨_, (), rfl, rfl, by show hW D dA classes b0 _ _ t.heap; rw [ht]; exact hw⟩, hS.F ht⟩) hS.2.2 d_Definition_acceptInRows_13
set_option maxHeartbeats 4000000 in
set_option maxRecDepth 100000 in
theorem c_Definition_acceptInText (l : Launch) (D : va_G) (dA : Nat → ClassId) (b0 : Nat) (a0 : Nat) (i1 : Int32) (nxZ : Nat) {h h' : hH} {r : Int32} {dnZ dsZ : Nat} (hrun : f_Definition_acceptInText a0 i1 nxZ h = some (r, dnZ, dsZ, h')) : Met l y_Definition_acceptInText w_Definition_acceptInText ({ frames := 4, cells := dnZ, slots := dsZ, locals := 112 } : Room) (va_Pc [.ref a0, .int i1] (hB D dA b0 nxZ h)) (va_Qi (fun r' (_ : Unit) => r' = r) (fun (_ : Unit) t => hW D dA classes b0 (nxZ + dnZ) h' t.heap) (hA b0)) dnZ dsZ (hA b0) := by
  refine Met.ofW (cc := b_Definition_acceptInText) (maxL := 2) (ret := (some .int)) (by decide) rfl ?_
  intro p e s m args below meth c s₁ B hml hv
  obtain ⟨rfl, hw, hK, hN⟩ := hv
  have hx := B.exec
  have hb := B.bytes
  have hr := B.returns
  have hlocks := B.notSynchronized
  have S : CallFix p m c b_Definition_acceptInText 2 s ([.ref a0, .int i1] : List Value).toArray w_Definition_acceptInText R_Definition := ⟨hx, hb, hml, findClass_of_methodNamed B.named, atoms_spec (ws := w_Definition_acceptInText) B.pre⟩
  have hT : ∀ w ∈ tbl, w ∈ w_Definition_acceptInText := fun _ q => List.mem_cons_of_mem _ q
  have hS : va_S (hA b0) s.heap s.heap [] := va_S.rf
  have hl := lv_entry ([.ref a0, .int i1]) (n := 2) (Nat.le_of_ble_eq_true rfl)
  rw [lg_entry_eq]
  generalize (lg_sl ([.ref a0, .int i1]) ++ List.replicate (2 - (lg_sl ([.ref a0, .int i1])).length) Slot.unset).toArray = ls at hl ⊢
  have hl : lv_has ls 2 [(0, .ref a0), (1, .int i1)] := hl
  obtain ⟨dn, edn⟩ : ∃ z, z = dnZ := ⟨_, rfl⟩
  obtain ⟨ds, eds⟩ : ∃ z, z = dsZ := ⟨_, rfl⟩
  obtain ⟨nx, enx⟩ : ∃ z, z = nxZ := ⟨_, rfl⟩
  rw [← edn, ← eds, ← enx] at hrun
  rw [← enx] at hw
  have hcR : 0 + dn = dnZ := by omega
  have hsR : 0 + ds = dsZ := by omega
  have hnR : nx + dn = nxZ + dnZ := by omega
  clear edn eds enx
  unfold f_Definition_acceptInText at hrun
  refine lv_aload_n hx hb d_Definition_acceptInText_0 rfl (lv_at hl 0 rfl) ?_
  refine lv_dup hx hb d_Definition_acceptInText_1 rfl ?_
  replace hrun := hb_some hrun
  obtain ⟨v2, g2, hrun⟩ := hrun
  refine h_getI S (fun w q => hT w (i_Definition w q)) hK (ci := 4) rfl 6 (by decide) (hT _ fl_Definition_41) hw g2 d_Definition_acceptInText_2 ?_
  refine lv_iload_n hx hb d_Definition_acceptInText_5 rfl (lv_at hl 1 rfl) ?_
  replace hrun := hb_some hrun
  obtain ⟨v6, g6, hrun⟩ := hrun
  refine h_ci (h_runS S (As := [.int i1]) (rest := [.int v2, .ref a0]) (c_Kind_nesting l D dA b0 i1 nx g6) (va_cwS 1 S.2.2.2.2 (h_good _ (h_in3 ml_Definition_83 sm_Kind_nesting it_Kind) cd_Kind_nesting) rfl rfl rfl (by decide +kernel) ⟨Nat.le_of_ble_eq_true rfl, Nat.le_of_ble_eq_true rfl⟩) hK hN hw rfl hl.1 (lv_room (Nat.le_of_ble_eq_true rfl)) d_Definition_acceptInText_6 ⟨show 0 + 0 ≤ dnZ by omega, show 0 + 0 ≤ dsZ by omega⟩) hS (fun H locs hw hS => ?_)
  refine lv_iadd hx hb d_Definition_acceptInText_9 ?_
  replace hrun := hb_some hrun
  obtain ⟨h10, g10, hrun⟩ := hrun
  refine h_put S (fun w q => hT w (i_Definition w q)) t_Definition t_Definition_ok n_Definition hK (ci := 4) rfl 6 (by decide) (hT _ fl_Definition_41) rfl rfl rfl hw hS g10 d_Definition_acceptInText_10 (fun H locs hw hS => ?_)
  refine lv_aload_n hx hb d_Definition_acceptInText_13 rfl (lv_at hl 0 rfl) ?_
  replace hrun := hb_some hrun
  obtain ⟨v14, g14, hrun⟩ := hrun
  refine h_getI S (fun w q => hT w (i_Definition w q)) hK (ci := 4) rfl 6 (by decide) (hT _ fl_Definition_41) hw g14 d_Definition_acceptInText_14 ?_
  refine lv_if_ne (tgt := 27) hx hb d_Definition_acceptInText_17 (by decide) (fun c17 => ?_) (fun c17 => ?_)
  · rw [if_neg c17] at hrun
    refine lv_iload_n hx hb d_Definition_acceptInText_27 rfl (lv_at hl 1 rfl) ?_
    replace hrun := hb_some hrun
    obtain ⟨v28, g28, hrun⟩ := hrun
    refine h_ci (h_runS S (As := [.int i1]) (rest := []) (c_Kind_argumentOf l D dA b0 i1 nx g28) (va_cwS 1 S.2.2.2.2 (h_good _ (h_in3 ml_Definition_67 sm_Kind_argumentOf it_Kind) cd_Kind_argumentOf) rfl rfl rfl (by decide +kernel) ⟨Nat.le_of_ble_eq_true rfl, Nat.le_of_ble_eq_true rfl⟩) hK hN hw rfl hl.1 (lv_room (Nat.le_of_ble_eq_true rfl)) d_Definition_acceptInText_28 ⟨show 0 + 0 ≤ dnZ by omega, show 0 + 0 ≤ dsZ by omega⟩) hS (fun H locs hw hS => ?_)
    refine lv_aload_n hx hb d_Definition_acceptInText_31 rfl (lv_at hl 0 rfl) ?_
    replace hrun := hb_some hrun
    obtain ⟨v32, g32, hrun⟩ := hrun
    refine h_getI S (fun w q => hT w (i_Definition w q)) hK (ci := 4) rfl 5 (by decide) (hT _ fl_Definition_38) hw g32 d_Definition_acceptInText_32 ?_
    refine lv_icmp_le (tgt := 41) hx hb d_Definition_acceptInText_35 (by decide) (fun c35 => ?_) (fun c35 => ?_)
    · rw [if_pos c35] at hrun
      refine lv_aload_n hx hb d_Definition_acceptInText_41 rfl (lv_at hl 0 rfl) ?_
      replace hrun := hb_some hrun
      obtain ⟨v42, g42, hrun⟩ := hrun
      refine h_getR S (fun w q => hT w (i_Definition w q)) hK (ci := 4) rfl 1 (by decide) (hT _ fl_Definition_20) hw g42 d_Definition_acceptInText_42 ?_
      refine lv_iload_n hx hb d_Definition_acceptInText_45 rfl (lv_at hl 1 rfl) ?_
      replace hrun := hb_some hrun
      obtain ⟨p46_0, rfl, hrun⟩ := hrun
      replace hrun := hbind_some hrun
      obtain ⟨v46, d46, s46, h46, dn46, ds46, g46, hrun, en46, es46⟩ := hrun
      refine h_ci (h_runS S (As := [.ref p46_0, .int i1]) (rest := []) (c_Definition_addTo l D dA b0 p46_0 i1 nx g46) (va_cwS 2 S.2.2.2.2 (h_good _ (h_in3 ml_Definition_79 sm_Definition_addTo it_Definition) cd_Definition_addTo) rfl rfl rfl (by decide +kernel) ⟨Nat.le_of_ble_eq_true rfl, Nat.le_of_ble_eq_true rfl⟩) hK hN hw rfl hl.1 (lv_room (Nat.le_of_ble_eq_true rfl)) d_Definition_acceptInText_46 ⟨show 0 + d46 ≤ dnZ by omega, show 0 + s46 ≤ dsZ by omega⟩) hS (fun H locs hw hS => ?_)
      obtain ⟨nx46, ex46⟩ : ∃ z, z = nx + d46 := ⟨_, rfl⟩
      rw [← ex46] at hw
      try rw [← ex46] at hrun
      replace hcR : (0 + d46) + dn46 = dnZ := by omega
      replace hsR : (0 + s46) + ds46 = dsZ := by omega
      replace hnR : nx46 + dn46 = nxZ + dnZ := by omega
      clear en46 es46 ex46
      cases hrun
      refine W.widen (k := dnZ) (n := dsZ) (by omega) (by omega) ?_
      rw [show nx46 = nxZ + dnZ by omega] at hw
      exact W.iret hx hb hr (fun t ht hW9 => ⟨⟨_, (), rfl, rfl, by show hW D dA classes b0 _ _ t.heap; rw [ht]; exact hw⟩, hS.F ht⟩) hS.2.2 d_Definition_acceptInText_49
    · rw [if_neg c35] at hrun
      refine lv_bipush (v := (6 : Int32)) hx hb d_Definition_acceptInText_38 (by decide) ?_
      cases hrun
      refine W.widen (k := dnZ) (n := dsZ) (by omega) (by omega) ?_
      rw [show nx = nxZ + dnZ by omega] at hw
      exact W.iret hx hb hr (fun t ht hW9 => ⟨⟨_, (), rfl, rfl, by show hW D dA classes b0 _ _ t.heap; rw [ht]; exact hw⟩, hS.F ht⟩) hS.2.2 d_Definition_acceptInText_40
  · rw [if_pos c17] at hrun
    refine lv_aload_n hx hb d_Definition_acceptInText_20 rfl (lv_at hl 0 rfl) ?_
    refine lv_iconst (v := (4 : Int32)) hx hb d_Definition_acceptInText_21 (by decide) ?_
    replace hrun := hb_some hrun
    obtain ⟨h22, g22, hrun⟩ := hrun
    refine h_put S (fun w q => hT w (i_Definition w q)) t_Definition t_Definition_ok n_Definition hK (ci := 4) rfl 2 (by decide) (hT _ fl_Definition_24) rfl rfl rfl hw hS g22 d_Definition_acceptInText_22 (fun H locs hw hS => ?_)
    refine lv_iconst (v := (0 : Int32)) hx hb d_Definition_acceptInText_25 (by decide) ?_
    cases hrun
    refine W.widen (k := dnZ) (n := dsZ) (by omega) (by omega) ?_
    rw [show nx = nxZ + dnZ by omega] at hw
    exact W.iret hx hb hr (fun t ht hW9 => ⟨⟨_, (), rfl, rfl, by show hW D dA classes b0 _ _ t.heap; rw [ht]; exact hw⟩, hS.F ht⟩) hS.2.2 d_Definition_acceptInText_26
set_option maxHeartbeats 4000000 in
set_option maxRecDepth 100000 in
theorem c_Definition_accept (l : Launch) (D : va_G) (dA : Nat → ClassId) (b0 : Nat) (a0 : Nat) (i1 : Int32) (nxZ : Nat) {h h' : hH} {r : Int32} {dnZ dsZ : Nat} (hrun : f_Definition_accept a0 i1 nxZ h = some (r, dnZ, dsZ, h')) : Met l y_Definition_accept w_Definition_accept ({ frames := 5, cells := dnZ, slots := dsZ, locals := 133 } : Room) (va_Pc [.ref a0, .int i1] (hB D dA b0 nxZ h)) (va_Qi (fun r' (_ : Unit) => r' = r) (fun (_ : Unit) t => hW D dA classes b0 (nxZ + dnZ) h' t.heap) (hA b0)) dnZ dsZ (hA b0) := by
  refine Met.ofW (cc := b_Definition_accept) (maxL := 2) (ret := (some .int)) (by decide) rfl ?_
  intro p e s m args below meth c s₁ B hml hv
  obtain ⟨rfl, hw, hK, hN⟩ := hv
  have hx := B.exec
  have hb := B.bytes
  have hr := B.returns
  have hlocks := B.notSynchronized
  have S : CallFix p m c b_Definition_accept 2 s ([.ref a0, .int i1] : List Value).toArray w_Definition_accept R_Definition := ⟨hx, hb, hml, findClass_of_methodNamed B.named, atoms_spec (ws := w_Definition_accept) B.pre⟩
  have hT : ∀ w ∈ tbl, w ∈ w_Definition_accept := fun _ q => List.mem_cons_of_mem _ q
  have hS : va_S (hA b0) s.heap s.heap [] := va_S.rf
  have hl := lv_entry ([.ref a0, .int i1]) (n := 2) (Nat.le_of_ble_eq_true rfl)
  rw [lg_entry_eq]
  generalize (lg_sl ([.ref a0, .int i1]) ++ List.replicate (2 - (lg_sl ([.ref a0, .int i1])).length) Slot.unset).toArray = ls at hl ⊢
  have hl : lv_has ls 2 [(0, .ref a0), (1, .int i1)] := hl
  obtain ⟨dn, edn⟩ : ∃ z, z = dnZ := ⟨_, rfl⟩
  obtain ⟨ds, eds⟩ : ∃ z, z = dsZ := ⟨_, rfl⟩
  obtain ⟨nx, enx⟩ : ∃ z, z = nxZ := ⟨_, rfl⟩
  rw [← edn, ← eds, ← enx] at hrun
  rw [← enx] at hw
  have hcR : 0 + dn = dnZ := by omega
  have hsR : 0 + ds = dsZ := by omega
  have hnR : nx + dn = nxZ + dnZ := by omega
  clear edn eds enx
  unfold f_Definition_accept at hrun
  refine lv_aload_n hx hb d_Definition_accept_0 rfl (lv_at hl 0 rfl) ?_
  replace hrun := hb_some hrun
  obtain ⟨v1, g1, hrun⟩ := hrun
  refine h_getI S (fun w q => hT w (i_Definition w q)) hK (ci := 4) rfl 2 (by decide) (hT _ fl_Definition_24) hw g1 d_Definition_accept_1 ?_
  refine lv_iconst (v := (1 : Int32)) hx hb d_Definition_accept_4 (by decide) ?_
  refine lv_icmp_ne (tgt := 14) hx hb d_Definition_accept_5 (by decide) (fun c5 => ?_) (fun c5 => ?_)
  · rw [if_neg c5] at hrun
    refine lv_aload_n hx hb d_Definition_accept_14 rfl (lv_at hl 0 rfl) ?_
    replace hrun := hb_some hrun
    obtain ⟨v15, g15, hrun⟩ := hrun
    refine h_getI S (fun w q => hT w (i_Definition w q)) hK (ci := 4) rfl 2 (by decide) (hT _ fl_Definition_24) hw g15 d_Definition_accept_15 ?_
    refine lv_iconst (v := (2 : Int32)) hx hb d_Definition_accept_18 (by decide) ?_
    refine lv_icmp_ne (tgt := 30) hx hb d_Definition_accept_19 (by decide) (fun c19 => ?_) (fun c19 => ?_)
    · rw [if_neg c19] at hrun
      refine lv_aload_n hx hb d_Definition_accept_30 rfl (lv_at hl 0 rfl) ?_
      refine lv_iload_n hx hb d_Definition_accept_31 rfl (lv_at hl 1 rfl) ?_
      replace hrun := hb_some hrun
      obtain ⟨c32, k32, hrun⟩ := hrun
      replace hrun := hbind_some hrun
      obtain ⟨v32, d32, s32, h32, dn32, ds32, g32, hrun, en32, es32⟩ := hrun
      refine h_ci (h_runV S (As := [.int i1]) (rest := []) (c_Definition_acceptInText l D dA b0 a0 i1 nx g32) (cwV 1 S.2.2.2.2 (h_good _ (h_in4 ml_Definition_55 im_Definition_acceptInText se_Definition_acceptInText it_Definition) cd_Definition_acceptInText) rfl rfl rfl (by decide +kernel) ⟨Nat.le_of_ble_eq_true rfl, Nat.le_of_ble_eq_true rfl⟩) hK hN hw (ci := 4) rfl k32 rfl hl.1 (lv_room (Nat.le_of_ble_eq_true rfl)) d_Definition_accept_32 ⟨show 0 + d32 ≤ dnZ by omega, show 0 + s32 ≤ dsZ by omega⟩) hS (fun H locs hw hS => ?_)
      obtain ⟨nx32, ex32⟩ : ∃ z, z = nx + d32 := ⟨_, rfl⟩
      rw [← ex32] at hw
      try rw [← ex32] at hrun
      replace hcR : (0 + d32) + dn32 = dnZ := by omega
      replace hsR : (0 + s32) + ds32 = dsZ := by omega
      replace hnR : nx32 + dn32 = nxZ + dnZ := by omega
      clear en32 es32 ex32
      cases hrun
      refine W.widen (k := dnZ) (n := dsZ) (by omega) (by omega) ?_
      rw [show nx32 = nxZ + dnZ by omega] at hw
      exact W.iret hx hb hr (fun t ht hW9 => ⟨⟨_, (), rfl, rfl, by show hW D dA classes b0 _ _ t.heap; rw [ht]; exact hw⟩, hS.F ht⟩) hS.2.2 d_Definition_accept_35
    · rw [if_pos c19] at hrun
      refine lv_aload_n hx hb d_Definition_accept_22 rfl (lv_at hl 0 rfl) ?_
      refine lv_iload_n hx hb d_Definition_accept_23 rfl (lv_at hl 1 rfl) ?_
      replace hrun := hb_some hrun
      obtain ⟨c24, k24, hrun⟩ := hrun
      replace hrun := hbind_some hrun
      obtain ⟨v24, d24, s24, h24, dn24, ds24, g24, hrun, en24, es24⟩ := hrun
      refine h_ci (h_runV S (As := [.int i1]) (rest := []) (c_Definition_acceptInRows l D dA b0 a0 i1 nx g24) (cwV 1 S.2.2.2.2 (h_good _ (h_in4 ml_Definition_52 im_Definition_acceptInRows se_Definition_acceptInRows it_Definition) cd_Definition_acceptInRows) rfl rfl rfl (by decide +kernel) ⟨Nat.le_of_ble_eq_true rfl, Nat.le_of_ble_eq_true rfl⟩) hK hN hw (ci := 4) rfl k24 rfl hl.1 (lv_room (Nat.le_of_ble_eq_true rfl)) d_Definition_accept_24 ⟨show 0 + d24 ≤ dnZ by omega, show 0 + s24 ≤ dsZ by omega⟩) hS (fun H locs hw hS => ?_)
      obtain ⟨nx24, ex24⟩ : ∃ z, z = nx + d24 := ⟨_, rfl⟩
      rw [← ex24] at hw
      try rw [← ex24] at hrun
      replace hcR : (0 + d24) + dn24 = dnZ := by omega
      replace hsR : (0 + s24) + ds24 = dsZ := by omega
      replace hnR : nx24 + dn24 = nxZ + dnZ := by omega
      clear en24 es24 ex24
      refine lv_goto (tgt := 35) hx hb d_Definition_accept_27 (by decide) ?_
      cases hrun
      refine W.widen (k := dnZ) (n := dsZ) (by omega) (by omega) ?_
      rw [show nx24 = nxZ + dnZ by omega] at hw
      exact W.iret hx hb hr (fun t ht hW9 => ⟨⟨_, (), rfl, rfl, by show hW D dA classes b0 _ _ t.heap; rw [ht]; exact hw⟩, hS.F ht⟩) hS.2.2 d_Definition_accept_35
  · rw [if_pos c5] at hrun
    refine lv_aload_n hx hb d_Definition_accept_8 rfl (lv_at hl 0 rfl) ?_
    refine lv_iload_n hx hb d_Definition_accept_9 rfl (lv_at hl 1 rfl) ?_
    replace hrun := hb_some hrun
    obtain ⟨c10, k10, hrun⟩ := hrun
    replace hrun := hbW_some hrun
    obtain ⟨v10, h10, g10, hrun⟩ := hrun
    refine h_ci (h_runV S (As := [.int i1]) (rest := []) (c_Definition_acceptName l D dA b0 a0 i1 nx g10) (cwV 1 S.2.2.2.2 (h_good _ (h_in4 ml_Definition_48 im_Definition_acceptName se_Definition_acceptName it_Definition) cd_Definition_acceptName) rfl rfl rfl (by decide +kernel) ⟨Nat.le_of_ble_eq_true rfl, Nat.le_of_ble_eq_true rfl⟩) hK hN hw (ci := 4) rfl k10 rfl hl.1 (lv_room (Nat.le_of_ble_eq_true rfl)) d_Definition_accept_10 ⟨show 0 + 0 ≤ dnZ by omega, show 0 + 0 ≤ dsZ by omega⟩) hS (fun H locs hw hS => ?_)
    cases hrun
    refine W.widen (k := dnZ) (n := dsZ) (by omega) (by omega) ?_
    rw [show nx = nxZ + dnZ by omega] at hw
    exact W.iret hx hb hr (fun t ht hW9 => ⟨⟨_, (), rfl, rfl, by show hW D dA classes b0 _ _ t.heap; rw [ht]; exact hw⟩, hS.F ht⟩) hS.2.2 d_Definition_accept_13
