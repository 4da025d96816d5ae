set_option maxHeartbeats 4000000 in
set_option maxRecDepth 100000 in
theorem c_Kind_isToken (l : Launch) (D : va_G) (dA : Nat → ClassId) (b0 : Nat) (i0 : Int32) (nx : Nat) {h : hH} {r : Int32} (hrun : f_Kind_isToken i0 h = some r) : Met l y_Kind_isToken w_Kind_isToken ({ frames := 1, cells := 0, slots := 0, locals := 20 } : Room) (va_Pc [.int i0] (hB D dA b0 nx h)) (va_Qi (fun r' (_ : Unit) => r' = r) (fun (_ : Unit) t => hW D dA classes b0 nx h t.heap) (hA b0)) 0 0 (hA b0) := by
  refine Met.ofW (cc := b_Kind_isToken) (maxL := 1) (ret := (some .boolean)) (by decide) rfl ?_
  intro p e s m args below meth c s₁ B hml hv
  obtain ⟨rfl, hw, hK, hN⟩ := hv
  have hx := B.exec
  have hb := B.bytes
  have hr := B.returns
  have hlocks := B.notSynchronized
  have S : CallFix p m c b_Kind_isToken 1 s ([.int i0] : List Value).toArray w_Kind_isToken R_Kind := ⟨hx, hb, hml, findClass_of_methodNamed B.named, atoms_spec (ws := w_Kind_isToken) B.pre⟩
  have hT : ∀ w ∈ tbl, w ∈ w_Kind_isToken := fun _ q => List.mem_cons_of_mem _ q
  have hS : va_S (hA b0) s.heap s.heap [] := va_S.rf
  have hl := lv_entry ([.int i0]) (n := 1) (Nat.le_of_ble_eq_true rfl)
  rw [lg_entry_eq]
  generalize (lg_sl ([.int i0]) ++ List.replicate (1 - (lg_sl ([.int i0])).length) Slot.unset).toArray = ls at hl ⊢
  have hl : lv_has ls 1 [(0, .int i0)] := hl
  have j_25 : ∀  (x0 : Int32) (H : Heap) (locs : List Loc) (ls : Array Slot), f_Kind_isToken_j25 x0 h = some r → hW D dA classes b0 nx h H → va_S (hA b0) s.heap H locs → lv_has ls 1 [(0, .int x0)] → W p l e (headSpec w_Kind_isToken ({ frames := 1, cells := 0, slots := 0, locals := 20 } : Room)).room s m ([.int i0] : List Value).toArray below meth c H locs 0 0 (MQ below (va_Qi (fun r' (_ : Unit) => r' = r) (fun (_ : Unit) t => hW D dA classes b0 nx h t.heap) (hA b0)) ([.int i0] : List Value).toArray s 0 0 (hA b0)) (F0 m 25 ls []) := by
    intro x0 H locs ls hrun hw hS hl
    unfold f_Kind_isToken_j25 at hrun
    refine lv_iload_n hx hb d_Kind_isToken_25 rfl (lv_at hl 0 rfl) ?_
    replace hrun := hb_some hrun
    obtain ⟨v26, g26, hrun⟩ := hrun
    refine h_ci (h_runS S (As := [.int x0]) (rest := []) (c_Kind_isParameter l D dA b0 x0 nx g26) (va_cwS 1 S.2.2.2.2 (h_good _ (h_in3 ml_Kind_9 sm_Kind_isParameter it_Kind) cd_Kind_isParameter) rfl rfl rfl (by decide +kernel) ⟨Nat.le_of_ble_eq_true rfl, Nat.le_of_ble_eq_true rfl⟩) hK hN hw rfl hl.1 (lv_room (Nat.le_of_ble_eq_true rfl)) d_Kind_isToken_26 ⟨Nat.le_refl _, Nat.le_refl _⟩) hS (fun H locs hw hS => ?_)
    refine lv_if_ne (tgt := 39) hx hb d_Kind_isToken_29 (by decide) (fun c29 => ?_) (fun c29 => ?_)
    · rw [if_neg c29] at hrun
      refine lv_iconst (v := (1 : Int32)) hx hb d_Kind_isToken_39 (by decide) ?_
      refine lv_goto (tgt := 44) hx hb d_Kind_isToken_40 (by decide) ?_
      cases hrun
      exact W.zret hx hb hr (by decide) (fun t ht hW9 => ⟨⟨_, (), rfl, rfl, by show hW D dA classes b0 _ _ t.heap; rw [ht]; exact hw⟩, hS.F ht⟩) hS.2.2 d_Kind_isToken_44
    · rw [if_pos c29] at hrun
      refine lv_iload_n hx hb d_Kind_isToken_32 rfl (lv_at hl 0 rfl) ?_
      replace hrun := hb_some hrun
      obtain ⟨v33, g33, hrun⟩ := hrun
      refine h_ci (h_runS S (As := [.int x0]) (rest := []) (c_Kind_isName l D dA b0 x0 nx g33) (va_cwS 1 S.2.2.2.2 (h_good _ (h_in3 ml_Kind_15 sm_Kind_isName it_Kind) cd_Kind_isName) rfl rfl rfl (by decide +kernel) ⟨Nat.le_of_ble_eq_true rfl, Nat.le_of_ble_eq_true rfl⟩) hK hN hw rfl hl.1 (lv_room (Nat.le_of_ble_eq_true rfl)) d_Kind_isToken_33 ⟨Nat.le_refl _, Nat.le_refl _⟩) hS (fun H locs hw hS => ?_)
      refine lv_if_eq (tgt := 43) hx hb d_Kind_isToken_36 (by decide) (fun c36 => ?_) (fun c36 => ?_)
      · rw [if_pos c36] at hrun
        refine lv_iconst (v := (0 : Int32)) hx hb d_Kind_isToken_43 (by decide) ?_
        cases hrun
        exact W.zret hx hb hr (by decide) (fun t ht hW9 => ⟨⟨_, (), rfl, rfl, by show hW D dA classes b0 _ _ t.heap; rw [ht]; exact hw⟩, hS.F ht⟩) hS.2.2 d_Kind_isToken_44
      · rw [if_neg c36] at hrun
        refine lv_iconst (v := (1 : Int32)) hx hb d_Kind_isToken_39 (by decide) ?_
        refine lv_goto (tgt := 44) hx hb d_Kind_isToken_40 (by decide) ?_
        cases hrun
        exact W.zret hx hb hr (by decide) (fun t ht hW9 => ⟨⟨_, (), rfl, rfl, by show hW D dA classes b0 _ _ t.heap; rw [ht]; exact hw⟩, hS.F ht⟩) hS.2.2 d_Kind_isToken_44
  have j_11 : ∀  (x0 : Int32) (H : Heap) (locs : List Loc) (ls : Array Slot), f_Kind_isToken_j11 x0 h = some r → hW D dA classes b0 nx h H → va_S (hA b0) s.heap H locs → lv_has ls 1 [(0, .int x0)] → W p l e (headSpec w_Kind_isToken ({ frames := 1, cells := 0, slots := 0, locals := 20 } : Room)).room s m ([.int i0] : List Value).toArray below meth c H locs 0 0 (MQ below (va_Qi (fun r' (_ : Unit) => r' = r) (fun (_ : Unit) t => hW D dA classes b0 nx h t.heap) (hA b0)) ([.int i0] : List Value).toArray s 0 0 (hA b0)) (F0 m 11 ls []) := by
    intro x0 H locs ls hrun hw hS hl
    unfold f_Kind_isToken_j11 at hrun
    refine lv_iload_n hx hb d_Kind_isToken_11 rfl (lv_at hl 0 rfl) ?_
    refine lv_sipush (v := (260 : Int32)) hx hb d_Kind_isToken_12 (by decide) ?_
    refine lv_icmp_lt (tgt := 25) hx hb d_Kind_isToken_15 (by decide) (fun c15 => ?_) (fun c15 => ?_)
    · rw [if_pos c15] at hrun
      exact j_25 x0 _ _ _ hrun hw hS (lv_sub hl [0] rfl)
    · rw [if_neg c15] at hrun
      refine lv_iload_n hx hb d_Kind_isToken_18 rfl (lv_at hl 0 rfl) ?_
      refine lv_sipush (v := (269 : Int32)) hx hb d_Kind_isToken_19 (by decide) ?_
      refine lv_icmp_le (tgt := 39) hx hb d_Kind_isToken_22 (by decide) (fun c22 => ?_) (fun c22 => ?_)
      · rw [if_pos c22] at hrun
        refine lv_iconst (v := (1 : Int32)) hx hb d_Kind_isToken_39 (by decide) ?_
        refine lv_goto (tgt := 44) hx hb d_Kind_isToken_40 (by decide) ?_
        cases hrun
        exact W.zret hx hb hr (by decide) (fun t ht hW9 => ⟨⟨_, (), rfl, rfl, by show hW D dA classes b0 _ _ t.heap; rw [ht]; exact hw⟩, hS.F ht⟩) hS.2.2 d_Kind_isToken_44
      · rw [if_neg c22] at hrun
        exact j_25 x0 _ _ _ hrun hw hS (lv_sub hl [0] rfl)
  unfold f_Kind_isToken at hrun
  refine lv_iload_n hx hb d_Kind_isToken_0 rfl (lv_at hl 0 rfl) ?_
  refine lv_if_lt (tgt := 11) hx hb d_Kind_isToken_1 (by decide) (fun c1 => ?_) (fun c1 => ?_)
  · rw [if_pos c1] at hrun
    exact j_11 i0 _ _ _ hrun hw hS (lv_sub hl [0] rfl)
  · rw [if_neg c1] at hrun
    refine lv_iload_n hx hb d_Kind_isToken_4 rfl (lv_at hl 0 rfl) ?_
    refine lv_sipush (v := (258 : Int32)) hx hb d_Kind_isToken_5 (by decide) ?_
    refine lv_icmp_le (tgt := 39) hx hb d_Kind_isToken_8 (by decide) (fun c8 => ?_) (fun c8 => ?_)
    · rw [if_pos c8] at hrun
      refine lv_iconst (v := (1 : Int32)) hx hb d_Kind_isToken_39 (by decide) ?_
      refine lv_goto (tgt := 44) hx hb d_Kind_isToken_40 (by decide) ?_
      cases hrun
      exact W.zret hx hb hr (by decide) (fun t ht hW9 => ⟨⟨_, (), rfl, rfl, by show hW D dA classes b0 _ _ t.heap; rw [ht]; exact hw⟩, hS.F ht⟩) hS.2.2 d_Kind_isToken_44
    · rw [if_neg c8] at hrun
      exact j_11 i0 _ _ _ hrun hw hS (lv_sub hl [0] rfl)
set_option maxHeartbeats 4000000 in
set_option maxRecDepth 100000 in
theorem c_Row_isFull (l : Launch) (D : va_G) (dA : Nat → ClassId) (b0 : Nat) (a0 : Nat) (nx : Nat) {h : hH} {r : Int32} (hrun : f_Row_isFull a0 h = some r) : Met l y_Row_isFull w_Row_isFull ({ frames := 0, cells := 0, slots := 0, locals := 0 } : Room) (va_Pc [.ref a0] (hB D dA b0 nx h)) (va_Qi (fun r' (_ : Unit) => r' = r) (fun (_ : Unit) t => hW D dA classes b0 nx h t.heap) (hA b0)) 0 0 (hA b0) := by
  refine Met.ofW (cc := b_Row_isFull) (maxL := 1) (ret := (some .boolean)) (by decide) rfl ?_
  intro p e s m args below meth c s₁ B hml hv
  obtain ⟨rfl, hw, hK, hN⟩ := hv
  have hx := B.exec
  have hb := B.bytes
  have hr := B.returns
  have hlocks := B.notSynchronized
  have S : CallFix p m c b_Row_isFull 1 s ([.ref a0] : List Value).toArray w_Row_isFull R_Row := ⟨hx, hb, hml, findClass_of_methodNamed B.named, atoms_spec (ws := w_Row_isFull) B.pre⟩
  have hT : ∀ w ∈ tbl, w ∈ w_Row_isFull := fun _ q => List.mem_cons_of_mem _ q
  have hS : va_S (hA b0) s.heap s.heap [] := va_S.rf
  have hl := lv_entry ([.ref a0]) (n := 1) (Nat.le_of_ble_eq_true rfl)
  rw [lg_entry_eq]
  generalize (lg_sl ([.ref a0]) ++ List.replicate (1 - (lg_sl ([.ref a0])).length) Slot.unset).toArray = ls at hl ⊢
  have hl : lv_has ls 1 [(0, .ref a0)] := hl
  unfold f_Row_isFull at hrun
  refine lv_aload_n hx hb d_Row_isFull_0 rfl (lv_at hl 0 rfl) ?_
  replace hrun := hb_some hrun
  obtain ⟨v1, g1, hrun⟩ := hrun
  refine h_getI S (fun w q => hT w (i_Row w q)) hK (ci := 8) rfl 2 (by decide) (hT _ fl_Row_19) hw g1 d_Row_isFull_1 ?_
  refine lv_aload_n hx hb d_Row_isFull_4 rfl (lv_at hl 0 rfl) ?_
  replace hrun := hb_some hrun
  obtain ⟨v5, g5, hrun⟩ := hrun
  refine h_getI S (fun w q => hT w (i_Row w q)) hK (ci := 8) rfl 0 (by decide) (hT _ fl_Row_9) hw g5 d_Row_isFull_5 ?_
  refine lv_icmp_lt (tgt := 15) hx hb d_Row_isFull_8 (by decide) (fun c8 => ?_) (fun c8 => ?_)
  · rw [if_pos c8] at hrun
    refine lv_iconst (v := (0 : Int32)) hx hb d_Row_isFull_15 (by decide) ?_
    cases hrun
    exact W.zret hx hb hr (by decide) (fun t ht hW9 => ⟨⟨_, (), rfl, rfl, by show hW D dA classes b0 _ _ t.heap; rw [ht]; exact hw⟩, hS.F ht⟩) hS.2.2 d_Row_isFull_16
  · rw [if_neg c8] at hrun
    refine lv_iconst (v := (1 : Int32)) hx hb d_Row_isFull_11 (by decide) ?_
    refine lv_goto (tgt := 16) hx hb d_Row_isFull_12 (by decide) ?_
    cases hrun
    exact W.zret hx hb hr (by decide) (fun t ht hW9 => ⟨⟨_, (), rfl, rfl, by show hW D dA classes b0 _ _ t.heap; rw [ht]; exact hw⟩, hS.F ht⟩) hS.2.2 d_Row_isFull_16
set_option maxHeartbeats 4000000 in
set_option maxRecDepth 100000 in
theorem c_Row_add (l : Launch) (D : va_G) (dA : Nat → ClassId) (b0 : Nat) (a0 : Nat) (i1 : Int32) (nxZ : Nat) {h h' : hH} {r : Unit} {dnZ dsZ : Nat} (hrun : f_Row_add a0 i1 nxZ h = some (r, dnZ, dsZ, h')) : Met l y_Row_add w_Row_add ({ frames := 2, cells := dnZ, slots := dsZ, locals := 70 } : Room) (va_Pc [.ref a0, .int i1] (hB D dA b0 nxZ h)) (va_Qv (fun (_ : Unit) => True) (fun (_ : Unit) t => hW D dA classes b0 (nxZ + dnZ) h' t.heap) (hA b0)) dnZ dsZ (hA b0) := by
  refine Met.ofW (cc := b_Row_add) (maxL := 2) (ret := none) (by decide) rfl ?_
  intro p e s m args below meth c s₁ B hml hv
  obtain ⟨rfl, hw, hK, hN⟩ := hv
  have hx := B.exec
  have hb := B.bytes
  have hr := B.returns
  have hlocks := B.notSynchronized
  have S : CallFix p m c b_Row_add 2 s ([.ref a0, .int i1] : List Value).toArray w_Row_add R_Row := ⟨hx, hb, hml, findClass_of_methodNamed B.named, atoms_spec (ws := w_Row_add) B.pre⟩
  have hT : ∀ w ∈ tbl, w ∈ w_Row_add := fun _ q => List.mem_cons_of_mem _ q
  have hS : va_S (hA b0) s.heap s.heap [] := va_S.rf
  have hl := lv_entry ([.ref a0, .int i1]) (n := 2) (Nat.le_of_ble_eq_true rfl)
  rw [lg_entry_eq]
  generalize (lg_sl ([.ref a0, .int i1]) ++ List.replicate (2 - (lg_sl ([.ref a0, .int i1])).length) Slot.unset).toArray = ls at hl ⊢
  have hl : lv_has ls 2 [(0, .ref a0), (1, .int i1)] := hl
  obtain ⟨dn, edn⟩ : ∃ z, z = dnZ := ⟨_, rfl⟩
  obtain ⟨ds, eds⟩ : ∃ z, z = dsZ := ⟨_, rfl⟩
  obtain ⟨nx, enx⟩ : ∃ z, z = nxZ := ⟨_, rfl⟩
  rw [← edn, ← eds, ← enx] at hrun
  rw [← enx] at hw
  have hcR : 0 + dn = dnZ := by omega
  have hsR : 0 + ds = dsZ := by omega
  have hnR : nx + dn = nxZ + dnZ := by omega
  clear edn eds enx
  have j_52 : ∀  (x1 : Int32) (cells slots dn ds nx : Nat) (h : hH) (H : Heap) (locs : List Loc) (ls : Array Slot), f_Row_add_j52 a0 x1 nx h = some (r, dn, ds, h') → cells + dn = dnZ → slots + ds = dsZ → nx + dn = nxZ + dnZ → hW D dA classes b0 nx h H → va_S (hA b0) s.heap H locs → lv_has ls 2 [(0, .ref a0), (1, .int x1)] → W p l e (headSpec w_Row_add ({ frames := 2, cells := dnZ, slots := dsZ, locals := 70 } : Room)).room s m ([.ref a0, .int i1] : List Value).toArray below meth c H locs cells slots (MQ below (va_Qv (fun (_ : Unit) => True) (fun (_ : Unit) t => hW D dA classes b0 (nxZ + dnZ) h' t.heap) (hA b0)) ([.ref a0, .int i1] : List Value).toArray s dnZ dsZ (hA b0)) (F0 m 52 ls []) := by
    intro x1 cells slots dn ds nx h H locs ls hrun hcR hsR hnR hw hS hl
    unfold f_Row_add_j52 at hrun
    refine lv_aload_n hx hb d_Row_add_52 rfl (lv_at hl 0 rfl) ?_
    replace hrun := hb_some hrun
    obtain ⟨v53, g53, hrun⟩ := hrun
    refine h_getI S (fun w q => hT w (i_Row w q)) hK (ci := 8) rfl 2 (by decide) (hT _ fl_Row_19) hw g53 d_Row_add_53 ?_
    refine lv_aload_n hx hb d_Row_add_56 rfl (lv_at hl 0 rfl) ?_
    replace hrun := hb_some hrun
    obtain ⟨v57, g57, hrun⟩ := hrun
    refine h_getR S (fun w q => hT w (i_Row w q)) hK (ci := 8) rfl 1 (by decide) (hT _ fl_Row_15) hw g57 d_Row_add_57 ?_
    replace hrun := hb_some hrun
    obtain ⟨p60, rfl, hrun⟩ := hrun
    replace hrun := hb_some hrun
    obtain ⟨v60, g60, hrun⟩ := hrun
    refine h_alen S hK (kd := 0) rfl hw g60 d_Row_add_60 ?_
    refine lv_icmp_ge (tgt := 84) hx hb d_Row_add_61 (by decide) (fun c61 => ?_) (fun c61 => ?_)
    · rw [if_pos c61] at hrun
      cases hrun
      refine W.widen (k := dnZ) (n := dsZ) (by omega) (by omega) ?_
      rw [show nx = nxZ + dnZ by omega] at hw
      exact W.vret hx hb hr (fun t ht hW9 => ⟨⟨(), rfl, trivial, by show hW D dA classes b0 _ _ t.heap; rw [ht]; exact hw⟩, hS.F ht⟩) hS.2.2 d_Row_add_84
    · rw [if_neg c61] at hrun
      refine lv_aload_n hx hb d_Row_add_64 rfl (lv_at hl 0 rfl) ?_
      replace hrun := hb_some hrun
      obtain ⟨v65, g65, hrun⟩ := hrun
      refine h_getR S (fun w q => hT w (i_Row w q)) hK (ci := 8) rfl 1 (by decide) (hT _ fl_Row_15) hw g65 d_Row_add_65 ?_
      refine lv_aload_n hx hb d_Row_add_68 rfl (lv_at hl 0 rfl) ?_
      replace hrun := hb_some hrun
      obtain ⟨v69, g69, hrun⟩ := hrun
      refine h_getI S (fun w q => hT w (i_Row w q)) hK (ci := 8) rfl 2 (by decide) (hT _ fl_Row_19) hw g69 d_Row_add_69 ?_
      refine lv_iload_n hx hb d_Row_add_72 rfl (lv_at hl 1 rfl) ?_
      replace hrun := hb_some hrun
      obtain ⟨p73, rfl, hrun⟩ := hrun
      replace hrun := hb_some hrun
      obtain ⟨h73, g73, hrun⟩ := hrun
      refine h_iast S hK (kd := 0) rfl hw hS g73 d_Row_add_73 (fun H locs hw hS => ?_)
      refine lv_aload_n hx hb d_Row_add_74 rfl (lv_at hl 0 rfl) ?_
      refine lv_dup hx hb d_Row_add_75 rfl ?_
      replace hrun := hb_some hrun
      obtain ⟨v76, g76, hrun⟩ := hrun
      refine h_getI S (fun w q => hT w (i_Row w q)) hK (ci := 8) rfl 2 (by decide) (hT _ fl_Row_19) hw g76 d_Row_add_76 ?_
      refine lv_iconst (v := (1 : Int32)) hx hb d_Row_add_79 (by decide) ?_
      refine lv_iadd hx hb d_Row_add_80 ?_
      replace hrun := hb_some hrun
      obtain ⟨h81, g81, hrun⟩ := hrun
      refine h_put S (fun w q => hT w (i_Row w q)) t_Row t_Row_ok n_Row hK (ci := 8) rfl 2 (by decide) (hT _ fl_Row_19) rfl rfl rfl hw hS g81 d_Row_add_81 (fun H locs hw hS => ?_)
      cases hrun
      refine W.widen (k := dnZ) (n := dsZ) (by omega) (by omega) ?_
      rw [show nx = nxZ + dnZ by omega] at hw
      exact W.vret hx hb hr (fun t ht hW9 => ⟨⟨(), rfl, trivial, by show hW D dA classes b0 _ _ t.heap; rw [ht]; exact hw⟩, hS.F ht⟩) hS.2.2 d_Row_add_84
  unfold f_Row_add at hrun
  refine lv_aload_n hx hb d_Row_add_0 rfl (lv_at hl 0 rfl) ?_
  replace hrun := hb_some hrun
  obtain ⟨v1, g1, hrun⟩ := hrun
  refine h_getI S (fun w q => hT w (i_Row w q)) hK (ci := 8) rfl 2 (by decide) (hT _ fl_Row_19) hw g1 d_Row_add_1 ?_
  refine lv_aload_n hx hb d_Row_add_4 rfl (lv_at hl 0 rfl) ?_
  replace hrun := hb_some hrun
  obtain ⟨v5, g5, hrun⟩ := hrun
  refine h_getI S (fun w q => hT w (i_Row w q)) hK (ci := 8) rfl 0 (by decide) (hT _ fl_Row_9) hw g5 d_Row_add_5 ?_
  refine lv_icmp_lt (tgt := 12) hx hb d_Row_add_8 (by decide) (fun c8 => ?_) (fun c8 => ?_)
  · rw [if_pos c8] at hrun
    refine lv_aload_n hx hb d_Row_add_12 rfl (lv_at hl 0 rfl) ?_
    replace hrun := hb_some hrun
    obtain ⟨v13, g13, hrun⟩ := hrun
    refine h_getI S (fun w q => hT w (i_Row w q)) hK (ci := 8) rfl 2 (by decide) (hT _ fl_Row_19) hw g13 d_Row_add_13 ?_
    refine lv_aload_n hx hb d_Row_add_16 rfl (lv_at hl 0 rfl) ?_
    replace hrun := hb_some hrun
    obtain ⟨v17, g17, hrun⟩ := hrun
    refine h_getR S (fun w q => hT w (i_Row w q)) hK (ci := 8) rfl 1 (by decide) (hT _ fl_Row_15) hw g17 d_Row_add_17 ?_
    replace hrun := hb_some hrun
    obtain ⟨p20, rfl, hrun⟩ := hrun
    replace hrun := hb_some hrun
    obtain ⟨v20, g20, hrun⟩ := hrun
    refine h_alen S hK (kd := 0) rfl hw g20 d_Row_add_20 ?_
    refine lv_icmp_lt (tgt := 52) hx hb d_Row_add_21 (by decide) (fun c21 => ?_) (fun c21 => ?_)
    · rw [if_pos c21] at hrun
      exact j_52 i1 0 0 _ _ nx h _ _ _ hrun hcR hsR hnR hw hS (lv_sub hl [0, 1] rfl)
    · rw [if_neg c21] at hrun
      refine lv_aload_n hx hb d_Row_add_24 rfl (lv_at hl 0 rfl) ?_
      refine lv_aload_n hx hb d_Row_add_25 rfl (lv_at hl 0 rfl) ?_
      replace hrun := hb_some hrun
      obtain ⟨v26, g26, hrun⟩ := hrun
      refine h_getR S (fun w q => hT w (i_Row w q)) hK (ci := 8) rfl 1 (by decide) (hT _ fl_Row_15) hw g26 d_Row_add_26 ?_
      refine lv_aload_n hx hb d_Row_add_29 rfl (lv_at hl 0 rfl) ?_
      replace hrun := hb_some hrun
      obtain ⟨v30, g30, hrun⟩ := hrun
      refine h_getI S (fun w q => hT w (i_Row w q)) hK (ci := 8) rfl 0 (by decide) (hT _ fl_Row_9) hw g30 d_Row_add_30 ?_
      refine lv_iconst (v := (2 : Int32)) hx hb d_Row_add_33 (by decide) ?_
      refine lv_aload_n hx hb d_Row_add_34 rfl (lv_at hl 0 rfl) ?_
      replace hrun := hb_some hrun
      obtain ⟨v35, g35, hrun⟩ := hrun
      refine h_getR S (fun w q => hT w (i_Row w q)) hK (ci := 8) rfl 1 (by decide) (hT _ fl_Row_15) hw g35 d_Row_add_35 ?_
      replace hrun := hb_some hrun
      obtain ⟨p38, rfl, hrun⟩ := hrun
      replace hrun := hb_some hrun
      obtain ⟨v38, g38, hrun⟩ := hrun
      refine h_alen S hK (kd := 0) rfl hw g38 d_Row_add_38 ?_
      refine lv_imul hx hb d_Row_add_39 ?_
      refine lv_bipush (v := (8 : Int32)) hx hb d_Row_add_40 (by decide) ?_
      refine lv_iadd hx hb d_Row_add_42 ?_
      refine va_mmin hx hb (by rw [hml]; exact hl.1.symm) S.2.2.2.1 (S.2.2.2.2 _ (hT _ ml_Row_22)) (S.2.2.2.2 _ (hT _ sm_mmin)) (S.2.2.2.2 _ (hT _ it_Math)) (S.2.2.2.2 _ (hT _ cd_mmin)) (Nat.le_of_ble_eq_true rfl) (by simp only [List.map, List.sum_cons, List.sum_nil, h_cat]; exact Nat.le_of_ble_eq_true rfl) (show 0 ≤ dnZ by omega) (show 0 ≤ dsZ by omega) d_Row_add_43 ?_
      replace hrun := hb_some hrun
      obtain ⟨p46_0, rfl, hrun⟩ := hrun
      replace hrun := hbind_some hrun
      obtain ⟨v46, d46, s46, h46, dn46, ds46, g46, hrun, en46, es46⟩ := hrun
      refine h_cq (h_runS S (As := [.ref p46_0, .int (if (((2 : Int32) * v38) + (8 : Int32)) < v30 then (((2 : Int32) * v38) + (8 : Int32)) else v30)]) (rest := [.ref a0]) (c_Arrays_copyOf l D dA b0 p46_0 (if (((2 : Int32) * v38) + (8 : Int32)) < v30 then (((2 : Int32) * v38) + (8 : Int32)) else v30) nx g46) (va_cwS 2 S.2.2.2.2 (h_good _ (h_in3 ml_Row_28 sm_Arrays_copyOf it_Arrays) cd_Arrays_copyOf) rfl rfl rfl (by decide +kernel) ⟨Nat.le_of_ble_eq_true rfl, Nat.le_of_ble_eq_true rfl⟩) hK hN hw rfl hl.1 (lv_room (Nat.le_of_ble_eq_true rfl)) d_Row_add_46 ⟨show 0 + d46 ≤ dnZ by omega, show 0 + s46 ≤ dsZ by omega⟩) hS (fun H locs hw hS => ?_)
      obtain ⟨nx46, ex46⟩ : ∃ z, z = nx + d46 := ⟨_, rfl⟩
      rw [← ex46] at hw
      try rw [← ex46] at hrun
      replace hcR : (0 + d46) + dn46 = dnZ := by omega
      replace hsR : (0 + s46) + ds46 = dsZ := by omega
      replace hnR : nx46 + dn46 = nxZ + dnZ := by omega
      clear en46 es46 ex46
      replace hrun := hb_some hrun
      obtain ⟨h49, g49, hrun⟩ := hrun
      refine h_put S (fun w q => hT w (i_Row w q)) t_Row t_Row_ok n_Row hK (ci := 8) rfl 1 (by decide) (hT _ fl_Row_15) rfl (h_narA _ _) (h_fitA _ _) hw hS g49 d_Row_add_49 (fun H locs hw hS => ?_)
      exact j_52 i1 (0 + d46) (0 + s46) _ _ nx46 h49 _ _ _ hrun hcR hsR hnR hw hS (lv_sub hl [0, 1] rfl)
  · rw [if_neg c8] at hrun
    cases hrun
    refine W.widen (k := dnZ) (n := dsZ) (by omega) (by omega) ?_
    rw [show nx = nxZ + dnZ by omega] at hw
    exact W.vret hx hb hr (fun t ht hW9 => ⟨⟨(), rfl, trivial, by show hW D dA classes b0 _ _ t.heap; rw [ht]; exact hw⟩, hS.F ht⟩) hS.2.2 d_Row_add_11
set_option maxHeartbeats 4000000 in
set_option maxRecDepth 100000 in
theorem c_MacroExpand_oneMore (l : Launch) (D : va_G) (dA : Nat → ClassId) (b0 : Nat) (a0 : Nat) (i1 : Int32) (nxZ : Nat) {h h' : hH} {r : Int32} {dnZ dsZ : Nat} (hrun : f_MacroExpand_oneMore a0 i1 nxZ h = some (r, dnZ, dsZ, h')) : Met l y_MacroExpand_oneMore w_MacroExpand_oneMore ({ frames := 3, cells := dnZ, slots := dsZ, locals := 91 } : Room) (va_Pc [.ref a0, .int i1] (hB D dA b0 nxZ h)) (va_Qi (fun r' (_ : Unit) => r' = r) (fun (_ : Unit) t => hW D dA classes b0 (nxZ + dnZ) h' t.heap) (hA b0)) dnZ dsZ (hA b0) := by
  refine Met.ofW (cc := b_MacroExpand_oneMore) (maxL := 2) (ret := (some .int)) (by decide) rfl ?_
  intro p e s m args below meth c s₁ B hml hv
  obtain ⟨rfl, hw, hK, hN⟩ := hv
  have hx := B.exec
  have hb := B.bytes
  have hr := B.returns
  have hlocks := B.notSynchronized
  have S : CallFix p m c b_MacroExpand_oneMore 2 s ([.ref a0, .int i1] : List Value).toArray w_MacroExpand_oneMore R_MacroExpand := ⟨hx, hb, hml, findClass_of_methodNamed B.named, atoms_spec (ws := w_MacroExpand_oneMore) B.pre⟩
  have hT : ∀ w ∈ tbl, w ∈ w_MacroExpand_oneMore := fun _ q => List.mem_cons_of_mem _ q
  have hS : va_S (hA b0) s.heap s.heap [] := va_S.rf
  have hl := lv_entry ([.ref a0, .int i1]) (n := 2) (Nat.le_of_ble_eq_true rfl)
  rw [lg_entry_eq]
  generalize (lg_sl ([.ref a0, .int i1]) ++ List.replicate (2 - (lg_sl ([.ref a0, .int i1])).length) Slot.unset).toArray = ls at hl ⊢
  have hl : lv_has ls 2 [(0, .ref a0), (1, .int i1)] := hl
  obtain ⟨dn, edn⟩ : ∃ z, z = dnZ := ⟨_, rfl⟩
  obtain ⟨ds, eds⟩ : ∃ z, z = dsZ := ⟨_, rfl⟩
  obtain ⟨nx, enx⟩ : ∃ z, z = nxZ := ⟨_, rfl⟩
  rw [← edn, ← eds, ← enx] at hrun
  rw [← enx] at hw
  have hcR : 0 + dn = dnZ := by omega
  have hsR : 0 + ds = dsZ := by omega
  have hnR : nx + dn = nxZ + dnZ := by omega
  clear edn eds enx
  unfold f_MacroExpand_oneMore at hrun
  refine lv_aload_n hx hb d_MacroExpand_oneMore_0 rfl (lv_at hl 0 rfl) ?_
  replace hrun := hb_some hrun
  obtain ⟨c1, k1, hrun⟩ := hrun
  replace hrun := hb_some hrun
  obtain ⟨v1, g1, hrun⟩ := hrun
  refine h_ci (h_runV S (As := []) (rest := []) (c_Row_isFull l D dA b0 a0 nx g1) (cwV 0 S.2.2.2.2 (h_good _ (h_in4 ml_MacroExpand_175 im_Row_isFull se_Row_isFull it_Row) cd_Row_isFull) rfl rfl rfl (by decide +kernel) ⟨Nat.le_of_ble_eq_true rfl, Nat.le_of_ble_eq_true rfl⟩) hK hN hw (ci := 8) rfl k1 rfl hl.1 (lv_room (Nat.le_of_ble_eq_true rfl)) d_MacroExpand_oneMore_1 ⟨show 0 + 0 ≤ dnZ by omega, show 0 + 0 ≤ dsZ by omega⟩) hS (fun H locs hw hS => ?_)
  refine lv_if_eq (tgt := 10) hx hb d_MacroExpand_oneMore_4 (by decide) (fun c4 => ?_) (fun c4 => ?_)
  · rw [if_pos c4] at hrun
    refine lv_aload_n hx hb d_MacroExpand_oneMore_10 rfl (lv_at hl 0 rfl) ?_
    refine lv_iload_n hx hb d_MacroExpand_oneMore_11 rfl (lv_at hl 1 rfl) ?_
    replace hrun := hb_some hrun
    obtain ⟨c12, k12, hrun⟩ := hrun
    replace hrun := hbind_some hrun
    obtain ⟨_u12, d12, s12, h12, dn12, ds12, g12, hrun, en12, es12⟩ := hrun
    refine h_cv (h_runV S (As := [.int i1]) (rest := []) (c_Row_add l D dA b0 a0 i1 nx g12) (cwV 1 S.2.2.2.2 (h_good _ (h_in4 ml_MacroExpand_176 im_Row_add se_Row_add it_Row) cd_Row_add) rfl rfl rfl (by decide +kernel) ⟨Nat.le_of_ble_eq_true rfl, Nat.le_of_ble_eq_true rfl⟩) hK hN hw (ci := 8) rfl k12 rfl hl.1 (lv_room (Nat.le_of_ble_eq_true rfl)) d_MacroExpand_oneMore_12 ⟨show 0 + d12 ≤ dnZ by omega, show 0 + s12 ≤ dsZ by omega⟩) hS (fun H locs hw hS => ?_)
    obtain ⟨nx12, ex12⟩ : ∃ z, z = nx + d12 := ⟨_, rfl⟩
    rw [← ex12] at hw
    try rw [← ex12] at hrun
    replace hcR : (0 + d12) + dn12 = dnZ := by omega
    replace hsR : (0 + s12) + ds12 = dsZ := by omega
    replace hnR : nx12 + dn12 = nxZ + dnZ := by omega
    clear en12 es12 ex12
    refine lv_aload_n hx hb d_MacroExpand_oneMore_15 rfl (lv_at hl 0 rfl) ?_
    replace hrun := hb_some hrun
    obtain ⟨v16, g16, hrun⟩ := hrun
    refine h_getNI S (fun w q => hT w (i_Row w q)) hK (ci := 8) rfl 2 (by decide) (hN.1 _ nf_MacroExpand_137) hw g16 d_MacroExpand_oneMore_16 ?_
    cases hrun
    refine W.widen (k := dnZ) (n := dsZ) (by omega) (by omega) ?_
    rw [show nx12 = nxZ + dnZ by omega] at hw
    exact W.iret hx hb hr (fun t ht hW9 => ⟨⟨_, (), rfl, rfl, by show hW D dA classes b0 _ _ t.heap; rw [ht]; exact hw⟩, hS.F ht⟩) hS.2.2 d_MacroExpand_oneMore_19
  · rw [if_neg c4] at hrun
    refine lv_bipush (v := (-4 : Int32)) hx hb d_MacroExpand_oneMore_7 (by decide) ?_
    cases hrun
    refine W.widen (k := dnZ) (n := dsZ) (by omega) (by omega) ?_
    rw [show nx = nxZ + dnZ by omega] at hw
    exact W.iret hx hb hr (fun t ht hW9 => ⟨⟨_, (), rfl, rfl, by show hW D dA classes b0 _ _ t.heap; rw [ht]; exact hw⟩, hS.F ht⟩) hS.2.2 d_MacroExpand_oneMore_9
set_option maxHeartbeats 4000000 in
set_option maxRecDepth 100000 in
theorem c_MacroExpand_body (l : Launch) (D : va_G) (dA : Nat → ClassId) (b0 : Nat) (a0 : Nat) (i1 : Int32) (i2 : Int32) (nxZ : Nat) {h h' : hH} {r : Int32} {dnZ dsZ : Nat} (hrun : f_MacroExpand_body a0 i1 i2 nxZ h = some (r, dnZ, dsZ, h')) : Met l y_MacroExpand_body w_MacroExpand_body ({ frames := 4, cells := dnZ, slots := dsZ, locals := 112 } : Room) (va_Pc [.ref a0, .int i1, .int i2] (hB D dA b0 nxZ h)) (va_Qi (fun r' (_ : Unit) => r' = r) (fun (_ : Unit) t => hW D dA classes b0 (nxZ + dnZ) h' t.heap) (hA b0)) dnZ dsZ (hA b0) := by
  refine Met.ofW (cc := b_MacroExpand_body) (maxL := 4) (ret := (some .int)) (by decide) rfl ?_
  intro p e s m args below meth c s₁ B hml hv
  obtain ⟨rfl, hw, hK, hN⟩ := hv
  have hx := B.exec
  have hb := B.bytes
  have hr := B.returns
  have hlocks := B.notSynchronized
  have S : CallFix p m c b_MacroExpand_body 4 s ([.ref a0, .int i1, .int i2] : List Value).toArray w_MacroExpand_body R_MacroExpand := ⟨hx, hb, hml, findClass_of_methodNamed B.named, atoms_spec (ws := w_MacroExpand_body) B.pre⟩
  have hT : ∀ w ∈ tbl, w ∈ w_MacroExpand_body := fun _ q => List.mem_cons_of_mem _ q
  have hS : va_S (hA b0) s.heap s.heap [] := va_S.rf
  have hl := lv_entry ([.ref a0, .int i1, .int i2]) (n := 4) (Nat.le_of_ble_eq_true rfl)
  rw [lg_entry_eq]
  generalize (lg_sl ([.ref a0, .int i1, .int i2]) ++ List.replicate (4 - (lg_sl ([.ref a0, .int i1, .int i2])).length) Slot.unset).toArray = ls at hl ⊢
  have hl : lv_has ls 4 [(0, .ref a0), (1, .int i1), (2, .int i2)] := hl
  obtain ⟨dn, edn⟩ : ∃ z, z = dnZ := ⟨_, rfl⟩
  obtain ⟨ds, eds⟩ : ∃ z, z = dsZ := ⟨_, rfl⟩
  obtain ⟨nx, enx⟩ : ∃ z, z = nxZ := ⟨_, rfl⟩
  rw [← edn, ← eds, ← enx] at hrun
  rw [← enx] at hw
  have hcR : 0 + dn = dnZ := by omega
  have hsR : 0 + ds = dsZ := by omega
  have hnR : nx + dn = nxZ + dnZ := by omega
  clear edn eds enx
  unfold f_MacroExpand_body at hrun
  refine lv_aload_n hx hb d_MacroExpand_body_0 rfl (lv_at hl 0 rfl) ?_
  replace hrun := hb_some hrun
  obtain ⟨v1, g1, hrun⟩ := hrun
  refine h_getR S (fun w q => hT w (i_MacroExpand w q)) hK (ci := 0) rfl 0 (by decide) (hT _ fl_MacroExpand_23) hw g1 d_MacroExpand_body_1 ?_
  refine lv_iload_n hx hb d_MacroExpand_body_4 rfl (lv_at hl 1 rfl) ?_
  replace hrun := hb_some hrun
  obtain ⟨p5, rfl, hrun⟩ := hrun
  replace hrun := hb_some hrun
  obtain ⟨c5, k5, hrun⟩ := hrun
  replace hrun := hb_some hrun
  obtain ⟨v5, g5, hrun⟩ := hrun
  refine h_cq (h_runV S (As := [.int i1]) (rest := []) (c_Book_numbered l D dA b0 p5 i1 nx g5) (cwV 1 S.2.2.2.2 (h_good _ (h_in4 ml_MacroExpand_79 im_Book_numbered se_Book_numbered it_Book) cd_Book_numbered) rfl rfl rfl (by decide +kernel) ⟨Nat.le_of_ble_eq_true rfl, Nat.le_of_ble_eq_true rfl⟩) hK hN hw (ci := 3) rfl k5 rfl hl.1 (lv_room (Nat.le_of_ble_eq_true rfl)) d_MacroExpand_body_5 ⟨show 0 + 0 ≤ dnZ by omega, show 0 + 0 ≤ dsZ by omega⟩) hS (fun H locs hw hS => ?_)
  refine h_astore_n (lv' := [(3, va_rf v5), (0, .ref a0), (1, .int i1), (2, .int i2)]) hx hb d_MacroExpand_body_8 rfl hl (by decide) rfl (fun ls hl => ?_)
  refine h_aload_n hx hb d_MacroExpand_body_9 rfl (lv_at hl 0 rfl) ?_
  rcases v5 with _ | p10
  · dsimp only [hNull] at hrun
    refine lv_ifnonnullN hx hb d_MacroExpand_body_10 ?_
    refine lv_iconst (v := (-1 : Int32)) hx hb d_MacroExpand_body_13 (by decide) ?_
    cases hrun
    refine W.widen (k := dnZ) (n := dsZ) (by omega) (by omega) ?_
    rw [show nx = nxZ + dnZ by omega] at hw
    exact W.iret hx hb hr (fun t ht hW9 => ⟨⟨_, (), rfl, rfl, by show hW D dA classes b0 _ _ t.heap; rw [ht]; exact hw⟩, hS.F ht⟩) hS.2.2 d_MacroExpand_body_14
  · dsimp only [hNull] at hrun
    refine lv_ifnonnull (tgt := 15) hx hb d_MacroExpand_body_10 (by decide) ?_
    refine lv_iload_n hx hb d_MacroExpand_body_15 rfl (lv_at hl 3 rfl) ?_
    replace hrun := hb_some hrun
    obtain ⟨v16, g16, hrun⟩ := hrun
    refine h_ci (h_runS S (As := [.int i2]) (rest := []) (c_Kind_isToken l D dA b0 i2 nx g16) (va_cwS 1 S.2.2.2.2 (h_good _ (h_in3 ml_MacroExpand_83 sm_Kind_isToken it_Kind) cd_Kind_isToken) rfl rfl rfl (by decide +kernel) ⟨Nat.le_of_ble_eq_true rfl, Nat.le_of_ble_eq_true rfl⟩) hK hN hw rfl hl.1 (lv_room (Nat.le_of_ble_eq_true rfl)) d_MacroExpand_body_16 ⟨show 0 + 0 ≤ dnZ by omega, show 0 + 0 ≤ dsZ by omega⟩) hS (fun H locs hw hS => ?_)
    refine lv_if_ne (tgt := 25) hx hb d_MacroExpand_body_19 (by decide) (fun c19 => ?_) (fun c19 => ?_)
    · rw [if_neg c19] at hrun
      refine lv_aload_n hx hb d_MacroExpand_body_25 rfl (lv_at hl 0 rfl) ?_
      replace hrun := hb_some hrun
      obtain ⟨v26, g26, hrun⟩ := hrun
      refine h_getNR S (fun w q => hT w (i_Macro w q)) hK (ci := 7) rfl 4 (by decide) (hN.1 _ nf_MacroExpand_89) hw g26 d_MacroExpand_body_26 ?_
      refine lv_iload_n hx hb d_MacroExpand_body_29 rfl (lv_at hl 3 rfl) ?_
      replace hrun := hb_some hrun
      obtain ⟨p30_0, rfl, hrun⟩ := hrun
      replace hrun := hbind_some hrun
      obtain ⟨v30, d30, s30, h30, dn30, ds30, g30, hrun, en30, es30⟩ := hrun
      refine h_ci (h_runS S (As := [.ref p30_0, .int i2]) (rest := []) (c_MacroExpand_oneMore l D dA b0 p30_0 i2 nx g30) (va_cwS 2 S.2.2.2.2 (h_good _ (h_in3 ml_MacroExpand_93 sm_MacroExpand_oneMore it_MacroExpand) cd_MacroExpand_oneMore) rfl rfl rfl (by decide +kernel) ⟨Nat.le_of_ble_eq_true rfl, Nat.le_of_ble_eq_true rfl⟩) hK hN hw rfl hl.1 (lv_room (Nat.le_of_ble_eq_true rfl)) d_MacroExpand_body_30 ⟨show 0 + d30 ≤ dnZ by omega, show 0 + s30 ≤ dsZ by omega⟩) hS (fun H locs hw hS => ?_)
      obtain ⟨nx30, ex30⟩ : ∃ z, z = nx + d30 := ⟨_, rfl⟩
      rw [← ex30] at hw
      try rw [← ex30] at hrun
      replace hcR : (0 + d30) + dn30 = dnZ := by omega
      replace hsR : (0 + s30) + ds30 = dsZ := by omega
      replace hnR : nx30 + dn30 = nxZ + dnZ := by omega
      clear en30 es30 ex30
      cases hrun
      refine W.widen (k := dnZ) (n := dsZ) (by omega) (by omega) ?_
      rw [show nx30 = nxZ + dnZ by omega] at hw
      exact W.iret hx hb hr (fun t ht hW9 => ⟨⟨_, (), rfl, rfl, by show hW D dA classes b0 _ _ t.heap; rw [ht]; exact hw⟩, hS.F ht⟩) hS.2.2 d_MacroExpand_body_33
    · rw [if_pos c19] at hrun
      refine lv_bipush (v := (-2 : Int32)) hx hb d_MacroExpand_body_22 (by decide) ?_
      cases hrun
      refine W.widen (k := dnZ) (n := dsZ) (by omega) (by omega) ?_
      rw [show nx = nxZ + dnZ by omega] at hw
      exact W.iret hx hb hr (fun t ht hW9 => ⟨⟨_, (), rfl, rfl, by show hW D dA classes b0 _ _ t.heap; rw [ht]; exact hw⟩, hS.F ht⟩) hS.2.2 d_MacroExpand_body_24
set_option maxHeartbeats 4000000 in
set_option maxRecDepth 100000 in
theorem c_Kind_canDelimit (l : Launch) (D : va_G) (dA : Nat → ClassId) (b0 : Nat) (i0 : Int32) (nx : Nat) {h : hH} {r : Int32} (hrun : f_Kind_canDelimit i0 h = some r) : Met l y_Kind_canDelimit w_Kind_canDelimit ({ frames := 2, cells := 0, slots := 0, locals := 40 } : Room) (va_Pc [.int i0] (hB D dA b0 nx h)) (va_Qi (fun r' (_ : Unit) => r' = r) (fun (_ : Unit) t => hW D dA classes b0 nx h t.heap) (hA b0)) 0 0 (hA b0) := by
  refine Met.ofW (cc := b_Kind_canDelimit) (maxL := 1) (ret := (some .boolean)) (by decide) rfl ?_
  intro p e s m args below meth c s₁ B hml hv
  obtain ⟨rfl, hw, hK, hN⟩ := hv
  have hx := B.exec
  have hb := B.bytes
  have hr := B.returns
  have hlocks := B.notSynchronized
  have S : CallFix p m c b_Kind_canDelimit 1 s ([.int i0] : List Value).toArray w_Kind_canDelimit R_Kind := ⟨hx, hb, hml, findClass_of_methodNamed B.named, atoms_spec (ws := w_Kind_canDelimit) B.pre⟩
  have hT : ∀ w ∈ tbl, w ∈ w_Kind_canDelimit := fun _ q => List.mem_cons_of_mem _ q
  have hS : va_S (hA b0) s.heap s.heap [] := va_S.rf
  have hl := lv_entry ([.int i0]) (n := 1) (Nat.le_of_ble_eq_true rfl)
  rw [lg_entry_eq]
  generalize (lg_sl ([.int i0]) ++ List.replicate (1 - (lg_sl ([.int i0])).length) Slot.unset).toArray = ls at hl ⊢
  have hl : lv_has ls 1 [(0, .int i0)] := hl
  unfold f_Kind_canDelimit at hrun
  refine lv_iload_n hx hb d_Kind_canDelimit_0 rfl (lv_at hl 0 rfl) ?_
  replace hrun := hb_some hrun
  obtain ⟨v1, g1, hrun⟩ := hrun
  refine h_ci (h_runS S (As := [.int i0]) (rest := []) (c_Kind_isToken l D dA b0 i0 nx g1) (va_cwS 1 S.2.2.2.2 (h_good _ (h_in3 ml_Kind_18 sm_Kind_isToken it_Kind) cd_Kind_isToken) rfl rfl rfl (by decide +kernel) ⟨Nat.le_of_ble_eq_true rfl, Nat.le_of_ble_eq_true rfl⟩) hK hN hw rfl hl.1 (lv_room (Nat.le_of_ble_eq_true rfl)) d_Kind_canDelimit_1 ⟨Nat.le_refl _, Nat.le_refl _⟩) hS (fun H locs hw hS => ?_)
  refine lv_if_eq (tgt := 32) hx hb d_Kind_canDelimit_4 (by decide) (fun c4 => ?_) (fun c4 => ?_)
  · rw [if_pos c4] at hrun
    refine lv_iconst (v := (0 : Int32)) hx hb d_Kind_canDelimit_32 (by decide) ?_
    cases hrun
    exact W.zret hx hb hr (by decide) (fun t ht hW9 => ⟨⟨_, (), rfl, rfl, by show hW D dA classes b0 _ _ t.heap; rw [ht]; exact hw⟩, hS.F ht⟩) hS.2.2 d_Kind_canDelimit_33
  · rw [if_neg c4] at hrun
    refine lv_iload_n hx hb d_Kind_canDelimit_7 rfl (lv_at hl 0 rfl) ?_
    refine lv_sipush (v := (257 : Int32)) hx hb d_Kind_canDelimit_8 (by decide) ?_
    refine lv_icmp_eq (tgt := 32) hx hb d_Kind_canDelimit_11 (by decide) (fun c11 => ?_) (fun c11 => ?_)
    · rw [if_pos c11] at hrun
      refine lv_iconst (v := (0 : Int32)) hx hb d_Kind_canDelimit_32 (by decide) ?_
      cases hrun
      exact W.zret hx hb hr (by decide) (fun t ht hW9 => ⟨⟨_, (), rfl, rfl, by show hW D dA classes b0 _ _ t.heap; rw [ht]; exact hw⟩, hS.F ht⟩) hS.2.2 d_Kind_canDelimit_33
    · rw [if_neg c11] at hrun
      refine lv_iload_n hx hb d_Kind_canDelimit_14 rfl (lv_at hl 0 rfl) ?_
      refine lv_sipush (v := (258 : Int32)) hx hb d_Kind_canDelimit_15 (by decide) ?_
      refine lv_icmp_eq (tgt := 32) hx hb d_Kind_canDelimit_18 (by decide) (fun c18 => ?_) (fun c18 => ?_)
      · rw [if_pos c18] at hrun
        refine lv_iconst (v := (0 : Int32)) hx hb d_Kind_canDelimit_32 (by decide) ?_
        cases hrun
        exact W.zret hx hb hr (by decide) (fun t ht hW9 => ⟨⟨_, (), rfl, rfl, by show hW D dA classes b0 _ _ t.heap; rw [ht]; exact hw⟩, hS.F ht⟩) hS.2.2 d_Kind_canDelimit_33
      · rw [if_neg c18] at hrun
        refine lv_iload_n hx hb d_Kind_canDelimit_21 rfl (lv_at hl 0 rfl) ?_
        replace hrun := hb_some hrun
        obtain ⟨v22, g22, hrun⟩ := hrun
        refine h_ci (h_runS S (As := [.int i0]) (rest := []) (c_Kind_isParameter l D dA b0 i0 nx g22) (va_cwS 1 S.2.2.2.2 (h_good _ (h_in3 ml_Kind_9 sm_Kind_isParameter it_Kind) cd_Kind_isParameter) rfl rfl rfl (by decide +kernel) ⟨Nat.le_of_ble_eq_true rfl, Nat.le_of_ble_eq_true rfl⟩) hK hN hw rfl hl.1 (lv_room (Nat.le_of_ble_eq_true rfl)) d_Kind_canDelimit_22 ⟨Nat.le_refl _, Nat.le_refl _⟩) hS (fun H locs hw hS => ?_)
        refine lv_if_ne (tgt := 32) hx hb d_Kind_canDelimit_25 (by decide) (fun c25 => ?_) (fun c25 => ?_)
        · rw [if_neg c25] at hrun
          refine lv_iconst (v := (0 : Int32)) hx hb d_Kind_canDelimit_32 (by decide) ?_
          cases hrun
          exact W.zret hx hb hr (by decide) (fun t ht hW9 => ⟨⟨_, (), rfl, rfl, by show hW D dA classes b0 _ _ t.heap; rw [ht]; exact hw⟩, hS.F ht⟩) hS.2.2 d_Kind_canDelimit_33
        · rw [if_pos c25] at hrun
          refine lv_iconst (v := (1 : Int32)) hx hb d_Kind_canDelimit_28 (by decide) ?_
          refine lv_goto (tgt := 33) hx hb d_Kind_canDelimit_29 (by decide) ?_
          cases hrun
          exact W.zret hx hb hr (by decide) (fun t ht hW9 => ⟨⟨_, (), rfl, rfl, by show hW D dA classes b0 _ _ t.heap; rw [ht]; exact hw⟩, hS.F ht⟩) hS.2.2 d_Kind_canDelimit_33
set_option maxHeartbeats 4000000 in
set_option maxRecDepth 100000 in
theorem c_Macro_row (l : Launch) (D : va_G) (dA : Nat → ClassId) (b0 : Nat) (a0 : Nat) (i1 : Int32) (nx : Nat) {h : hH} {r : Option Nat} (hrun : f_Macro_row a0 i1 h = some r) : Met l y_Macro_row w_Macro_row ({ frames := 1, cells := 0, slots := 0, locals := 21 } : Room) (va_Pc [.ref a0, .int i1] (hB D dA b0 nx h)) (va_Qq (fun r' (_ : Unit) => r' = r) (fun (_ : Unit) t => hW D dA classes b0 nx h t.heap) (hA b0)) 0 0 (hA b0) := by
  refine Met.ofW (cc := b_Macro_row) (maxL := 2) (ret := (some (.object "MacroExpand$Row"))) (by decide) rfl ?_
  intro p e s m args below meth c s₁ B hml hv
  obtain ⟨rfl, hw, hK, hN⟩ := hv
  have hx := B.exec
  have hb := B.bytes
  have hr := B.returns
  have hlocks := B.notSynchronized
  have S : CallFix p m c b_Macro_row 2 s ([.ref a0, .int i1] : List Value).toArray w_Macro_row R_Macro := ⟨hx, hb, hml, findClass_of_methodNamed B.named, atoms_spec (ws := w_Macro_row) B.pre⟩
  have hT : ∀ w ∈ tbl, w ∈ w_Macro_row := fun _ q => List.mem_cons_of_mem _ q
  have hS : va_S (hA b0) s.heap s.heap [] := va_S.rf
  have hl := lv_entry ([.ref a0, .int i1]) (n := 2) (Nat.le_of_ble_eq_true rfl)
  rw [lg_entry_eq]
  generalize (lg_sl ([.ref a0, .int i1]) ++ List.replicate (2 - (lg_sl ([.ref a0, .int i1])).length) Slot.unset).toArray = ls at hl ⊢
  have hl : lv_has ls 2 [(0, .ref a0), (1, .int i1)] := hl
  unfold f_Macro_row at hrun
  refine lv_aload_n hx hb d_Macro_row_0 rfl (lv_at hl 0 rfl) ?_
  replace hrun := hb_some hrun
  obtain ⟨v1, g1, hrun⟩ := hrun
  refine h_getR S (fun w q => hT w (i_Macro w q)) hK (ci := 7) rfl 3 (by decide) (hT _ fl_Macro_33) hw g1 d_Macro_row_1 ?_
  refine lv_iconst (v := (0 : Int32)) hx hb d_Macro_row_4 (by decide) ?_
  refine lv_iload_n hx hb d_Macro_row_5 rfl (lv_at hl 1 rfl) ?_
  refine lv_aload_n hx hb d_Macro_row_6 rfl (lv_at hl 0 rfl) ?_
  replace hrun := hb_some hrun
  obtain ⟨v7, g7, hrun⟩ := hrun
  refine h_getR S (fun w q => hT w (i_Macro w q)) hK (ci := 7) rfl 3 (by decide) (hT _ fl_Macro_33) hw g7 d_Macro_row_7 ?_
  replace hrun := hb_some hrun
  obtain ⟨p10, rfl, hrun⟩ := hrun
  replace hrun := hb_some hrun
  obtain ⟨v10, g10, hrun⟩ := hrun
  refine h_alen S hK (kd := 3) rfl hw g10 d_Macro_row_10 ?_
  refine lv_iconst (v := (1 : Int32)) hx hb d_Macro_row_11 (by decide) ?_
  refine lv_isub hx hb d_Macro_row_12 ?_
  refine va_mmin hx hb (by rw [hml]; exact hl.1.symm) S.2.2.2.1 (S.2.2.2.2 _ (hT _ ml_Macro_9)) (S.2.2.2.2 _ (hT _ sm_mmin)) (S.2.2.2.2 _ (hT _ it_Math)) (S.2.2.2.2 _ (hT _ cd_mmin)) (Nat.le_of_ble_eq_true rfl) (by simp only [List.map, List.sum_cons, List.sum_nil, h_cat]; exact Nat.le_of_ble_eq_true rfl) (Nat.le_refl _) (Nat.le_refl _) d_Macro_row_13 ?_
  refine va_mmax hx hb (by rw [hml]; exact hl.1.symm) S.2.2.2.1 (S.2.2.2.2 _ (hT _ ml_Macro_15)) (S.2.2.2.2 _ (hT _ sm_mmax)) (S.2.2.2.2 _ (hT _ it_Math)) (S.2.2.2.2 _ (hT _ cd_mmax)) (Nat.le_of_ble_eq_true rfl) (by simp only [List.map, List.sum_cons, List.sum_nil, h_cat]; exact Nat.le_of_ble_eq_true rfl) (Nat.le_refl _) (Nat.le_refl _) d_Macro_row_16 ?_
  replace hrun := hb_some hrun
  obtain ⟨p19, rfl, hrun⟩ := hrun
  replace hrun := hb_some hrun
  obtain ⟨v19, g19, hrun⟩ := hrun
  refine h_aald S hK (kd := 3) rfl hw g19 d_Macro_row_19 ?_
  cases hrun
  exact W.aret hx hb hr (Or.inl ⟨_, rfl⟩) (va_rf_or _) (fun t ht hW9 => ⟨⟨_, (), rfl, rfl, by show hW D dA classes b0 _ _ t.heap; rw [ht]; exact hw⟩, hS.F ht⟩) hS.2.2 d_Macro_row_20
set_option maxHeartbeats 4000000 in
set_option maxRecDepth 100000 in
theorem c_MacroExpand_delimiter (l : Launch) (D : va_G) (dA : Nat → ClassId) (b0 : Nat) (a0 : Nat) (i1 : Int32) (i2 : Int32) (i3 : Int32) (nxZ : Nat) {h h' : hH} {r : Int32} {dnZ dsZ : Nat} (hrun : f_MacroExpand_delimiter a0 i1 i2 i3 nxZ h = some (r, dnZ, dsZ, h')) : Met l y_MacroExpand_delimiter w_MacroExpand_delimiter ({ frames := 4, cells := dnZ, slots := dsZ, locals := 112 } : Room) (va_Pc [.ref a0, .int i1, .int i2, .int i3] (hB D dA b0 nxZ h)) (va_Qi (fun r' (_ : Unit) => r' = r) (fun (_ : Unit) t => hW D dA classes b0 (nxZ + dnZ) h' t.heap) (hA b0)) dnZ dsZ (hA b0) := by
  refine Met.ofW (cc := b_MacroExpand_delimiter) (maxL := 5) (ret := (some .int)) (by decide) rfl ?_
  intro p e s m args below meth c s₁ B hml hv
  obtain ⟨rfl, hw, hK, hN⟩ := hv
  have hx := B.exec
  have hb := B.bytes
  have hr := B.returns
  have hlocks := B.notSynchronized
  have S : CallFix p m c b_MacroExpand_delimiter 5 s ([.ref a0, .int i1, .int i2, .int i3] : List Value).toArray w_MacroExpand_delimiter R_MacroExpand := ⟨hx, hb, hml, findClass_of_methodNamed B.named, atoms_spec (ws := w_MacroExpand_delimiter) B.pre⟩
  have hT : ∀ w ∈ tbl, w ∈ w_MacroExpand_delimiter := fun _ q => List.mem_cons_of_mem _ q
  have hS : va_S (hA b0) s.heap s.heap [] := va_S.rf
  have hl := lv_entry ([.ref a0, .int i1, .int i2, .int i3]) (n := 5) (Nat.le_of_ble_eq_true rfl)
  rw [lg_entry_eq]
  generalize (lg_sl ([.ref a0, .int i1, .int i2, .int i3]) ++ List.replicate (5 - (lg_sl ([.ref a0, .int i1, .int i2, .int i3])).length) Slot.unset).toArray = ls at hl ⊢
  have hl : lv_has ls 5 [(0, .ref a0), (1, .int i1), (2, .int i2), (3, .int i3)] := hl
  obtain ⟨dn, edn⟩ : ∃ z, z = dnZ := ⟨_, rfl⟩
  obtain ⟨ds, eds⟩ : ∃ z, z = dsZ := ⟨_, rfl⟩
  obtain ⟨nx, enx⟩ : ∃ z, z = nxZ := ⟨_, rfl⟩
  rw [← edn, ← eds, ← enx] at hrun
  rw [← enx] at hw
  have hcR : 0 + dn = dnZ := by omega
  have hsR : 0 + ds = dsZ := by omega
  have hnR : nx + dn = nxZ + dnZ := by omega
  clear edn eds enx
  unfold f_MacroExpand_delimiter at hrun
  refine lv_aload_n hx hb d_MacroExpand_delimiter_0 rfl (lv_at hl 0 rfl) ?_
  replace hrun := hb_some hrun
  obtain ⟨v1, g1, hrun⟩ := hrun
  refine h_getR S (fun w q => hT w (i_MacroExpand w q)) hK (ci := 0) rfl 0 (by decide) (hT _ fl_MacroExpand_23) hw g1 d_MacroExpand_delimiter_1 ?_
  refine lv_iload_n hx hb d_MacroExpand_delimiter_4 rfl (lv_at hl 1 rfl) ?_
  replace hrun := hb_some hrun
  obtain ⟨p5, rfl, hrun⟩ := hrun
  replace hrun := hb_some hrun
  obtain ⟨c5, k5, hrun⟩ := hrun
  replace hrun := hb_some hrun
  obtain ⟨v5, g5, hrun⟩ := hrun
  refine h_cq (h_runV S (As := [.int i1]) (rest := []) (c_Book_numbered l D dA b0 p5 i1 nx g5) (cwV 1 S.2.2.2.2 (h_good _ (h_in4 ml_MacroExpand_79 im_Book_numbered se_Book_numbered it_Book) cd_Book_numbered) rfl rfl rfl (by decide +kernel) ⟨Nat.le_of_ble_eq_true rfl, Nat.le_of_ble_eq_true rfl⟩) hK hN hw (ci := 3) rfl k5 rfl hl.1 (lv_room (Nat.le_of_ble_eq_true rfl)) d_MacroExpand_delimiter_5 ⟨show 0 + 0 ≤ dnZ by omega, show 0 + 0 ≤ dsZ by omega⟩) hS (fun H locs hw hS => ?_)
  refine h_astore (lv' := [(4, va_rf v5), (0, .ref a0), (1, .int i1), (2, .int i2), (3, .int i3)]) hx hb d_MacroExpand_delimiter_8 hl (by decide) rfl (fun ls hl => ?_)
  refine h_aload hx hb d_MacroExpand_delimiter_10 (lv_at hl 0 rfl) ?_
  rcases v5 with _ | p12
  · dsimp only [hNull] at hrun
    refine lv_ifnonnullN hx hb d_MacroExpand_delimiter_12 ?_
    refine lv_iconst (v := (-1 : Int32)) hx hb d_MacroExpand_delimiter_15 (by decide) ?_
    cases hrun
    refine W.widen (k := dnZ) (n := dsZ) (by omega) (by omega) ?_
    rw [show nx = nxZ + dnZ by omega] at hw
    exact W.iret hx hb hr (fun t ht hW9 => ⟨⟨_, (), rfl, rfl, by show hW D dA classes b0 _ _ t.heap; rw [ht]; exact hw⟩, hS.F ht⟩) hS.2.2 d_MacroExpand_delimiter_16
  · dsimp only [hNull] at hrun
    refine lv_ifnonnull (tgt := 17) hx hb d_MacroExpand_delimiter_12 (by decide) ?_
    refine lv_iload_n hx hb d_MacroExpand_delimiter_17 rfl (lv_at hl 3 rfl) ?_
    refine lv_if_lt (tgt := 37) hx hb d_MacroExpand_delimiter_18 (by decide) (fun c18 => ?_) (fun c18 => ?_)
    · rw [if_pos c18] at hrun
      refine lv_bipush (v := (-2 : Int32)) hx hb d_MacroExpand_delimiter_37 (by decide) ?_
      cases hrun
      refine W.widen (k := dnZ) (n := dsZ) (by omega) (by omega) ?_
      rw [show nx = nxZ + dnZ by omega] at hw
      exact W.iret hx hb hr (fun t ht hW9 => ⟨⟨_, (), rfl, rfl, by show hW D dA classes b0 _ _ t.heap; rw [ht]; exact hw⟩, hS.F ht⟩) hS.2.2 d_MacroExpand_delimiter_39
    · rw [if_neg c18] at hrun
      refine lv_iload_n hx hb d_MacroExpand_delimiter_21 rfl (lv_at hl 3 rfl) ?_
      refine lv_aload hx hb d_MacroExpand_delimiter_22 (lv_at hl 0 rfl) ?_
      replace hrun := hb_some hrun
      obtain ⟨v24, g24, hrun⟩ := hrun
      refine h_getNI S (fun w q => hT w (i_Macro w q)) hK (ci := 7) rfl 0 (by decide) (hN.1 _ nf_MacroExpand_97) hw g24 d_MacroExpand_delimiter_24 ?_
      refine lv_icmp_gt (tgt := 37) hx hb d_MacroExpand_delimiter_27 (by decide) (fun c27 => ?_) (fun c27 => ?_)
      · rw [if_pos c27] at hrun
        refine lv_bipush (v := (-2 : Int32)) hx hb d_MacroExpand_delimiter_37 (by decide) ?_
        cases hrun
        refine W.widen (k := dnZ) (n := dsZ) (by omega) (by omega) ?_
        rw [show nx = nxZ + dnZ by omega] at hw
        exact W.iret hx hb hr (fun t ht hW9 => ⟨⟨_, (), rfl, rfl, by show hW D dA classes b0 _ _ t.heap; rw [ht]; exact hw⟩, hS.F ht⟩) hS.2.2 d_MacroExpand_delimiter_39
      · rw [if_neg c27] at hrun
        refine lv_iload_n hx hb d_MacroExpand_delimiter_30 rfl (lv_at hl 4 rfl) ?_
        replace hrun := hb_some hrun
        obtain ⟨v31, g31, hrun⟩ := hrun
        refine h_ci (h_runS S (As := [.int i3]) (rest := []) (c_Kind_canDelimit l D dA b0 i3 nx g31) (va_cwS 1 S.2.2.2.2 (h_good _ (h_in3 ml_MacroExpand_100 sm_Kind_canDelimit it_Kind) cd_Kind_canDelimit) rfl rfl rfl (by decide +kernel) ⟨Nat.le_of_ble_eq_true rfl, Nat.le_of_ble_eq_true rfl⟩) hK hN hw rfl hl.1 (lv_room (Nat.le_of_ble_eq_true rfl)) d_MacroExpand_delimiter_31 ⟨show 0 + 0 ≤ dnZ by omega, show 0 + 0 ≤ dsZ by omega⟩) hS (fun H locs hw hS => ?_)
        refine lv_if_ne (tgt := 40) hx hb d_MacroExpand_delimiter_34 (by decide) (fun c34 => ?_) (fun c34 => ?_)
        · rw [if_neg c34] at hrun
          refine lv_aload hx hb d_MacroExpand_delimiter_40 (lv_at hl 0 rfl) ?_
          refine lv_iload_n hx hb d_MacroExpand_delimiter_42 rfl (lv_at hl 3 rfl) ?_
          replace hrun := hb_some hrun
          obtain ⟨c43, k43, hrun⟩ := hrun
          replace hrun := hb_some hrun
          obtain ⟨v43, g43, hrun⟩ := hrun
          refine h_cq (h_runV S (As := [.int i2]) (rest := []) (c_Macro_row l D dA b0 p12 i2 nx g43) (cwV 1 S.2.2.2.2 (h_good _ (h_in4 ml_MacroExpand_103 im_Macro_row se_Macro_row it_Macro) cd_Macro_row) rfl rfl rfl (by decide +kernel) ⟨Nat.le_of_ble_eq_true rfl, Nat.le_of_ble_eq_true rfl⟩) hK hN hw (ci := 7) rfl k43 rfl hl.1 (lv_room (Nat.le_of_ble_eq_true rfl)) d_MacroExpand_delimiter_43 ⟨show 0 + 0 ≤ dnZ by omega, show 0 + 0 ≤ dsZ by omega⟩) hS (fun H locs hw hS => ?_)
          refine lv_iload_n hx hb d_MacroExpand_delimiter_46 rfl (lv_at hl 4 rfl) ?_
          replace hrun := hb_some hrun
          obtain ⟨p47_0, rfl, hrun⟩ := hrun
          replace hrun := hbind_some hrun
          obtain ⟨v47, d47, s47, h47, dn47, ds47, g47, hrun, en47, es47⟩ := hrun
          refine h_ci (h_runS S (As := [.ref p47_0, .int i3]) (rest := []) (c_MacroExpand_oneMore l D dA b0 p47_0 i3 nx g47) (va_cwS 2 S.2.2.2.2 (h_good _ (h_in3 ml_MacroExpand_93 sm_MacroExpand_oneMore it_MacroExpand) cd_MacroExpand_oneMore) rfl rfl rfl (by decide +kernel) ⟨Nat.le_of_ble_eq_true rfl, Nat.le_of_ble_eq_true rfl⟩) hK hN hw rfl hl.1 (lv_room (Nat.le_of_ble_eq_true rfl)) d_MacroExpand_delimiter_47 ⟨show 0 + d47 ≤ dnZ by omega, show 0 + s47 ≤ dsZ by omega⟩) hS (fun H locs hw hS => ?_)
          obtain ⟨nx47, ex47⟩ : ∃ z, z = nx + d47 := ⟨_, rfl⟩
          rw [← ex47] at hw
          try rw [← ex47] at hrun
          replace hcR : (0 + d47) + dn47 = dnZ := by omega
          replace hsR : (0 + s47) + ds47 = dsZ := by omega
          replace hnR : nx47 + dn47 = nxZ + dnZ := by omega
          clear en47 es47 ex47
          cases hrun
          refine W.widen (k := dnZ) (n := dsZ) (by omega) (by omega) ?_
          rw [show nx47 = nxZ + dnZ by omega] at hw
          exact W.iret hx hb hr (fun t ht hW9 => ⟨⟨_, (), rfl, rfl, by show hW D dA classes b0 _ _ t.heap; rw [ht]; exact hw⟩, hS.F ht⟩) hS.2.2 d_MacroExpand_delimiter_50
        · rw [if_pos c34] at hrun
          refine lv_bipush (v := (-2 : Int32)) hx hb d_MacroExpand_delimiter_37 (by decide) ?_
          cases hrun
          refine W.widen (k := dnZ) (n := dsZ) (by omega) (by omega) ?_
          rw [show nx = nxZ + dnZ by omega] at hw
          exact W.iret hx hb hr (fun t ht hW9 => ⟨⟨_, (), rfl, rfl, by show hW D dA classes b0 _ _ t.heap; rw [ht]; exact hw⟩, hS.F ht⟩) hS.2.2 d_MacroExpand_delimiter_39
set_option maxHeartbeats 4000000 in
set_option maxRecDepth 100000 in
theorem c_Input_isFull (l : Launch) (D : va_G) (dA : Nat → ClassId) (b0 : Nat) (a0 : Nat) (nx : Nat) {h : hH} {r : Int32} (hrun : f_Input_isFull a0 h = some r) : Met l y_Input_isFull w_Input_isFull ({ frames := 0, cells := 0, slots := 0, locals := 0 } : Room) (va_Pc [.ref a0] (hB D dA b0 nx h)) (va_Qi (fun r' (_ : Unit) => r' = r) (fun (_ : Unit) t => hW D dA classes b0 nx h t.heap) (hA b0)) 0 0 (hA b0) := by
  refine Met.ofW (cc := b_Input_isFull) (maxL := 1) (ret := (some .boolean)) (by decide) rfl ?_
  intro p e s m args below meth c s₁ B hml hv
  obtain ⟨rfl, hw, hK, hN⟩ := hv
  have hx := B.exec
  have hb := B.bytes
  have hr := B.returns
  have hlocks := B.notSynchronized
  have S : CallFix p m c b_Input_isFull 1 s ([.ref a0] : List Value).toArray w_Input_isFull R_Input := ⟨hx, hb, hml, findClass_of_methodNamed B.named, atoms_spec (ws := w_Input_isFull) B.pre⟩
  have hT : ∀ w ∈ tbl, w ∈ w_Input_isFull := fun _ q => List.mem_cons_of_mem _ q
  have hS : va_S (hA b0) s.heap s.heap [] := va_S.rf
  have hl := lv_entry ([.ref a0]) (n := 1) (Nat.le_of_ble_eq_true rfl)
  rw [lg_entry_eq]
  generalize (lg_sl ([.ref a0]) ++ List.replicate (1 - (lg_sl ([.ref a0])).length) Slot.unset).toArray = ls at hl ⊢
  have hl : lv_has ls 1 [(0, .ref a0)] := hl
  unfold f_Input_isFull at hrun
  refine lv_aload_n hx hb d_Input_isFull_0 rfl (lv_at hl 0 rfl) ?_
  replace hrun := hb_some hrun
  obtain ⟨v1, g1, hrun⟩ := hrun
  refine h_getI S (fun w q => hT w (i_Input w q)) hK (ci := 6) rfl 1 (by decide) (hT _ fl_Input_15) hw g1 d_Input_isFull_1 ?_
  refine lv_sipush (v := (3000 : Int32)) hx hb d_Input_isFull_4 (by decide) ?_
  refine lv_icmp_lt (tgt := 14) hx hb d_Input_isFull_7 (by decide) (fun c7 => ?_) (fun c7 => ?_)
  · rw [if_pos c7] at hrun
    refine lv_iconst (v := (0 : Int32)) hx hb d_Input_isFull_14 (by decide) ?_
    cases hrun
    exact W.zret hx hb hr (by decide) (fun t ht hW9 => ⟨⟨_, (), rfl, rfl, by show hW D dA classes b0 _ _ t.heap; rw [ht]; exact hw⟩, hS.F ht⟩) hS.2.2 d_Input_isFull_15
  · rw [if_neg c7] at hrun
    refine lv_iconst (v := (1 : Int32)) hx hb d_Input_isFull_10 (by decide) ?_
    refine lv_goto (tgt := 15) hx hb d_Input_isFull_11 (by decide) ?_
    cases hrun
    exact W.zret hx hb hr (by decide) (fun t ht hW9 => ⟨⟨_, (), rfl, rfl, by show hW D dA classes b0 _ _ t.heap; rw [ht]; exact hw⟩, hS.F ht⟩) hS.2.2 d_Input_isFull_15
set_option maxHeartbeats 4000000 in
set_option maxRecDepth 100000 in
theorem c_Input_addLast (l : Launch) (D : va_G) (dA : Nat → ClassId) (b0 : Nat) (a0 : Nat) (i1 : Int32) (nx : Nat) {h h' : hH} {r : Unit} (hrun : f_Input_addLast a0 i1 h = some (r, h')) : Met l y_Input_addLast w_Input_addLast ({ frames := 1, cells := 0, slots := 0, locals := 48 } : Room) (va_Pc [.ref a0, .int i1] (hB D dA b0 nx h)) (va_Qv (fun (_ : Unit) => True) (fun (_ : Unit) t => hW D dA classes b0 nx h' t.heap) (hA b0)) 0 0 (hA b0) := by
  refine Met.ofW (cc := b_Input_addLast) (maxL := 2) (ret := none) (by decide) rfl ?_
  intro p e s m args below meth c s₁ B hml hv
  obtain ⟨rfl, hw, hK, hN⟩ := hv
  have hx := B.exec
  have hb := B.bytes
  have hr := B.returns
  have hlocks := B.notSynchronized
  have S : CallFix p m c b_Input_addLast 2 s ([.ref a0, .int i1] : List Value).toArray w_Input_addLast R_Input := ⟨hx, hb, hml, findClass_of_methodNamed B.named, atoms_spec (ws := w_Input_addLast) B.pre⟩
  have hT : ∀ w ∈ tbl, w ∈ w_Input_addLast := fun _ q => List.mem_cons_of_mem _ q
  have hS : va_S (hA b0) s.heap s.heap [] := va_S.rf
  have hl := lv_entry ([.ref a0, .int i1]) (n := 2) (Nat.le_of_ble_eq_true rfl)
  rw [lg_entry_eq]
  generalize (lg_sl ([.ref a0, .int i1]) ++ List.replicate (2 - (lg_sl ([.ref a0, .int i1])).length) Slot.unset).toArray = ls at hl ⊢
  have hl : lv_has ls 2 [(0, .ref a0), (1, .int i1)] := hl
  unfold f_Input_addLast at hrun
  refine lv_aload_n hx hb d_Input_addLast_0 rfl (lv_at hl 0 rfl) ?_
  replace hrun := hb_some hrun
  obtain ⟨v1, g1, hrun⟩ := hrun
  refine h_getI S (fun w q => hT w (i_Input w q)) hK (ci := 6) rfl 1 (by decide) (hT _ fl_Input_15) hw g1 d_Input_addLast_1 ?_
  refine lv_sipush (v := (3000 : Int32)) hx hb d_Input_addLast_4 (by decide) ?_
  refine lv_icmp_ge (tgt := 44) hx hb d_Input_addLast_7 (by decide) (fun c7 => ?_) (fun c7 => ?_)
  · rw [if_pos c7] at hrun
    cases hrun
    exact W.vret hx hb hr (fun t ht hW9 => ⟨⟨(), rfl, trivial, by show hW D dA classes b0 _ _ t.heap; rw [ht]; exact hw⟩, hS.F ht⟩) hS.2.2 d_Input_addLast_44
  · rw [if_neg c7] at hrun
    refine lv_aload_n hx hb d_Input_addLast_10 rfl (lv_at hl 0 rfl) ?_
    replace hrun := hb_some hrun
    obtain ⟨v11, g11, hrun⟩ := hrun
    refine h_getR S (fun w q => hT w (i_Input w q)) hK (ci := 6) rfl 0 (by decide) (hT _ fl_Input_9) hw g11 d_Input_addLast_11 ?_
    refine lv_iconst (v := (0 : Int32)) hx hb d_Input_addLast_14 (by decide) ?_
    refine lv_aload_n hx hb d_Input_addLast_15 rfl (lv_at hl 0 rfl) ?_
    replace hrun := hb_some hrun
    obtain ⟨v16, g16, hrun⟩ := hrun
    refine h_getR S (fun w q => hT w (i_Input w q)) hK (ci := 6) rfl 0 (by decide) (hT _ fl_Input_9) hw g16 d_Input_addLast_16 ?_
    refine lv_iconst (v := (1 : Int32)) hx hb d_Input_addLast_19 (by decide) ?_
    refine lv_aload_n hx hb d_Input_addLast_20 rfl (lv_at hl 0 rfl) ?_
    replace hrun := hb_some hrun
    obtain ⟨v21, g21, hrun⟩ := hrun
    refine h_getI S (fun w q => hT w (i_Input w q)) hK (ci := 6) rfl 1 (by decide) (hT _ fl_Input_15) hw g21 d_Input_addLast_21 ?_
    replace hrun := hb_some hrun
    obtain ⟨p24_0, rfl, hrun⟩ := hrun
    replace hrun := hb_some hrun
    obtain ⟨p24_2, rfl, hrun⟩ := hrun
    replace hrun := hb_some hrun
    obtain ⟨h24, g24, hrun⟩ := hrun
    refine h_copyi S hl.1 (hT _ ml_Input_30) (hT _ nt_copy) (hT _ sm_copy) (hT _ it_System) hK (kd := 0) rfl hw hS g24 (Nat.le_of_ble_eq_true rfl) (Nat.le_of_ble_eq_true rfl) d_Input_addLast_24 (fun H locs hw hS => ?_)
    refine lv_aload_n hx hb d_Input_addLast_27 rfl (lv_at hl 0 rfl) ?_
    replace hrun := hb_some hrun
    obtain ⟨v28, g28, hrun⟩ := hrun
    refine h_getR S (fun w q => hT w (i_Input w q)) hK (ci := 6) rfl 0 (by decide) (hT _ fl_Input_9) hw g28 d_Input_addLast_28 ?_
    refine lv_iconst (v := (0 : Int32)) hx hb d_Input_addLast_31 (by decide) ?_
    refine lv_iload_n hx hb d_Input_addLast_32 rfl (lv_at hl 1 rfl) ?_
    replace hrun := hb_some hrun
    obtain ⟨p33, rfl, hrun⟩ := hrun
    replace hrun := hb_some hrun
    obtain ⟨h33, g33, hrun⟩ := hrun
    refine h_iast S hK (kd := 0) rfl hw hS g33 d_Input_addLast_33 (fun H locs hw hS => ?_)
    refine lv_aload_n hx hb d_Input_addLast_34 rfl (lv_at hl 0 rfl) ?_
    refine lv_dup hx hb d_Input_addLast_35 rfl ?_
    replace hrun := hb_some hrun
    obtain ⟨v36, g36, hrun⟩ := hrun
    refine h_getI S (fun w q => hT w (i_Input w q)) hK (ci := 6) rfl 1 (by decide) (hT _ fl_Input_15) hw g36 d_Input_addLast_36 ?_
    refine lv_iconst (v := (1 : Int32)) hx hb d_Input_addLast_39 (by decide) ?_
    refine lv_iadd hx hb d_Input_addLast_40 ?_
    replace hrun := hb_some hrun
    obtain ⟨h41, g41, hrun⟩ := hrun
    refine h_put S (fun w q => hT w (i_Input w q)) t_Input t_Input_ok n_Input hK (ci := 6) rfl 1 (by decide) (hT _ fl_Input_15) rfl rfl rfl hw hS g41 d_Input_addLast_41 (fun H locs hw hS => ?_)
    cases hrun
    exact W.vret hx hb hr (fun t ht hW9 => ⟨⟨(), rfl, trivial, by show hW D dA classes b0 _ _ t.heap; rw [ht]; exact hw⟩, hS.F ht⟩) hS.2.2 d_Input_addLast_44
