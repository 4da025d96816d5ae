set_option maxHeartbeats 4000000 in
set_option maxRecDepth 100000 in
theorem c_MacroExpandModel_input (l : Launch) (D : va_G) (dA : Nat → ClassId) (b0 : Nat) (a0 : Nat) (i1 : Int32) (nx : Nat) {h : hH} {r : Int32} (hrun : f_MacroExpandModel_input a0 i1 h = some r) : Met l y_MacroExpandModel_input w_MacroExpandModel_input ({ frames := 1, cells := 0, slots := 0, locals := 22 } : Room) (va_Pc [.ref a0, .int i1] (hB D dA b0 nx h)) (va_Qi (fun r' (_ : Unit) => r' = r) (fun (_ : Unit) t => hW D dA classes b0 nx h t.heap) (hA b0)) 0 0 (hA b0) := by
  refine Met.ofW (cc := b_MacroExpandModel_input) (maxL := 2) (ret := (some .int)) (by decide) rfl ?_
  intro p e s m args below meth c s₁ B hml hv
  obtain ⟨rfl, hw, hK, hN⟩ := hv
  have hx := B.exec
  have hb := B.bytes
  have hr := B.returns
  have hlocks := B.notSynchronized
  have S : CallFix p m c b_MacroExpandModel_input 2 s ([.ref a0, .int i1] : List Value).toArray w_MacroExpandModel_input R_MacroExpandModel := ⟨hx, hb, hml, findClass_of_methodNamed B.named, atoms_spec (ws := w_MacroExpandModel_input) B.pre⟩
  have hT : ∀ w ∈ tbl, w ∈ w_MacroExpandModel_input := fun _ q => List.mem_cons_of_mem _ q
  have hS : va_S (hA b0) s.heap s.heap [] := va_S.rf
  have hl := lv_entry ([.ref a0, .int i1]) (n := 2) (Nat.le_of_ble_eq_true rfl)
  rw [lg_entry_eq]
  generalize (lg_sl ([.ref a0, .int i1]) ++ List.replicate (2 - (lg_sl ([.ref a0, .int i1])).length) Slot.unset).toArray = ls at hl ⊢
  have hl : lv_has ls 2 [(0, .ref a0), (1, .int i1)] := hl
  unfold f_MacroExpandModel_input at hrun
  refine lv_iload_n hx hb d_MacroExpandModel_input_0 rfl (lv_at hl 1 rfl) ?_
  refine lv_iconst (v := (0 : Int32)) hx hb d_MacroExpandModel_input_1 (by decide) ?_
  refine lv_aload_n hx hb d_MacroExpandModel_input_2 rfl (lv_at hl 0 rfl) ?_
  replace hrun := hb_some hrun
  obtain ⟨v3, g3, hrun⟩ := hrun
  refine h_getI S (fun w q => hT w (i_MacroExpandModel w q)) hK (ci := 1) rfl 3 (by decide) (hT _ fl_MacroExpandModel_107) hw g3 d_MacroExpandModel_input_3 ?_
  refine lv_iconst (v := (1 : Int32)) hx hb d_MacroExpandModel_input_6 (by decide) ?_
  refine lv_isub hx hb d_MacroExpandModel_input_7 ?_
  replace hrun := hb_some hrun
  obtain ⟨v8, g8, hrun⟩ := hrun
  refine h_ci (h_runS S (As := [.int i1, .int (0 : Int32), .int (v3 - (1 : Int32))]) (rest := []) (c_MacroExpandModel_in l D dA b0 i1 (0 : Int32) (v3 - (1 : Int32)) nx g8) (va_cwS 3 S.2.2.2.2 (h_good _ (h_in3 ml_MacroExpandModel_83 sm_MacroExpandModel_in it_MacroExpandModel) cd_MacroExpandModel_in) rfl rfl rfl (by decide +kernel) ⟨Nat.le_of_ble_eq_true rfl, Nat.le_of_ble_eq_true rfl⟩) hK hN hw rfl hl.1 (lv_room (Nat.le_of_ble_eq_true rfl)) d_MacroExpandModel_input_8 ⟨Nat.le_refl _, Nat.le_refl _⟩) hS (fun H locs hw hS => ?_)
  refine lv_if_eq (tgt := 22) hx hb d_MacroExpandModel_input_11 (by decide) (fun c11 => ?_) (fun c11 => ?_)
  · rw [if_pos c11] at hrun
    refine lv_iconst (v := (-1 : Int32)) hx hb d_MacroExpandModel_input_22 (by decide) ?_
    cases hrun
    exact W.iret hx hb hr (fun t ht hW9 => ⟨⟨_, (), rfl, rfl, by show hW D dA classes b0 _ _ t.heap; rw [ht]; exact hw⟩, hS.F ht⟩) hS.2.2 d_MacroExpandModel_input_23
  · rw [if_neg c11] at hrun
    refine lv_aload_n hx hb d_MacroExpandModel_input_14 rfl (lv_at hl 0 rfl) ?_
    refine lv_iload_n hx hb d_MacroExpandModel_input_15 rfl (lv_at hl 1 rfl) ?_
    replace hrun := hb_some hrun
    obtain ⟨c16, k16, hrun⟩ := hrun
    replace hrun := hb_some hrun
    obtain ⟨v16, g16, hrun⟩ := hrun
    refine h_ci (h_runV S (As := [.int i1]) (rest := []) (c_MacroExpandModel_get l D dA b0 a0 i1 nx g16) (cwV 1 S.2.2.2.2 (h_good _ (h_in4 ml_MacroExpandModel_116 im_MacroExpandModel_get se_MacroExpandModel_get it_MacroExpandModel) cd_MacroExpandModel_get) rfl rfl rfl (by decide +kernel) ⟨Nat.le_of_ble_eq_true rfl, Nat.le_of_ble_eq_true rfl⟩) hK hN hw (ci := 1) rfl k16 rfl hl.1 (lv_room (Nat.le_of_ble_eq_true rfl)) d_MacroExpandModel_input_16 ⟨Nat.le_refl _, Nat.le_refl _⟩) hS (fun H locs hw hS => ?_)
    refine lv_goto (tgt := 23) hx hb d_MacroExpandModel_input_19 (by decide) ?_
    cases hrun
    exact W.iret hx hb hr (fun t ht hW9 => ⟨⟨_, (), rfl, rfl, by show hW D dA classes b0 _ _ t.heap; rw [ht]; exact hw⟩, hS.F ht⟩) hS.2.2 d_MacroExpandModel_input_23
set_option maxHeartbeats 4000000 in
set_option maxRecDepth 100000 in
theorem c_MacroExpandModel_macro (l : Launch) (D : va_G) (dA : Nat → ClassId) (b0 : Nat) (a0 : Nat) (i1 : Int32) (nx : Nat) {h : hH} {r : Int32} (hrun : f_MacroExpandModel_macro a0 i1 h = some r) : Met l y_MacroExpandModel_macro w_MacroExpandModel_macro ({ frames := 1, cells := 0, slots := 0, locals := 22 } : Room) (va_Pc [.ref a0, .int i1] (hB D dA b0 nx h)) (va_Qi (fun r' (_ : Unit) => r' = r) (fun (_ : Unit) t => hW D dA classes b0 nx h t.heap) (hA b0)) 0 0 (hA b0) := by
  refine Met.ofW (cc := b_MacroExpandModel_macro) (maxL := 2) (ret := (some .int)) (by decide) rfl ?_
  intro p e s m args below meth c s₁ B hml hv
  obtain ⟨rfl, hw, hK, hN⟩ := hv
  have hx := B.exec
  have hb := B.bytes
  have hr := B.returns
  have hlocks := B.notSynchronized
  have S : CallFix p m c b_MacroExpandModel_macro 2 s ([.ref a0, .int i1] : List Value).toArray w_MacroExpandModel_macro R_MacroExpandModel := ⟨hx, hb, hml, findClass_of_methodNamed B.named, atoms_spec (ws := w_MacroExpandModel_macro) B.pre⟩
  have hT : ∀ w ∈ tbl, w ∈ w_MacroExpandModel_macro := fun _ q => List.mem_cons_of_mem _ q
  have hS : va_S (hA b0) s.heap s.heap [] := va_S.rf
  have hl := lv_entry ([.ref a0, .int i1]) (n := 2) (Nat.le_of_ble_eq_true rfl)
  rw [lg_entry_eq]
  generalize (lg_sl ([.ref a0, .int i1]) ++ List.replicate (2 - (lg_sl ([.ref a0, .int i1])).length) Slot.unset).toArray = ls at hl ⊢
  have hl : lv_has ls 2 [(0, .ref a0), (1, .int i1)] := hl
  unfold f_MacroExpandModel_macro at hrun
  refine lv_iload_n hx hb d_MacroExpandModel_macro_0 rfl (lv_at hl 1 rfl) ?_
  refine lv_iconst (v := (0 : Int32)) hx hb d_MacroExpandModel_macro_1 (by decide) ?_
  refine lv_sipush (v := (199 : Int32)) hx hb d_MacroExpandModel_macro_2 (by decide) ?_
  replace hrun := hb_some hrun
  obtain ⟨v5, g5, hrun⟩ := hrun
  refine h_ci (h_runS S (As := [.int i1, .int (0 : Int32), .int (199 : Int32)]) (rest := []) (c_MacroExpandModel_in l D dA b0 i1 (0 : Int32) (199 : Int32) nx g5) (va_cwS 3 S.2.2.2.2 (h_good _ (h_in3 ml_MacroExpandModel_83 sm_MacroExpandModel_in it_MacroExpandModel) cd_MacroExpandModel_in) rfl rfl rfl (by decide +kernel) ⟨Nat.le_of_ble_eq_true rfl, Nat.le_of_ble_eq_true rfl⟩) hK hN hw rfl hl.1 (lv_room (Nat.le_of_ble_eq_true rfl)) d_MacroExpandModel_macro_5 ⟨Nat.le_refl _, Nat.le_refl _⟩) hS (fun H locs hw hS => ?_)
  refine lv_if_eq (tgt := 20) hx hb d_MacroExpandModel_macro_8 (by decide) (fun c8 => ?_) (fun c8 => ?_)
  · rw [if_pos c8] at hrun
    refine lv_iconst (v := (-1 : Int32)) hx hb d_MacroExpandModel_macro_20 (by decide) ?_
    cases hrun
    exact W.iret hx hb hr (fun t ht hW9 => ⟨⟨_, (), rfl, rfl, by show hW D dA classes b0 _ _ t.heap; rw [ht]; exact hw⟩, hS.F ht⟩) hS.2.2 d_MacroExpandModel_macro_21
  · rw [if_neg c8] at hrun
    refine lv_aload_n hx hb d_MacroExpandModel_macro_11 rfl (lv_at hl 0 rfl) ?_
    replace hrun := hb_some hrun
    obtain ⟨v12, g12, hrun⟩ := hrun
    refine h_getR S (fun w q => hT w (i_MacroExpandModel w q)) hK (ci := 1) rfl 13 (by decide) (hT _ fl_MacroExpandModel_35) hw g12 d_MacroExpandModel_macro_12 ?_
    refine lv_iload_n hx hb d_MacroExpandModel_macro_15 rfl (lv_at hl 1 rfl) ?_
    replace hrun := hb_some hrun
    obtain ⟨p16, rfl, hrun⟩ := hrun
    replace hrun := hb_some hrun
    obtain ⟨v16, g16, hrun⟩ := hrun
    refine h_iald S hK (kd := 0) rfl hw g16 d_MacroExpandModel_macro_16 ?_
    refine lv_goto (tgt := 21) hx hb d_MacroExpandModel_macro_17 (by decide) ?_
    cases hrun
    exact W.iret hx hb hr (fun t ht hW9 => ⟨⟨_, (), rfl, rfl, by show hW D dA classes b0 _ _ t.heap; rw [ht]; exact hw⟩, hS.F ht⟩) hS.2.2 d_MacroExpandModel_macro_21
set_option maxHeartbeats 4000000 in
set_option maxRecDepth 100000 in
theorem c_Arrays_fill (l : Launch) (D : va_G) (dA : Nat → ClassId) (b0 : Nat) (n : Nat) (a0 : Nat) (i1 : Int32) (nx : Nat) {h h' : hH} {r : Unit} (hrun : f_Arrays_fill n a0 i1 h = some (r, h')) : Met l y_Arrays_fill w_Arrays_fill ({ frames := 0, cells := 0, slots := 0, locals := 0 } : Room) (va_Pc [.ref a0, .int i1] (hB D dA b0 nx h)) (va_Qv (fun (_ : Unit) => True) (fun (_ : Unit) t => hW D dA classes b0 nx h' t.heap) (hA b0)) 0 0 (hA b0) := by
  refine Met.ofW (cc := b_Arrays_fill) (maxL := 4) (ret := none) (by decide) rfl ?_
  intro p e s m args below meth c s₁ B hml hv
  obtain ⟨rfl, hw, hK, hN⟩ := hv
  have hx := B.exec
  have hb := B.bytes
  have hr := B.returns
  have hlocks := B.notSynchronized
  have S : CallFix p m c b_Arrays_fill 4 s ([.ref a0, .int i1] : List Value).toArray w_Arrays_fill R_Arrays := ⟨hx, hb, hml, findClass_of_methodNamed B.named, atoms_spec (ws := w_Arrays_fill) B.pre⟩
  have hT : ∀ w ∈ tbl, w ∈ w_Arrays_fill := fun _ q => List.mem_cons_of_mem _ q
  have hS : va_S (hA b0) s.heap s.heap [] := va_S.rf
  have hl := lv_entry ([.ref a0, .int i1]) (n := 4) (Nat.le_of_ble_eq_true rfl)
  rw [lg_entry_eq]
  generalize (lg_sl ([.ref a0, .int i1]) ++ List.replicate (4 - (lg_sl ([.ref a0, .int i1])).length) Slot.unset).toArray = ls at hl ⊢
  have hl : lv_has ls 4 [(0, .ref a0), (1, .int i1)] := hl
  have l_5 : ∀ (x1 : Int32) (x3 : Int32) (n9 : Nat) (x9 : Int32) (h : hH) (b9 : (Unit)) (h9 : hH) (H : Heap) (locs : List Loc) (ls : Array Slot), hloopW (f_Arrays_fill_b5 n a0 x1 x3) n9 x9 h = some (b9, h9) → hW D dA classes b0 nx h H → va_S (hA b0) s.heap H locs → lv_has ls 4 (match x9 with | x2 => [(0, .ref a0), (1, .int x1), (2, .int x2), (3, .int x3)]) → (b9 = () → ∀ (H : Heap) (locs : List Loc) (ls : Array Slot), hW D dA classes b0 nx h9 H → va_S (hA b0) s.heap H locs → lv_has ls 4 [] → W p l e (headSpec w_Arrays_fill ({ frames := 0, cells := 0, slots := 0, locals := 0 } : Room)).room s m ([.ref a0, .int i1] : List Value).toArray below meth c H locs 0 0 (MQ below (va_Qv (fun (_ : Unit) => True) (fun (_ : Unit) t => hW D dA classes b0 nx h' t.heap) (hA b0)) ([.ref a0, .int i1] : List Value).toArray s 0 0 (hA b0)) (F0 m 20 ls [])) → W p l e (headSpec w_Arrays_fill ({ frames := 0, cells := 0, slots := 0, locals := 0 } : Room)).room s m ([.ref a0, .int i1] : List Value).toArray below meth c H locs 0 0 (MQ below (va_Qv (fun (_ : Unit) => True) (fun (_ : Unit) t => hW D dA classes b0 nx h' t.heap) (hA b0)) ([.ref a0, .int i1] : List Value).toArray s 0 0 (hA b0)) (F0 m 5 ls []) := by
    intro x1 x3 n9
    induction n9 with
    | zero =>
      intro x9 h b9 h9 H locs ls hrun
      cases hrun
    | succ n9 ih =>
      rintro x2 h b9 h9 H locs ls hrun hw hS hl k0
      have hl : lv_has ls 4 [(0, .ref a0), (1, .int x1), (2, .int x2), (3, .int x3)] := hl
      unfold hloopW at hrun
      obtain ⟨q9, h9b, hbody, hrun9⟩ := hbW_some hrun
      have K0 : (∀ (z2 : Int32), q9 = .inl z2 → ∀ (H : Heap) (locs : List Loc) (ls : Array Slot), hW D dA classes b0 nx h9b H → va_S (hA b0) s.heap H locs → lv_has ls 4 [(0, .ref a0), (1, .int x1), (2, .int z2), (3, .int x3)] → W p l e (headSpec w_Arrays_fill ({ frames := 0, cells := 0, slots := 0, locals := 0 } : Room)).room s m ([.ref a0, .int i1] : List Value).toArray below meth c H locs 0 0 (MQ below (va_Qv (fun (_ : Unit) => True) (fun (_ : Unit) t => hW D dA classes b0 nx h' t.heap) (hA b0)) ([.ref a0, .int i1] : List Value).toArray s 0 0 (hA b0)) (F0 m 5 ls [])) := by
        intro z2 eq9 H locs ls hw hS hl
        subst eq9
        exact ih z2 h9b b9 h9 H locs ls hrun9 hw hS hl k0
      have K1 : (q9 = .inr () → ∀ (H : Heap) (locs : List Loc) (ls : Array Slot), hW D dA classes b0 nx h9b H → va_S (hA b0) s.heap H locs → lv_has ls 4 [] → W p l e (headSpec w_Arrays_fill ({ frames := 0, cells := 0, slots := 0, locals := 0 } : Room)).room s m ([.ref a0, .int i1] : List Value).toArray below meth c H locs 0 0 (MQ below (va_Qv (fun (_ : Unit) => True) (fun (_ : Unit) t => hW D dA classes b0 nx h' t.heap) (hA b0)) ([.ref a0, .int i1] : List Value).toArray s 0 0 (hA b0)) (F0 m 20 ls [])) := by
        intro  eq9 H locs ls hw hS hl
        subst eq9
        cases hrun9
        exact k0  rfl H locs ls hw hS hl
      clear hrun hrun9 ih k0
      have hrun := hbody
      clear hbody
      dsimp only [f_Arrays_fill_b5] at hrun
      refine lv_iload_n hx hb d_Arrays_fill_5 rfl (lv_at hl 2 rfl) ?_
      refine lv_iload_n hx hb d_Arrays_fill_6 rfl (lv_at hl 3 rfl) ?_
      refine lv_icmp_ge (tgt := 20) hx hb d_Arrays_fill_7 (by decide) (fun c7 => ?_) (fun c7 => ?_)
      · rw [if_pos c7] at hrun
        cases hrun
        exact K1  rfl H locs ls hw hS (lv_sub hl [] rfl)
      · rw [if_neg c7] at hrun
        refine lv_aload_n hx hb d_Arrays_fill_10 rfl (lv_at hl 0 rfl) ?_
        refine lv_iload_n hx hb d_Arrays_fill_11 rfl (lv_at hl 2 rfl) ?_
        refine lv_iload_n hx hb d_Arrays_fill_12 rfl (lv_at hl 1 rfl) ?_
        replace hrun := hb_some hrun
        obtain ⟨h13, g13, hrun⟩ := hrun
        refine h_iast S hK (kd := 0) rfl hw hS g13 d_Arrays_fill_13 (fun H locs hw hS => ?_)
        refine lv_iinc (v := (x2 + (1 : Int32))) (lv' := [(2, .int (x2 + (1 : Int32))), (0, .ref a0), (1, .int x1), (3, .int x3)]) hx hb d_Arrays_fill_14 hl (k := 2) rfl rfl (by decide) rfl (fun ls hl => ?_)
        refine lv_goto (tgt := 5) hx hb d_Arrays_fill_17 (by decide) ?_
        cases hrun
        exact K0 (x2 + (1 : Int32)) rfl H locs ls hw hS (lv_sub hl [1, 2, 0, 3] rfl)
  unfold f_Arrays_fill at hrun
  refine lv_iconst (v := (0 : Int32)) hx hb d_Arrays_fill_0 (by decide) ?_
  refine lv_istore_n (lv' := [(2, .int (0 : Int32)), (0, .ref a0), (1, .int i1)]) hx hb d_Arrays_fill_1 rfl hl (by decide) rfl (fun ls hl => ?_)
  refine lv_aload_n hx hb d_Arrays_fill_2 rfl (lv_at hl 1 rfl) ?_
  replace hrun := hb_some hrun
  obtain ⟨v3, g3, hrun⟩ := hrun
  refine h_alen S hK (kd := 0) rfl hw g3 d_Arrays_fill_3 ?_
  refine lv_istore_n (lv' := [(3, .int v3), (2, .int (0 : Int32)), (0, .ref a0), (1, .int i1)]) hx hb d_Arrays_fill_4 rfl hl (by decide) rfl (fun ls hl => ?_)
  replace hrun := hbW_some hrun
  obtain ⟨b5, h5l, g5, hrun⟩ := hrun
  refine l_5 i1 v3 n (0 : Int32) h _ _ _ _ _ g5 hw hS (lv_sub hl [2, 3, 1, 0] rfl) ?_
  · rintro  eq9 H locs ls hw hS hl
    obtain rfl := eq9.symm
    try dsimp only at hrun
    cases hrun
    exact W.vret hx hb hr (fun t ht hW9 => ⟨⟨(), rfl, trivial, by show hW D dA classes b0 _ _ t.heap; rw [ht]; exact hw⟩, hS.F ht⟩) hS.2.2 d_Arrays_fill_20
set_option maxHeartbeats 4000000 in
set_option maxRecDepth 100000 in
theorem c_Arrays_copyOf (l : Launch) (D : va_G) (dA : Nat → ClassId) (b0 : Nat) (a0 : Nat) (i1 : Int32) (nxZ : Nat) {h h' : hH} {r : Option Nat} {dnZ dsZ : Nat} (hrun : f_Arrays_copyOf a0 i1 nxZ h = some (r, dnZ, dsZ, h')) : Met l y_Arrays_copyOf w_Arrays_copyOf ({ frames := 1, cells := dnZ, slots := dsZ, locals := 48 } : Room) (va_Pc [.ref a0, .int i1] (hB D dA b0 nxZ h)) (va_Qq (fun r' (_ : Unit) => r' = r) (fun (_ : Unit) t => hW D dA classes b0 (nxZ + dnZ) h' t.heap) (hA b0)) dnZ dsZ (hA b0) := by
  refine Met.ofW (cc := b_Arrays_copyOf) (maxL := 3) (ret := (some (.array .int))) (by decide) rfl ?_
  intro p e s m args below meth c s₁ B hml hv
  obtain ⟨rfl, hw, hK, hN⟩ := hv
  have hx := B.exec
  have hb := B.bytes
  have hr := B.returns
  have hlocks := B.notSynchronized
  have S : CallFix p m c b_Arrays_copyOf 3 s ([.ref a0, .int i1] : List Value).toArray w_Arrays_copyOf R_Arrays := ⟨hx, hb, hml, findClass_of_methodNamed B.named, atoms_spec (ws := w_Arrays_copyOf) B.pre⟩
  have hT : ∀ w ∈ tbl, w ∈ w_Arrays_copyOf := fun _ q => List.mem_cons_of_mem _ q
  have hS : va_S (hA b0) s.heap s.heap [] := va_S.rf
  have hl := lv_entry ([.ref a0, .int i1]) (n := 3) (Nat.le_of_ble_eq_true rfl)
  rw [lg_entry_eq]
  generalize (lg_sl ([.ref a0, .int i1]) ++ List.replicate (3 - (lg_sl ([.ref a0, .int i1])).length) Slot.unset).toArray = ls at hl ⊢
  have hl : lv_has ls 3 [(0, .ref a0), (1, .int i1)] := hl
  obtain ⟨dn, edn⟩ : ∃ z, z = dnZ := ⟨_, rfl⟩
  obtain ⟨ds, eds⟩ : ∃ z, z = dsZ := ⟨_, rfl⟩
  obtain ⟨nx, enx⟩ : ∃ z, z = nxZ := ⟨_, rfl⟩
  rw [← edn, ← eds, ← enx] at hrun
  rw [← enx] at hw
  have hcR : 0 + dn = dnZ := by omega
  have hsR : 0 + ds = dsZ := by omega
  have hnR : nx + dn = nxZ + dnZ := by omega
  clear edn eds enx
  unfold f_Arrays_copyOf at hrun
  refine lv_iload_n hx hb d_Arrays_copyOf_0 rfl (lv_at hl 1 rfl) ?_
  refine lv_aload_n hx hb d_Arrays_copyOf_1 rfl (lv_at hl 0 rfl) ?_
  replace hrun := hb_some hrun
  obtain ⟨v2, g2, hrun⟩ := hrun
  refine h_alen S hK (kd := 0) rfl hw g2 d_Arrays_copyOf_2 ?_
  refine lv_icmp_ne (tgt := 14) hx hb d_Arrays_copyOf_3 (by decide) (fun c3 => ?_) (fun c3 => ?_)
  · rw [if_neg c3] at hrun
    refine lv_iload_n hx hb d_Arrays_copyOf_14 rfl (lv_at hl 1 rfl) ?_
    have z15 : ¬ (i1 < 0 ∨ 134217728 < i1.toNatClampNeg) := fun q => by rw [if_pos q] at hrun; cases hrun
    rw [if_neg z15] at hrun
    replace hrun := hnew_some hrun
    obtain ⟨h15, dn15, ds15, eh15, hrun, en15, es15⟩ := hrun
    refine h_newi S (hT _ ac_int) hK (kd := 0) rfl hw hS (fun q => z15 (Or.inl q)) (h_bytes z15) (show 0 + 1 ≤ dnZ by omega) (show 0 + i1.toNatClampNeg ≤ dsZ by omega) d_Arrays_copyOf_15 (fun H hw hS => ?_)
    rw [← eh15] at hw
    clear eh15
    obtain ⟨nx15, ex15⟩ : ∃ z, z = nx + 1 := ⟨_, rfl⟩
    rw [← ex15] at hw
    try rw [← ex15] at hrun
    replace hcR : (0 + 1) + dn15 = dnZ := by omega
    replace hsR : (0 + i1.toNatClampNeg) + ds15 = dsZ := by omega
    replace hnR : nx15 + dn15 = nxZ + dnZ := by omega
    clear en15 es15 ex15
    refine lv_astore_n (lv' := [(2, .ref nx), (0, .ref a0), (1, .int i1)]) hx hb d_Arrays_copyOf_17 rfl hl (by decide) rfl (fun ls hl => ?_)
    refine lv_aload_n hx hb d_Arrays_copyOf_18 rfl (lv_at hl 1 rfl) ?_
    refine lv_iconst (v := (0 : Int32)) hx hb d_Arrays_copyOf_19 (by decide) ?_
    refine lv_aload_n hx hb d_Arrays_copyOf_20 rfl (lv_at hl 0 rfl) ?_
    refine lv_iconst (v := (0 : Int32)) hx hb d_Arrays_copyOf_21 (by decide) ?_
    refine lv_aload_n hx hb d_Arrays_copyOf_22 rfl (lv_at hl 1 rfl) ?_
    replace hrun := hb_some hrun
    obtain ⟨v23, g23, hrun⟩ := hrun
    refine h_alen S hK (kd := 0) rfl hw g23 d_Arrays_copyOf_23 ?_
    refine lv_iload_n hx hb d_Arrays_copyOf_24 rfl (lv_at hl 2 rfl) ?_
    refine va_mmin hx hb (by rw [hml]; exact hl.1.symm) S.2.2.2.1 (S.2.2.2.2 _ (hT _ ml_Arrays_304)) (S.2.2.2.2 _ (hT _ sm_mmin)) (S.2.2.2.2 _ (hT _ it_Math)) (S.2.2.2.2 _ (hT _ cd_mmin)) (Nat.le_of_ble_eq_true rfl) (Nat.le_of_ble_eq_true rfl) (show (0 + 1) ≤ dnZ by omega) (show (0 + i1.toNatClampNeg) ≤ dsZ by omega) d_Arrays_copyOf_25 ?_
    replace hrun := hb_some hrun
    obtain ⟨h28, g28, hrun⟩ := hrun
    refine h_copyi S hl.1 (hT _ ml_Arrays_150) (hT _ nt_copy) (hT _ sm_copy) (hT _ it_System) hK (kd := 0) rfl hw hS g28 (Nat.le_of_ble_eq_true rfl) (Nat.le_of_ble_eq_true rfl) d_Arrays_copyOf_28 (fun H locs hw hS => ?_)
    refine lv_aload_n hx hb d_Arrays_copyOf_31 rfl (lv_at hl 0 rfl) ?_
    cases hrun
    refine W.widen (k := dnZ) (n := dsZ) (by omega) (by omega) ?_
    rw [show nx15 = nxZ + dnZ by omega] at hw
    exact W.aret hx hb hr (Or.inr ⟨_, rfl⟩) (va_rf_or (some nx)) (fun t ht hW9 => ⟨⟨_, (), rfl, rfl, by show hW D dA classes b0 _ _ t.heap; rw [ht]; exact hw⟩, hS.F ht⟩) hS.2.2 d_Arrays_copyOf_32
  · rw [if_pos c3] at hrun
    refine lv_aload_n hx hb d_Arrays_copyOf_6 rfl (lv_at hl 0 rfl) ?_
    replace hrun := hb_some hrun
    obtain ⟨c7, k7, hrun⟩ := hrun
    replace hrun := hnew_some hrun
    obtain ⟨h7, dn7, ds7, eh7, hrun, en7, es7⟩ := hrun
    refine h_clone S hl.1 (hT _ ml_Arrays_316) (hT _ sa_clone) (hT _ nt_clone) (hT _ im_clone) (hT _ se_clone) (hN.1 _ nc_clone) hK (kd := 0) rfl hw hS k7 (Nat.le_of_ble_eq_true rfl) (Nat.le_of_ble_eq_true rfl) (show 0 + 1 ≤ dnZ by omega) (show 0 + c7.1 ≤ dsZ by omega) d_Arrays_copyOf_7 (fun H hw hS => ?_)
    rw [← eh7] at hw
    obtain ⟨nx7, ex7⟩ : ∃ z, z = nx + 1 := ⟨_, rfl⟩
    rw [← ex7] at hw
    try rw [← ex7] at hrun
    replace hcR : (0 + 1) + dn7 = dnZ := by omega
    replace hsR : (0 + c7.1) + ds7 = dsZ := by omega
    replace hnR : nx7 + dn7 = nxZ + dnZ := by omega
    clear en7 es7 ex7
    replace hrun := hb_some hrun
    obtain ⟨u10, g10, hrun⟩ := hrun
    refine h_castA S (hT _ cl_Arrays_317) hK (kd := 0) rfl hw g10 d_Arrays_copyOf_10 ?_
    cases hrun
    refine W.widen (k := dnZ) (n := dsZ) (by omega) (by omega) ?_
    rw [show nx7 = nxZ + dnZ by omega] at hw
    exact W.aret hx hb hr (Or.inr ⟨_, rfl⟩) (va_rf_or (some nx)) (fun t ht hW9 => ⟨⟨_, (), rfl, rfl, by show hW D dA classes b0 _ _ t.heap; rw [ht]; exact hw⟩, hS.F ht⟩) hS.2.2 d_Arrays_copyOf_13
set_option maxHeartbeats 4000000 in
set_option maxRecDepth 100000 in
theorem c_Book_init (l : Launch) (D : va_G) (dA : Nat → ClassId) (b0 : Nat) (n : Nat) (a0 : Nat) (nxZ : Nat) {h h' : hH} {r : Unit} {dnZ dsZ : Nat} (hrun : f_Book_init n a0 nxZ h = some (r, dnZ, dsZ, h')) : Met l y_Book_init w_Book_init ({ frames := 1, cells := dnZ, slots := dsZ, locals := 23 } : Room) (va_Pc [.ref a0] (hB D dA b0 nxZ h)) (va_Qv (fun (_ : Unit) => True) (fun (_ : Unit) t => hW D dA classes b0 (nxZ + dnZ) h' t.heap) (hA b0)) dnZ dsZ (hA b0) := by
  refine Met.ofW (cc := b_Book_init) (maxL := 1) (ret := none) (by decide) rfl ?_
  intro p e s m args below meth c s₁ B hml hv
  obtain ⟨rfl, hw, hK, hN⟩ := hv
  have hx := B.exec
  have hb := B.bytes
  have hr := B.returns
  have hlocks := B.notSynchronized
  have hin : meth.name = "<init>" := (name_of_methodNamed B.named B.method).1
  have S : CallFix p m c b_Book_init 1 s ([.ref a0] : List Value).toArray w_Book_init R_Book := ⟨hx, hb, hml, findClass_of_methodNamed B.named, atoms_spec (ws := w_Book_init) B.pre⟩
  have hT : ∀ w ∈ tbl, w ∈ w_Book_init := fun _ q => List.mem_cons_of_mem _ q
  have hS : va_S (hA b0) s.heap s.heap [] := va_S.rf
  have hl := lv_entry ([.ref a0]) (n := 1) (Nat.le_of_ble_eq_true rfl)
  rw [lg_entry_eq]
  generalize (lg_sl ([.ref a0]) ++ List.replicate (1 - (lg_sl ([.ref a0])).length) Slot.unset).toArray = ls at hl ⊢
  have hl : lv_has ls 1 [(0, .ref a0)] := hl
  obtain ⟨dn, edn⟩ : ∃ z, z = dnZ := ⟨_, rfl⟩
  obtain ⟨ds, eds⟩ : ∃ z, z = dsZ := ⟨_, rfl⟩
  obtain ⟨nx, enx⟩ : ∃ z, z = nxZ := ⟨_, rfl⟩
  rw [← edn, ← eds, ← enx] at hrun
  rw [← enx] at hw
  have hcR : 0 + dn = dnZ := by omega
  have hsR : 0 + ds = dsZ := by omega
  have hnR : nx + dn = nxZ + dnZ := by omega
  clear edn eds enx
  unfold f_Book_init at hrun
  refine lv_aload_n hx hb d_Book_init_0 rfl (lv_at hl 0 rfl) ?_
  refine W.objInit hx hb S.2.2.2.1 (S.2.2.2.2 _ (hT _ ml_Book_3)) (S.2.2.2.2 _ (hT _ k_objinst)) (S.2.2.2.2 _ (hT _ k_objcode)) rfl (by rw [hml]; exact hl.1) rfl d_Book_init_1 (Nat.le_of_ble_eq_true rfl) (Nat.le_of_ble_eq_true rfl) ?_
  refine W.eq (g2 := F0 m 4 ls []) rfl ?_
  refine lv_aload_n hx hb d_Book_init_4 rfl (lv_at hl 0 rfl) ?_
  refine lv_bipush (v := (100 : Int32)) hx hb d_Book_init_5 (by decide) ?_
  replace hrun := hnew_some hrun
  obtain ⟨h7, dn7, ds7, eh7, hrun, en7, es7⟩ := hrun
  refine h_newqc S (hT _ cl_Book_9) (hN.2.1 _ ao_0) hK (kd := 1) rfl hw hS (N := 100) (by decide) (by decide) (by decide) (show 0 + 1 ≤ dnZ by omega) (show 0 + 100 ≤ dsZ by omega) d_Book_init_7 (fun H hw hS => ?_)
  rw [← eh7] at hw
  clear eh7
  obtain ⟨nx7, ex7⟩ : ∃ z, z = nx + 1 := ⟨_, rfl⟩
  rw [← ex7] at hw
  try rw [← ex7] at hrun
  replace hcR : (0 + 1) + dn7 = dnZ := by omega
  replace hsR : (0 + 100) + ds7 = dsZ := by omega
  replace hnR : nx7 + dn7 = nxZ + dnZ := by omega
  clear en7 es7 ex7
  replace hrun := hb_some hrun
  obtain ⟨h10, g10, hrun⟩ := hrun
  refine h_putF S (fun w q => hT w (i_Book w q)) t_Book t_Book_ok n_Book hK (ci := 3) rfl 0 (by decide) (hT _ fl_Book_11) rfl hin rfl rfl rfl hw hS g10 d_Book_init_10 (fun H locs hw hS => ?_)
  refine lv_aload_n hx hb d_Book_init_13 rfl (lv_at hl 0 rfl) ?_
  refine lv_sipush (v := (200 : Int32)) hx hb d_Book_init_14 (by decide) ?_
  replace hrun := hnew_some hrun
  obtain ⟨h17, dn17, ds17, eh17, hrun, en17, es17⟩ := hrun
  refine h_newic S (hT _ ac_int) hK (kd := 0) rfl hw hS (N := 200) (by decide) (by decide) (by decide) (show (0 + 1) + 1 ≤ dnZ by omega) (show (0 + 100) + 200 ≤ dsZ by omega) d_Book_init_17 (fun H hw hS => ?_)
  rw [← eh17] at hw
  clear eh17
  obtain ⟨nx17, ex17⟩ : ∃ z, z = nx7 + 1 := ⟨_, rfl⟩
  rw [← ex17] at hw
  try rw [← ex17] at hrun
  replace hcR : ((0 + 1) + 1) + dn17 = dnZ := by omega
  replace hsR : ((0 + 100) + 200) + ds17 = dsZ := by omega
  replace hnR : nx17 + dn17 = nxZ + dnZ := by omega
  clear en17 es17 ex17
  replace hrun := hb_some hrun
  obtain ⟨h19, g19, hrun⟩ := hrun
  refine h_putF S (fun w q => hT w (i_Book w q)) t_Book t_Book_ok n_Book hK (ci := 3) rfl 1 (by decide) (hT _ fl_Book_17) rfl hin rfl rfl rfl hw hS g19 d_Book_init_19 (fun H locs hw hS => ?_)
  refine lv_aload_n hx hb d_Book_init_22 rfl (lv_at hl 0 rfl) ?_
  replace hrun := hb_some hrun
  obtain ⟨v23, g23, hrun⟩ := hrun
  refine h_getR S (fun w q => hT w (i_Book w q)) hK (ci := 3) rfl 1 (by decide) (hT _ fl_Book_17) hw g23 d_Book_init_23 ?_
  refine lv_iconst (v := (-1 : Int32)) hx hb d_Book_init_26 (by decide) ?_
  replace hrun := hb_some hrun
  obtain ⟨p27_0, rfl, hrun⟩ := hrun
  replace hrun := hbW_some hrun
  obtain ⟨_u27, h27, g27, hrun⟩ := hrun
  refine h_cv (h_runS S (As := [.ref p27_0, .int (-1 : Int32)]) (rest := []) (c_Arrays_fill l D dA b0 n p27_0 (-1 : Int32) nx17 g27) (va_cwS 2 S.2.2.2.2 (h_good _ (h_in3 ml_Book_21 sm_Arrays_fill it_Arrays) cd_Arrays_fill) rfl rfl rfl (by decide +kernel) ⟨Nat.le_of_ble_eq_true rfl, Nat.le_of_ble_eq_true rfl⟩) hK hN hw rfl hl.1 (lv_room (Nat.le_of_ble_eq_true rfl)) d_Book_init_27 ⟨show ((0 + 1) + 1) + 0 ≤ dnZ by omega, show ((0 + 100) + 200) + 0 ≤ dsZ by omega⟩) hS (fun H locs hw hS => ?_)
  refine lv_aload_n hx hb d_Book_init_30 rfl (lv_at hl 0 rfl) ?_
  refine lv_bipush (v := (20 : Int32)) hx hb d_Book_init_31 (by decide) ?_
  refine lv_sipush (v := (200 : Int32)) hx hb d_Book_init_33 (by decide) ?_
  replace hrun := hmul_some hrun
  obtain ⟨h36, dn36, ds36, eh36, hrun, en36, es36⟩ := hrun
  refine h_mul S (hT _ cl_Book_27) (by decide) hN.2.2 (hT _ ac_int) hK (ko := 2) (ki := 0) rfl rfl hw hS (N := 20) (M := 200) (by decide) (by decide) (by decide) (by decide) (by decide) (by decide) (show ((0 + 1) + 1) + (1 + 20) ≤ dnZ by omega) (show ((0 + 100) + 200) + (20 + 20 * 200) ≤ dsZ by omega) d_Book_init_36 (fun H hw hS => ?_)
  rw [← eh36] at hw
  clear eh36
  obtain ⟨nx36, ex36⟩ : ∃ z, z = nx17 + (1 + 20) := ⟨_, rfl⟩
  rw [← ex36] at hw
  try rw [← ex36] at hrun
  replace hcR : (((0 + 1) + 1) + (1 + 20)) + dn36 = dnZ := by omega
  replace hsR : (((0 + 100) + 200) + (20 + 20 * 200)) + ds36 = dsZ := by omega
  replace hnR : nx36 + dn36 = nxZ + dnZ := by omega
  clear en36 es36 ex36
  replace hrun := hb_some hrun
  obtain ⟨h40, g40, hrun⟩ := hrun
  refine h_putF S (fun w q => hT w (i_Book w q)) t_Book t_Book_ok n_Book hK (ci := 3) rfl 2 (by decide) (hT _ fl_Book_29) rfl hin rfl rfl rfl hw hS g40 d_Book_init_40 (fun H locs hw hS => ?_)
  refine lv_aload_n hx hb d_Book_init_43 rfl (lv_at hl 0 rfl) ?_
  refine lv_iconst (v := (0 : Int32)) hx hb d_Book_init_44 (by decide) ?_
  replace hrun := hb_some hrun
  obtain ⟨h45, g45, hrun⟩ := hrun
  refine h_put S (fun w q => hT w (i_Book w q)) t_Book t_Book_ok n_Book hK (ci := 3) rfl 3 (by decide) (hT _ fl_Book_32) rfl rfl rfl hw hS g45 d_Book_init_45 (fun H locs hw hS => ?_)
  refine lv_aload_n hx hb d_Book_init_48 rfl (lv_at hl 0 rfl) ?_
  refine lv_iconst (v := (0 : Int32)) hx hb d_Book_init_49 (by decide) ?_
  replace hrun := hb_some hrun
  obtain ⟨h50, g50, hrun⟩ := hrun
  refine h_put S (fun w q => hT w (i_Book w q)) t_Book t_Book_ok n_Book hK (ci := 3) rfl 4 (by decide) (hT _ fl_Book_36) rfl rfl rfl hw hS g50 d_Book_init_50 (fun H locs hw hS => ?_)
  cases hrun
  refine W.widen (k := dnZ) (n := dsZ) (by omega) (by omega) ?_
  rw [show nx36 = nxZ + dnZ by omega] at hw
  exact W.vret hx hb hr (fun t ht hW9 => ⟨⟨(), rfl, trivial, by show hW D dA classes b0 _ _ t.heap; rw [ht]; exact hw⟩, hS.F ht⟩) hS.2.2 d_Book_init_53
set_option maxHeartbeats 4000000 in
set_option maxRecDepth 100000 in
theorem c_Spelling_init (l : Launch) (D : va_G) (dA : Nat → ClassId) (b0 : Nat) (a0 : Nat) (nxZ : Nat) {h h' : hH} {r : Unit} {dnZ dsZ : Nat} (hrun : f_Spelling_init a0 nxZ h = some (r, dnZ, dsZ, h')) : Met l y_Spelling_init w_Spelling_init ({ frames := 1, cells := dnZ, slots := dsZ, locals := 20 } : Room) (va_Pc [.ref a0] (hB D dA b0 nxZ h)) (va_Qv (fun (_ : Unit) => True) (fun (_ : Unit) t => hW D dA classes b0 (nxZ + dnZ) h' t.heap) (hA b0)) dnZ dsZ (hA b0) := by
  refine Met.ofW (cc := b_Spelling_init) (maxL := 1) (ret := none) (by decide) rfl ?_
  intro p e s m args below meth c s₁ B hml hv
  obtain ⟨rfl, hw, hK, hN⟩ := hv
  have hx := B.exec
  have hb := B.bytes
  have hr := B.returns
  have hlocks := B.notSynchronized
  have hin : meth.name = "<init>" := (name_of_methodNamed B.named B.method).1
  have S : CallFix p m c b_Spelling_init 1 s ([.ref a0] : List Value).toArray w_Spelling_init R_Spelling := ⟨hx, hb, hml, findClass_of_methodNamed B.named, atoms_spec (ws := w_Spelling_init) B.pre⟩
  have hT : ∀ w ∈ tbl, w ∈ w_Spelling_init := fun _ q => List.mem_cons_of_mem _ q
  have hS : va_S (hA b0) s.heap s.heap [] := va_S.rf
  have hl := lv_entry ([.ref a0]) (n := 1) (Nat.le_of_ble_eq_true rfl)
  rw [lg_entry_eq]
  generalize (lg_sl ([.ref a0]) ++ List.replicate (1 - (lg_sl ([.ref a0])).length) Slot.unset).toArray = ls at hl ⊢
  have hl : lv_has ls 1 [(0, .ref a0)] := hl
  obtain ⟨dn, edn⟩ : ∃ z, z = dnZ := ⟨_, rfl⟩
  obtain ⟨ds, eds⟩ : ∃ z, z = dsZ := ⟨_, rfl⟩
  obtain ⟨nx, enx⟩ : ∃ z, z = nxZ := ⟨_, rfl⟩
  rw [← edn, ← eds, ← enx] at hrun
  rw [← enx] at hw
  have hcR : 0 + dn = dnZ := by omega
  have hsR : 0 + ds = dsZ := by omega
  have hnR : nx + dn = nxZ + dnZ := by omega
  clear edn eds enx
  unfold f_Spelling_init at hrun
  refine lv_aload_n hx hb d_Spelling_init_0 rfl (lv_at hl 0 rfl) ?_
  refine W.objInit hx hb S.2.2.2.1 (S.2.2.2.2 _ (hT _ ml_Spelling_3)) (S.2.2.2.2 _ (hT _ k_objinst)) (S.2.2.2.2 _ (hT _ k_objcode)) rfl (by rw [hml]; exact hl.1) rfl d_Spelling_init_1 (Nat.le_of_ble_eq_true rfl) (Nat.le_of_ble_eq_true rfl) ?_
  refine W.eq (g2 := F0 m 4 ls []) rfl ?_
  refine lv_aload_n hx hb d_Spelling_init_4 rfl (lv_at hl 0 rfl) ?_
  refine lv_sipush (v := (800 : Int32)) hx hb d_Spelling_init_5 (by decide) ?_
  replace hrun := hnew_some hrun
  obtain ⟨h8, dn8, ds8, eh8, hrun, en8, es8⟩ := hrun
  refine h_newic S (hT _ ac_int) hK (kd := 0) rfl hw hS (N := 800) (by decide) (by decide) (by decide) (show 0 + 1 ≤ dnZ by omega) (show 0 + 800 ≤ dsZ by omega) d_Spelling_init_8 (fun H hw hS => ?_)
  rw [← eh8] at hw
  clear eh8
  obtain ⟨nx8, ex8⟩ : ∃ z, z = nx + 1 := ⟨_, rfl⟩
  rw [← ex8] at hw
  try rw [← ex8] at hrun
  replace hcR : (0 + 1) + dn8 = dnZ := by omega
  replace hsR : (0 + 800) + ds8 = dsZ := by omega
  replace hnR : nx8 + dn8 = nxZ + dnZ := by omega
  clear en8 es8 ex8
  replace hrun := hb_some hrun
  obtain ⟨h10, g10, hrun⟩ := hrun
  refine h_putF S (fun w q => hT w (i_Spelling w q)) t_Spelling t_Spelling_ok n_Spelling hK (ci := 9) rfl 0 (by decide) (hT _ fl_Spelling_9) rfl hin rfl rfl rfl hw hS g10 d_Spelling_init_10 (fun H locs hw hS => ?_)
  refine lv_aload_n hx hb d_Spelling_init_13 rfl (lv_at hl 0 rfl) ?_
  refine lv_bipush (v := (100 : Int32)) hx hb d_Spelling_init_14 (by decide) ?_
  replace hrun := hnew_some hrun
  obtain ⟨h16, dn16, ds16, eh16, hrun, en16, es16⟩ := hrun
  refine h_newic S (hT _ ac_int) hK (kd := 0) rfl hw hS (N := 100) (by decide) (by decide) (by decide) (show (0 + 1) + 1 ≤ dnZ by omega) (show (0 + 800) + 100 ≤ dsZ by omega) d_Spelling_init_16 (fun H hw hS => ?_)
  rw [← eh16] at hw
  clear eh16
  obtain ⟨nx16, ex16⟩ : ∃ z, z = nx8 + 1 := ⟨_, rfl⟩
  rw [← ex16] at hw
  try rw [← ex16] at hrun
  replace hcR : ((0 + 1) + 1) + dn16 = dnZ := by omega
  replace hsR : ((0 + 800) + 100) + ds16 = dsZ := by omega
  replace hnR : nx16 + dn16 = nxZ + dnZ := by omega
  clear en16 es16 ex16
  replace hrun := hb_some hrun
  obtain ⟨h18, g18, hrun⟩ := hrun
  refine h_putF S (fun w q => hT w (i_Spelling w q)) t_Spelling t_Spelling_ok n_Spelling hK (ci := 9) rfl 1 (by decide) (hT _ fl_Spelling_15) rfl hin rfl rfl rfl hw hS g18 d_Spelling_init_18 (fun H locs hw hS => ?_)
  refine lv_aload_n hx hb d_Spelling_init_21 rfl (lv_at hl 0 rfl) ?_
  refine lv_iconst (v := (0 : Int32)) hx hb d_Spelling_init_22 (by decide) ?_
  replace hrun := hb_some hrun
  obtain ⟨h23, g23, hrun⟩ := hrun
  refine h_put S (fun w q => hT w (i_Spelling w q)) t_Spelling t_Spelling_ok n_Spelling hK (ci := 9) rfl 2 (by decide) (hT _ fl_Spelling_18) rfl rfl rfl hw hS g23 d_Spelling_init_23 (fun H locs hw hS => ?_)
  cases hrun
  refine W.widen (k := dnZ) (n := dsZ) (by omega) (by omega) ?_
  rw [show nx16 = nxZ + dnZ by omega] at hw
  exact W.vret hx hb hr (fun t ht hW9 => ⟨⟨(), rfl, trivial, by show hW D dA classes b0 _ _ t.heap; rw [ht]; exact hw⟩, hS.F ht⟩) hS.2.2 d_Spelling_init_26
set_option maxHeartbeats 4000000 in
set_option maxRecDepth 100000 in
theorem c_Input_init (l : Launch) (D : va_G) (dA : Nat → ClassId) (b0 : Nat) (a0 : Nat) (nxZ : Nat) {h h' : hH} {r : Unit} {dnZ dsZ : Nat} (hrun : f_Input_init a0 nxZ h = some (r, dnZ, dsZ, h')) : Met l y_Input_init w_Input_init ({ frames := 1, cells := dnZ, slots := dsZ, locals := 20 } : Room) (va_Pc [.ref a0] (hB D dA b0 nxZ h)) (va_Qv (fun (_ : Unit) => True) (fun (_ : Unit) t => hW D dA classes b0 (nxZ + dnZ) h' t.heap) (hA b0)) dnZ dsZ (hA b0) := by
  refine Met.ofW (cc := b_Input_init) (maxL := 1) (ret := none) (by decide) rfl ?_
  intro p e s m args below meth c s₁ B hml hv
  obtain ⟨rfl, hw, hK, hN⟩ := hv
  have hx := B.exec
  have hb := B.bytes
  have hr := B.returns
  have hlocks := B.notSynchronized
  have hin : meth.name = "<init>" := (name_of_methodNamed B.named B.method).1
  have S : CallFix p m c b_Input_init 1 s ([.ref a0] : List Value).toArray w_Input_init R_Input := ⟨hx, hb, hml, findClass_of_methodNamed B.named, atoms_spec (ws := w_Input_init) B.pre⟩
  have hT : ∀ w ∈ tbl, w ∈ w_Input_init := fun _ q => List.mem_cons_of_mem _ q
  have hS : va_S (hA b0) s.heap s.heap [] := va_S.rf
  have hl := lv_entry ([.ref a0]) (n := 1) (Nat.le_of_ble_eq_true rfl)
  rw [lg_entry_eq]
  generalize (lg_sl ([.ref a0]) ++ List.replicate (1 - (lg_sl ([.ref a0])).length) Slot.unset).toArray = ls at hl ⊢
  have hl : lv_has ls 1 [(0, .ref a0)] := hl
  obtain ⟨dn, edn⟩ : ∃ z, z = dnZ := ⟨_, rfl⟩
  obtain ⟨ds, eds⟩ : ∃ z, z = dsZ := ⟨_, rfl⟩
  obtain ⟨nx, enx⟩ : ∃ z, z = nxZ := ⟨_, rfl⟩
  rw [← edn, ← eds, ← enx] at hrun
  rw [← enx] at hw
  have hcR : 0 + dn = dnZ := by omega
  have hsR : 0 + ds = dsZ := by omega
  have hnR : nx + dn = nxZ + dnZ := by omega
  clear edn eds enx
  unfold f_Input_init at hrun
  refine lv_aload_n hx hb d_Input_init_0 rfl (lv_at hl 0 rfl) ?_
  refine W.objInit hx hb S.2.2.2.1 (S.2.2.2.2 _ (hT _ ml_Input_3)) (S.2.2.2.2 _ (hT _ k_objinst)) (S.2.2.2.2 _ (hT _ k_objcode)) rfl (by rw [hml]; exact hl.1) rfl d_Input_init_1 (Nat.le_of_ble_eq_true rfl) (Nat.le_of_ble_eq_true rfl) ?_
  refine W.eq (g2 := F0 m 4 ls []) rfl ?_
  refine lv_aload_n hx hb d_Input_init_4 rfl (lv_at hl 0 rfl) ?_
  refine lv_sipush (v := (3000 : Int32)) hx hb d_Input_init_5 (by decide) ?_
  replace hrun := hnew_some hrun
  obtain ⟨h8, dn8, ds8, eh8, hrun, en8, es8⟩ := hrun
  refine h_newic S (hT _ ac_int) hK (kd := 0) rfl hw hS (N := 3000) (by decide) (by decide) (by decide) (show 0 + 1 ≤ dnZ by omega) (show 0 + 3000 ≤ dsZ by omega) d_Input_init_8 (fun H hw hS => ?_)
  rw [← eh8] at hw
  clear eh8
  obtain ⟨nx8, ex8⟩ : ∃ z, z = nx + 1 := ⟨_, rfl⟩
  rw [← ex8] at hw
  try rw [← ex8] at hrun
  replace hcR : (0 + 1) + dn8 = dnZ := by omega
  replace hsR : (0 + 3000) + ds8 = dsZ := by omega
  replace hnR : nx8 + dn8 = nxZ + dnZ := by omega
  clear en8 es8 ex8
  replace hrun := hb_some hrun
  obtain ⟨h10, g10, hrun⟩ := hrun
  refine h_putF S (fun w q => hT w (i_Input w q)) t_Input t_Input_ok n_Input hK (ci := 6) rfl 0 (by decide) (hT _ fl_Input_9) rfl hin rfl rfl rfl hw hS g10 d_Input_init_10 (fun H locs hw hS => ?_)
  refine lv_aload_n hx hb d_Input_init_13 rfl (lv_at hl 0 rfl) ?_
  refine lv_iconst (v := (0 : Int32)) hx hb d_Input_init_14 (by decide) ?_
  replace hrun := hb_some hrun
  obtain ⟨h15, g15, hrun⟩ := hrun
  refine h_put S (fun w q => hT w (i_Input w q)) t_Input t_Input_ok n_Input hK (ci := 6) rfl 1 (by decide) (hT _ fl_Input_15) rfl rfl rfl hw hS g15 d_Input_init_15 (fun H locs hw hS => ?_)
  cases hrun
  refine W.widen (k := dnZ) (n := dsZ) (by omega) (by omega) ?_
  rw [show nx8 = nxZ + dnZ by omega] at hw
  exact W.vret hx hb hr (fun t ht hW9 => ⟨⟨(), rfl, trivial, by show hW D dA classes b0 _ _ t.heap; rw [ht]; exact hw⟩, hS.F ht⟩) hS.2.2 d_Input_init_18
set_option maxHeartbeats 4000000 in
set_option maxRecDepth 100000 in
theorem c_Trace_init (l : Launch) (D : va_G) (dA : Nat → ClassId) (b0 : Nat) (a0 : Nat) (nxZ : Nat) {h h' : hH} {r : Unit} {dnZ dsZ : Nat} (hrun : f_Trace_init a0 nxZ h = some (r, dnZ, dsZ, h')) : Met l y_Trace_init w_Trace_init ({ frames := 1, cells := dnZ, slots := dsZ, locals := 20 } : Room) (va_Pc [.ref a0] (hB D dA b0 nxZ h)) (va_Qv (fun (_ : Unit) => True) (fun (_ : Unit) t => hW D dA classes b0 (nxZ + dnZ) h' t.heap) (hA b0)) dnZ dsZ (hA b0) := by
  refine Met.ofW (cc := b_Trace_init) (maxL := 1) (ret := none) (by decide) rfl ?_
  intro p e s m args below meth c s₁ B hml hv
  obtain ⟨rfl, hw, hK, hN⟩ := hv
  have hx := B.exec
  have hb := B.bytes
  have hr := B.returns
  have hlocks := B.notSynchronized
  have hin : meth.name = "<init>" := (name_of_methodNamed B.named B.method).1
  have S : CallFix p m c b_Trace_init 1 s ([.ref a0] : List Value).toArray w_Trace_init R_Trace := ⟨hx, hb, hml, findClass_of_methodNamed B.named, atoms_spec (ws := w_Trace_init) B.pre⟩
  have hT : ∀ w ∈ tbl, w ∈ w_Trace_init := fun _ q => List.mem_cons_of_mem _ q
  have hS : va_S (hA b0) s.heap s.heap [] := va_S.rf
  have hl := lv_entry ([.ref a0]) (n := 1) (Nat.le_of_ble_eq_true rfl)
  rw [lg_entry_eq]
  generalize (lg_sl ([.ref a0]) ++ List.replicate (1 - (lg_sl ([.ref a0])).length) Slot.unset).toArray = ls at hl ⊢
  have hl : lv_has ls 1 [(0, .ref a0)] := hl
  obtain ⟨dn, edn⟩ : ∃ z, z = dnZ := ⟨_, rfl⟩
  obtain ⟨ds, eds⟩ : ∃ z, z = dsZ := ⟨_, rfl⟩
  obtain ⟨nx, enx⟩ : ∃ z, z = nxZ := ⟨_, rfl⟩
  rw [← edn, ← eds, ← enx] at hrun
  rw [← enx] at hw
  have hcR : 0 + dn = dnZ := by omega
  have hsR : 0 + ds = dsZ := by omega
  have hnR : nx + dn = nxZ + dnZ := by omega
  clear edn eds enx
  unfold f_Trace_init at hrun
  refine lv_aload_n hx hb d_Trace_init_0 rfl (lv_at hl 0 rfl) ?_
  refine W.objInit hx hb S.2.2.2.1 (S.2.2.2.2 _ (hT _ ml_Trace_3)) (S.2.2.2.2 _ (hT _ k_objinst)) (S.2.2.2.2 _ (hT _ k_objcode)) rfl (by rw [hml]; exact hl.1) rfl d_Trace_init_1 (Nat.le_of_ble_eq_true rfl) (Nat.le_of_ble_eq_true rfl) ?_
  refine W.eq (g2 := F0 m 4 ls []) rfl ?_
  refine lv_aload_n hx hb d_Trace_init_4 rfl (lv_at hl 0 rfl) ?_
  refine lv_bipush (v := (100 : Int32)) hx hb d_Trace_init_5 (by decide) ?_
  replace hrun := hnew_some hrun
  obtain ⟨h7, dn7, ds7, eh7, hrun, en7, es7⟩ := hrun
  refine h_newic S (hT _ ac_int) hK (kd := 0) rfl hw hS (N := 100) (by decide) (by decide) (by decide) (show 0 + 1 ≤ dnZ by omega) (show 0 + 100 ≤ dsZ by omega) d_Trace_init_7 (fun H hw hS => ?_)
  rw [← eh7] at hw
  clear eh7
  obtain ⟨nx7, ex7⟩ : ∃ z, z = nx + 1 := ⟨_, rfl⟩
  rw [← ex7] at hw
  try rw [← ex7] at hrun
  replace hcR : (0 + 1) + dn7 = dnZ := by omega
  replace hsR : (0 + 100) + ds7 = dsZ := by omega
  replace hnR : nx7 + dn7 = nxZ + dnZ := by omega
  clear en7 es7 ex7
  replace hrun := hb_some hrun
  obtain ⟨h9, g9, hrun⟩ := hrun
  refine h_putF S (fun w q => hT w (i_Trace w q)) t_Trace t_Trace_ok n_Trace hK (ci := 10) rfl 0 (by decide) (hT _ fl_Trace_9) rfl hin rfl rfl rfl hw hS g9 d_Trace_init_9 (fun H locs hw hS => ?_)
  refine lv_aload_n hx hb d_Trace_init_12 rfl (lv_at hl 0 rfl) ?_
  refine lv_bipush (v := (100 : Int32)) hx hb d_Trace_init_13 (by decide) ?_
  replace hrun := hnew_some hrun
  obtain ⟨h15, dn15, ds15, eh15, hrun, en15, es15⟩ := hrun
  refine h_newic S (hT _ ac_int) hK (kd := 0) rfl hw hS (N := 100) (by decide) (by decide) (by decide) (show (0 + 1) + 1 ≤ dnZ by omega) (show (0 + 100) + 100 ≤ dsZ by omega) d_Trace_init_15 (fun H hw hS => ?_)
  rw [← eh15] at hw
  clear eh15
  obtain ⟨nx15, ex15⟩ : ∃ z, z = nx7 + 1 := ⟨_, rfl⟩
  rw [← ex15] at hw
  try rw [← ex15] at hrun
  replace hcR : ((0 + 1) + 1) + dn15 = dnZ := by omega
  replace hsR : ((0 + 100) + 100) + ds15 = dsZ := by omega
  replace hnR : nx15 + dn15 = nxZ + dnZ := by omega
  clear en15 es15 ex15
  replace hrun := hb_some hrun
  obtain ⟨h17, g17, hrun⟩ := hrun
  refine h_putF S (fun w q => hT w (i_Trace w q)) t_Trace t_Trace_ok n_Trace hK (ci := 10) rfl 1 (by decide) (hT _ fl_Trace_15) rfl hin rfl rfl rfl hw hS g17 d_Trace_init_17 (fun H locs hw hS => ?_)
  refine lv_aload_n hx hb d_Trace_init_20 rfl (lv_at hl 0 rfl) ?_
  refine lv_bipush (v := (100 : Int32)) hx hb d_Trace_init_21 (by decide) ?_
  replace hrun := hnew_some hrun
  obtain ⟨h23, dn23, ds23, eh23, hrun, en23, es23⟩ := hrun
  refine h_newic S (hT _ ac_int) hK (kd := 0) rfl hw hS (N := 100) (by decide) (by decide) (by decide) (show ((0 + 1) + 1) + 1 ≤ dnZ by omega) (show ((0 + 100) + 100) + 100 ≤ dsZ by omega) d_Trace_init_23 (fun H hw hS => ?_)
  rw [← eh23] at hw
  clear eh23
  obtain ⟨nx23, ex23⟩ : ∃ z, z = nx15 + 1 := ⟨_, rfl⟩
  rw [← ex23] at hw
  try rw [← ex23] at hrun
  replace hcR : (((0 + 1) + 1) + 1) + dn23 = dnZ := by omega
  replace hsR : (((0 + 100) + 100) + 100) + ds23 = dsZ := by omega
  replace hnR : nx23 + dn23 = nxZ + dnZ := by omega
  clear en23 es23 ex23
  replace hrun := hb_some hrun
  obtain ⟨h25, g25, hrun⟩ := hrun
  refine h_putF S (fun w q => hT w (i_Trace w q)) t_Trace t_Trace_ok n_Trace hK (ci := 10) rfl 2 (by decide) (hT _ fl_Trace_18) rfl hin rfl rfl rfl hw hS g25 d_Trace_init_25 (fun H locs hw hS => ?_)
  refine lv_aload_n hx hb d_Trace_init_28 rfl (lv_at hl 0 rfl) ?_
  refine lv_iconst (v := (0 : Int32)) hx hb d_Trace_init_29 (by decide) ?_
  replace hrun := hb_some hrun
  obtain ⟨h30, g30, hrun⟩ := hrun
  refine h_put S (fun w q => hT w (i_Trace w q)) t_Trace t_Trace_ok n_Trace hK (ci := 10) rfl 3 (by decide) (hT _ fl_Trace_21) rfl rfl rfl hw hS g30 d_Trace_init_30 (fun H locs hw hS => ?_)
  cases hrun
  refine W.widen (k := dnZ) (n := dsZ) (by omega) (by omega) ?_
  rw [show nx23 = nxZ + dnZ by omega] at hw
  exact W.vret hx hb hr (fun t ht hW9 => ⟨⟨(), rfl, trivial, by show hW D dA classes b0 _ _ t.heap; rw [ht]; exact hw⟩, hS.F ht⟩) hS.2.2 d_Trace_init_33
set_option maxHeartbeats 4000000 in
set_option maxRecDepth 100000 in
theorem c_Row_init (l : Launch) (D : va_G) (dA : Nat → ClassId) (b0 : Nat) (a0 : Nat) (i1 : Int32) (nxZ : Nat) {h h' : hH} {r : Unit} {dnZ dsZ : Nat} (hrun : f_Row_init a0 i1 nxZ h = some (r, dnZ, dsZ, h')) : Met l y_Row_init w_Row_init ({ frames := 1, cells := dnZ, slots := dsZ, locals := 20 } : Room) (va_Pc [.ref a0, .int i1] (hB D dA b0 nxZ h)) (va_Qv (fun (_ : Unit) => True) (fun (_ : Unit) t => hW D dA classes b0 (nxZ + dnZ) h' t.heap) (hA b0)) dnZ dsZ (hA b0) := by
  refine Met.ofW (cc := b_Row_init) (maxL := 2) (ret := none) (by decide) rfl ?_
  intro p e s m args below meth c s₁ B hml hv
  obtain ⟨rfl, hw, hK, hN⟩ := hv
  have hx := B.exec
  have hb := B.bytes
  have hr := B.returns
  have hlocks := B.notSynchronized
  have hin : meth.name = "<init>" := (name_of_methodNamed B.named B.method).1
  have S : CallFix p m c b_Row_init 2 s ([.ref a0, .int i1] : List Value).toArray w_Row_init R_Row := ⟨hx, hb, hml, findClass_of_methodNamed B.named, atoms_spec (ws := w_Row_init) B.pre⟩
  have hT : ∀ w ∈ tbl, w ∈ w_Row_init := fun _ q => List.mem_cons_of_mem _ q
  have hS : va_S (hA b0) s.heap s.heap [] := va_S.rf
  have hl := lv_entry ([.ref a0, .int i1]) (n := 2) (Nat.le_of_ble_eq_true rfl)
  rw [lg_entry_eq]
  generalize (lg_sl ([.ref a0, .int i1]) ++ List.replicate (2 - (lg_sl ([.ref a0, .int i1])).length) Slot.unset).toArray = ls at hl ⊢
  have hl : lv_has ls 2 [(0, .ref a0), (1, .int i1)] := hl
  obtain ⟨dn, edn⟩ : ∃ z, z = dnZ := ⟨_, rfl⟩
  obtain ⟨ds, eds⟩ : ∃ z, z = dsZ := ⟨_, rfl⟩
  obtain ⟨nx, enx⟩ : ∃ z, z = nxZ := ⟨_, rfl⟩
  rw [← edn, ← eds, ← enx] at hrun
  rw [← enx] at hw
  have hcR : 0 + dn = dnZ := by omega
  have hsR : 0 + ds = dsZ := by omega
  have hnR : nx + dn = nxZ + dnZ := by omega
  clear edn eds enx
  unfold f_Row_init at hrun
  refine lv_aload_n hx hb d_Row_init_0 rfl (lv_at hl 0 rfl) ?_
  refine W.objInit hx hb S.2.2.2.1 (S.2.2.2.2 _ (hT _ ml_Row_3)) (S.2.2.2.2 _ (hT _ k_objinst)) (S.2.2.2.2 _ (hT _ k_objcode)) rfl (by rw [hml]; exact hl.1) rfl d_Row_init_1 (Nat.le_of_ble_eq_true rfl) (Nat.le_of_ble_eq_true rfl) ?_
  refine W.eq (g2 := F0 m 4 ls []) rfl ?_
  refine lv_aload_n hx hb d_Row_init_4 rfl (lv_at hl 0 rfl) ?_
  refine lv_iload_n hx hb d_Row_init_5 rfl (lv_at hl 1 rfl) ?_
  replace hrun := hb_some hrun
  obtain ⟨h6, g6, hrun⟩ := hrun
  refine h_putF S (fun w q => hT w (i_Row w q)) t_Row t_Row_ok n_Row hK (ci := 8) rfl 0 (by decide) (hT _ fl_Row_9) rfl hin rfl rfl rfl hw hS g6 d_Row_init_6 (fun H locs hw hS => ?_)
  refine lv_aload_n hx hb d_Row_init_9 rfl (lv_at hl 0 rfl) ?_
  refine lv_iconst (v := (0 : Int32)) hx hb d_Row_init_10 (by decide) ?_
  replace hrun := hnew_some hrun
  obtain ⟨h11, dn11, ds11, eh11, hrun, en11, es11⟩ := hrun
  refine h_newic S (hT _ ac_int) hK (kd := 0) rfl hw hS (N := 0) (by decide) (by decide) (by decide) (show 0 + 1 ≤ dnZ by omega) (show 0 + 0 ≤ dsZ by omega) d_Row_init_11 (fun H hw hS => ?_)
  rw [← eh11] at hw
  clear eh11
  obtain ⟨nx11, ex11⟩ : ∃ z, z = nx + 1 := ⟨_, rfl⟩
  rw [← ex11] at hw
  try rw [← ex11] at hrun
  replace hcR : (0 + 1) + dn11 = dnZ := by omega
  replace hsR : (0 + 0) + ds11 = dsZ := by omega
  replace hnR : nx11 + dn11 = nxZ + dnZ := by omega
  clear en11 es11 ex11
  replace hrun := hb_some hrun
  obtain ⟨h13, g13, hrun⟩ := hrun
  refine h_put S (fun w q => hT w (i_Row w q)) t_Row t_Row_ok n_Row hK (ci := 8) rfl 1 (by decide) (hT _ fl_Row_15) rfl rfl rfl hw hS g13 d_Row_init_13 (fun H locs hw hS => ?_)
  refine lv_aload_n hx hb d_Row_init_16 rfl (lv_at hl 0 rfl) ?_
  refine lv_iconst (v := (0 : Int32)) hx hb d_Row_init_17 (by decide) ?_
  replace hrun := hb_some hrun
  obtain ⟨h18, g18, hrun⟩ := hrun
  refine h_put S (fun w q => hT w (i_Row w q)) t_Row t_Row_ok n_Row hK (ci := 8) rfl 2 (by decide) (hT _ fl_Row_19) rfl rfl rfl hw hS g18 d_Row_init_18 (fun H locs hw hS => ?_)
  cases hrun
  refine W.widen (k := dnZ) (n := dsZ) (by omega) (by omega) ?_
  rw [show nx11 = nxZ + dnZ by omega] at hw
  exact W.vret hx hb hr (fun t ht hW9 => ⟨⟨(), rfl, trivial, by show hW D dA classes b0 _ _ t.heap; rw [ht]; exact hw⟩, hS.F ht⟩) hS.2.2 d_Row_init_21
set_option maxHeartbeats 4000000 in
set_option maxRecDepth 100000 in
theorem c_Arguments_init (l : Launch) (D : va_G) (dA : Nat → ClassId) (b0 : Nat) (n : Nat) (a0 : Nat) (a1 : Nat) (a2 : Nat) (nxZ : Nat) {h h' : hH} {r : Unit} {dnZ dsZ : Nat} (hrun : f_Arguments_init n a0 a1 a2 nxZ h = some (r, dnZ, dsZ, h')) : Met l y_Arguments_init w_Arguments_init ({ frames := 2, cells := dnZ, slots := dsZ, locals := 41 } : Room) (va_Pc [.ref a0, .ref a1, .ref a2] (hB D dA b0 nxZ h)) (va_Qv (fun (_ : Unit) => True) (fun (_ : Unit) t => hW D dA classes b0 (nxZ + dnZ) h' t.heap) (hA b0)) dnZ dsZ (hA b0) := by
  refine Met.ofW (cc := b_Arguments_init) (maxL := 4) (ret := none) (by decide) rfl ?_
  intro p e s m args below meth c s₁ B hml hv
  obtain ⟨rfl, hw, hK, hN⟩ := hv
  have hx := B.exec
  have hb := B.bytes
  have hr := B.returns
  have hlocks := B.notSynchronized
  have hin : meth.name = "<init>" := (name_of_methodNamed B.named B.method).1
  have S : CallFix p m c b_Arguments_init 4 s ([.ref a0, .ref a1, .ref a2] : List Value).toArray w_Arguments_init R_Arguments := ⟨hx, hb, hml, findClass_of_methodNamed B.named, atoms_spec (ws := w_Arguments_init) B.pre⟩
  have hT : ∀ w ∈ tbl, w ∈ w_Arguments_init := fun _ q => List.mem_cons_of_mem _ q
  have hS : va_S (hA b0) s.heap s.heap [] := va_S.rf
  have hl := lv_entry ([.ref a0, .ref a1, .ref a2]) (n := 4) (Nat.le_of_ble_eq_true rfl)
  rw [lg_entry_eq]
  generalize (lg_sl ([.ref a0, .ref a1, .ref a2]) ++ List.replicate (4 - (lg_sl ([.ref a0, .ref a1, .ref a2])).length) Slot.unset).toArray = ls at hl ⊢
  have hl : lv_has ls 4 [(0, .ref a0), (1, .ref a1), (2, .ref a2)] := hl
  obtain ⟨dn, edn⟩ : ∃ z, z = dnZ := ⟨_, rfl⟩
  obtain ⟨ds, eds⟩ : ∃ z, z = dsZ := ⟨_, rfl⟩
  obtain ⟨nx, enx⟩ : ∃ z, z = nxZ := ⟨_, rfl⟩
  rw [← edn, ← eds, ← enx] at hrun
  rw [← enx] at hw
  have hcR : 0 + dn = dnZ := by omega
  have hsR : 0 + ds = dsZ := by omega
  have hnR : nx + dn = nxZ + dnZ := by omega
  clear edn eds enx
  have l_25 : ∀ (n9 : Nat) (x9 : Int32) (cells slots dn ds nx : Nat) (h : hH) (b9 : (Unit)) (h9 : hH) (H : Heap) (locs : List Loc) (ls : Array Slot), hloopA (f_Arguments_init_b25 n a0) n9 x9 nx h = some (b9, dn, ds, h9) → cells + dn ≤ dnZ → slots + ds ≤ dsZ → hW D dA classes b0 nx h H → va_S (hA b0) s.heap H locs → lv_has ls 4 (match x9 with | x3 => [(0, .ref a0), (3, .int x3)]) → (b9 = () → ∀ (H : Heap) (locs : List Loc) (ls : Array Slot), hW D dA classes b0 (nx + dn) h9 H → va_S (hA b0) s.heap H locs → lv_has ls 4 [] → W p l e (headSpec w_Arguments_init ({ frames := 2, cells := dnZ, slots := dsZ, locals := 41 } : Room)).room s m ([.ref a0, .ref a1, .ref a2] : List Value).toArray below meth c H locs (cells + dn) (slots + ds) (MQ below (va_Qv (fun (_ : Unit) => True) (fun (_ : Unit) t => hW D dA classes b0 (nxZ + dnZ) h' t.heap) (hA b0)) ([.ref a0, .ref a1, .ref a2] : List Value).toArray s dnZ dsZ (hA b0)) (F0 m 56 ls [])) → W p l e (headSpec w_Arguments_init ({ frames := 2, cells := dnZ, slots := dsZ, locals := 41 } : Room)).room s m ([.ref a0, .ref a1, .ref a2] : List Value).toArray below meth c H locs cells slots (MQ below (va_Qv (fun (_ : Unit) => True) (fun (_ : Unit) t => hW D dA classes b0 (nxZ + dnZ) h' t.heap) (hA b0)) ([.ref a0, .ref a1, .ref a2] : List Value).toArray s dnZ dsZ (hA b0)) (F0 m 25 ls []) := by
    intro  n9
    induction n9 with
    | zero =>
      intro x9 cells slots dn ds nx h b9 h9 H locs ls hrun
      cases hrun
    | succ n9 ih =>
      rintro x3 cells slots dn ds nx h b9 h9 H locs ls hrun hcB hsB hw hS hl k0
      have hl : lv_has ls 4 [(0, .ref a0), (3, .int x3)] := hl
      unfold hloopA at hrun
      obtain ⟨q9, dnb, dsb, h9b, dnr, dsr, hbody, hrun9, edn, eds⟩ := hbind_some hrun
      have K0 : (∀ (z3 : Int32), q9 = .inl z3 → ∀ (H : Heap) (locs : List Loc) (ls : Array Slot), hW D dA classes b0 (nx + dnb) h9b H → va_S (hA b0) s.heap H locs → lv_has ls 4 [(0, .ref a0), (3, .int z3)] → W p l e (headSpec w_Arguments_init ({ frames := 2, cells := dnZ, slots := dsZ, locals := 41 } : Room)).room s m ([.ref a0, .ref a1, .ref a2] : List Value).toArray below meth c H locs (cells + dnb) (slots + dsb) (MQ below (va_Qv (fun (_ : Unit) => True) (fun (_ : Unit) t => hW D dA classes b0 (nxZ + dnZ) h' t.heap) (hA b0)) ([.ref a0, .ref a1, .ref a2] : List Value).toArray s dnZ dsZ (hA b0)) (F0 m 25 ls [])) := by
        intro z3 eq9 H locs ls hw hS hl
        subst eq9
        exact ih z3 (cells + dnb) (slots + dsb) dnr dsr (nx + dnb) h9b b9 h9 H locs ls hrun9 (by omega) (by omega) hw hS hl (by have q := k0; rw [show nx + dn = nx + dnb + dnr by omega, show cells + dn = cells + dnb + dnr by omega, show slots + ds = slots + dsb + dsr by omega] at q; exact q)
      have K1 : (q9 = .inr () → ∀ (H : Heap) (locs : List Loc) (ls : Array Slot), hW D dA classes b0 (nx + dnb) h9b H → va_S (hA b0) s.heap H locs → lv_has ls 4 [] → W p l e (headSpec w_Arguments_init ({ frames := 2, cells := dnZ, slots := dsZ, locals := 41 } : Room)).room s m ([.ref a0, .ref a1, .ref a2] : List Value).toArray below meth c H locs (cells + dnb) (slots + dsb) (MQ below (va_Qv (fun (_ : Unit) => True) (fun (_ : Unit) t => hW D dA classes b0 (nxZ + dnZ) h' t.heap) (hA b0)) ([.ref a0, .ref a1, .ref a2] : List Value).toArray s dnZ dsZ (hA b0)) (F0 m 56 ls [])) := by
        intro  eq9 H locs ls hw hS hl
        subst eq9
        cases hrun9
        subst edn; subst eds
        exact k0  rfl H locs ls hw hS hl
      clear hrun hrun9 ih k0
      have hrun := hbody
      clear hbody
      replace hcB : cells + dnb ≤ dnZ := by omega
      replace hsB : slots + dsb ≤ dsZ := by omega
      clear edn eds
      dsimp only [f_Arguments_init_b25] at hrun
      have hcR : cells + dnb = cells + dnb := rfl
      have hsR : slots + dsb = slots + dsb := rfl
      have hnR : nx + dnb = nx + dnb := rfl
      refine lv_iload_n hx hb d_Arguments_init_25 rfl (lv_at hl 1 rfl) ?_
      refine lv_aload_n hx hb d_Arguments_init_26 rfl (lv_at hl 0 rfl) ?_
      replace hrun := hb_some hrun
      obtain ⟨v27, g27, hrun⟩ := hrun
      refine h_getR S (fun w q => hT w (i_Arguments w q)) hK (ci := 2) rfl 2 (by decide) (hT _ fl_Arguments_21) hw g27 d_Arguments_init_27 ?_
      replace hrun := hb_some hrun
      obtain ⟨p30, rfl, hrun⟩ := hrun
      replace hrun := hb_some hrun
      obtain ⟨v30, g30, hrun⟩ := hrun
      refine h_alen S hK (kd := 3) rfl hw g30 d_Arguments_init_30 ?_
      refine lv_icmp_ge (tgt := 56) hx hb d_Arguments_init_31 (by decide) (fun c31 => ?_) (fun c31 => ?_)
      · rw [if_pos c31] at hrun
        cases hrun
        exact W.widen (by omega) (by omega) (K1  rfl H locs ls hw hS (lv_sub hl [] rfl))
      · rw [if_neg c31] at hrun
        refine lv_aload_n hx hb d_Arguments_init_34 rfl (lv_at hl 0 rfl) ?_
        replace hrun := hb_some hrun
        obtain ⟨v35, g35, hrun⟩ := hrun
        refine h_getR S (fun w q => hT w (i_Arguments w q)) hK (ci := 2) rfl 2 (by decide) (hT _ fl_Arguments_21) hw g35 d_Arguments_init_35 ?_
        refine lv_iload_n hx hb d_Arguments_init_38 rfl (lv_at hl 1 rfl) ?_
        replace hrun := hnew_some hrun
        obtain ⟨h39, dn39, ds39, eh39, hrun, en39, es39⟩ := hrun
        refine h_new S (fun w q => hT w (i_Row w q)) t_Row t_Row_ok (hT _ cl_Arguments_19) (hT _ in_Row) (hT _ it_Row) hK (ci := 8) rfl dv_Row hw hS (show cells + 1 ≤ dnZ by omega) (show slots + 3 ≤ dsZ by omega) d_Arguments_init_39 (fun H hw hS => ?_)
        rw [← eh39] at hw
        clear eh39
        obtain ⟨nx39, ex39⟩ : ∃ z, z = nx + 1 := ⟨_, rfl⟩
        rw [← ex39] at hw
        try rw [← ex39] at hrun
        replace hcR : (cells + 1) + dn39 = cells + dnb := by omega
        replace hsR : (slots + 3) + ds39 = slots + dsb := by omega
        replace hnR : nx39 + dn39 = nx + dnb := by omega
        clear en39 es39 ex39
        refine lv_dup hx hb d_Arguments_init_42 rfl ?_
        refine lv_sipush (v := (400 : Int32)) hx hb d_Arguments_init_43 (by decide) ?_
        replace hrun := hbind_some hrun
        obtain ⟨_u46, d46, s46, h46, dn46, ds46, g46, hrun, en46, es46⟩ := hrun
        refine h_cv (h_runI S (As := [.int (400 : Int32)]) (rest := [.ref nx, .int x3, va_rf v35]) (c_Row_init l D dA b0 nx (400 : Int32) nx39 g46) (cwI 1 S.2.2.2.2 (h_good [] (fun _ q => absurd q List.not_mem_nil) cd_Row_init) rfl rfl rfl (S.2.2.2.2 _ (hT _ it_Row)) (S.2.2.2.2 _ (hT _ ml_Arguments_25)) (S.2.2.2.2 _ (hT _ im_Row_init)) rfl (by decide +kernel) ⟨Nat.le_of_ble_eq_true rfl, Nat.le_of_ble_eq_true rfl⟩) hK hN hw rfl hl.1 (lv_room (by simp only [List.map, List.sum_cons, List.sum_nil, h_cat]; exact Nat.le_of_ble_eq_true rfl)) d_Arguments_init_46 ⟨show (cells + 1) + d46 ≤ dnZ by omega, show (slots + 3) + s46 ≤ dsZ by omega⟩) hS (fun H locs hw hS => ?_)
        obtain ⟨nx46, ex46⟩ : ∃ z, z = nx39 + d46 := ⟨_, rfl⟩
        rw [← ex46] at hw
        try rw [← ex46] at hrun
        replace hcR : ((cells + 1) + d46) + dn46 = cells + dnb := by omega
        replace hsR : ((slots + 3) + s46) + ds46 = slots + dsb := by omega
        replace hnR : nx46 + dn46 = nx + dnb := by omega
        clear en46 es46 ex46
        replace hrun := hb_some hrun
        obtain ⟨p49, rfl, hrun⟩ := hrun
        replace hrun := hb_some hrun
        obtain ⟨c49, k49, hrun⟩ := hrun
        replace hrun := hb_some hrun
        obtain ⟨h49, g49, hrun⟩ := hrun
        refine h_aast S hK (kd := 3) (ci := 8) (r := (R_Row, F_Row, 3)) rfl rfl hw hS (hObj_spec k49) g49 d_Arguments_init_49 (fun H locs hw hS => ?_)
        refine lv_iinc (v := (x3 + (1 : Int32))) (lv' := [(3, .int (x3 + (1 : Int32))), (0, .ref a0)]) hx hb d_Arguments_init_50 hl (k := 1) rfl rfl (by decide) rfl (fun ls hl => ?_)
        refine lv_goto (tgt := 25) hx hb d_Arguments_init_53 (by decide) ?_
        cases hrun
        rw [show nx46 = nx + dnb by omega] at hw
        exact W.widen (by omega) (by omega) (K0 (x3 + (1 : Int32)) rfl H locs ls hw hS (lv_sub hl [1, 0] rfl))
  unfold f_Arguments_init at hrun
  refine lv_aload_n hx hb d_Arguments_init_0 rfl (lv_at hl 0 rfl) ?_
  refine W.objInit hx hb S.2.2.2.1 (S.2.2.2.2 _ (hT _ ml_Arguments_3)) (S.2.2.2.2 _ (hT _ k_objinst)) (S.2.2.2.2 _ (hT _ k_objcode)) rfl (by rw [hml]; exact hl.1) rfl d_Arguments_init_1 (Nat.le_of_ble_eq_true rfl) (Nat.le_of_ble_eq_true rfl) ?_
  refine W.eq (g2 := F0 m 4 ls []) rfl ?_
  refine lv_aload_n hx hb d_Arguments_init_4 rfl (lv_at hl 0 rfl) ?_
  refine lv_aload_n hx hb d_Arguments_init_5 rfl (lv_at hl 1 rfl) ?_
  replace hrun := hb_some hrun
  obtain ⟨h6, g6, hrun⟩ := hrun
  refine h_putF S (fun w q => hT w (i_Arguments w q)) t_Arguments t_Arguments_ok n_Arguments hK (ci := 2) rfl 0 (by decide) (hT _ fl_Arguments_9) rfl hin rfl rfl rfl hw hS g6 d_Arguments_init_6 (fun H locs hw hS => ?_)
  refine lv_aload_n hx hb d_Arguments_init_9 rfl (lv_at hl 0 rfl) ?_
  refine lv_aload_n hx hb d_Arguments_init_10 rfl (lv_at hl 2 rfl) ?_
  replace hrun := hb_some hrun
  obtain ⟨h11, g11, hrun⟩ := hrun
  refine h_putF S (fun w q => hT w (i_Arguments w q)) t_Arguments t_Arguments_ok n_Arguments hK (ci := 2) rfl 1 (by decide) (hT _ fl_Arguments_15) rfl hin rfl rfl rfl hw hS g11 d_Arguments_init_11 (fun H locs hw hS => ?_)
  refine lv_aload_n hx hb d_Arguments_init_14 rfl (lv_at hl 0 rfl) ?_
  refine lv_bipush (v := (9 : Int32)) hx hb d_Arguments_init_15 (by decide) ?_
  replace hrun := hnew_some hrun
  obtain ⟨h17, dn17, ds17, eh17, hrun, en17, es17⟩ := hrun
  refine h_newqc S (hT _ cl_Arguments_19) (hN.2.1 _ ao_1) hK (kd := 3) rfl hw hS (N := 9) (by decide) (by decide) (by decide) (show 0 + 1 ≤ dnZ by omega) (show 0 + 9 ≤ dsZ by omega) d_Arguments_init_17 (fun H hw hS => ?_)
  rw [← eh17] at hw
  clear eh17
  obtain ⟨nx17, ex17⟩ : ∃ z, z = nx + 1 := ⟨_, rfl⟩
  rw [← ex17] at hw
  try rw [← ex17] at hrun
  replace hcR : (0 + 1) + dn17 = dnZ := by omega
  replace hsR : (0 + 9) + ds17 = dsZ := by omega
  replace hnR : nx17 + dn17 = nxZ + dnZ := by omega
  clear en17 es17 ex17
  replace hrun := hb_some hrun
  obtain ⟨h20, g20, hrun⟩ := hrun
  refine h_putF S (fun w q => hT w (i_Arguments w q)) t_Arguments t_Arguments_ok n_Arguments hK (ci := 2) rfl 2 (by decide) (hT _ fl_Arguments_21) rfl hin rfl rfl rfl hw hS g20 d_Arguments_init_20 (fun H locs hw hS => ?_)
  refine lv_iconst (v := (0 : Int32)) hx hb d_Arguments_init_23 (by decide) ?_
  refine lv_istore_n (lv' := [(3, .int (0 : Int32)), (0, .ref a0), (1, .ref a1), (2, .ref a2)]) hx hb d_Arguments_init_24 rfl hl (by decide) rfl (fun ls hl => ?_)
  replace hrun := hbind_some hrun
  obtain ⟨b25, d25, s25, h25l, dn25, ds25, g25, hrun, en25, es25⟩ := hrun
  refine l_25 n (0 : Int32) (0 + 1) (0 + 9) _ _ nx17 h20 _ _ _ _ _ g25 (by omega) (by omega) hw hS (lv_sub hl [1, 0] rfl) ?_
  · rintro  eq9 H locs ls hw hS hl
    obtain rfl := eq9.symm
    obtain ⟨nx25l, ex25⟩ : ∃ z, z = nx17 + d25 := ⟨_, rfl⟩
    rw [← ex25] at hw
    try rw [← ex25] at hrun
    replace hcR : ((0 + 1) + d25) + dn25 = dnZ := by omega
    replace hsR : ((0 + 9) + s25) + ds25 = dsZ := by omega
    replace hnR : nx25l + dn25 = nxZ + dnZ := by omega
    clear en25 es25 ex25
    try dsimp only at hrun
    cases hrun
    refine W.widen (k := dnZ) (n := dsZ) (by omega) (by omega) ?_
    rw [show nx25l = nxZ + dnZ by omega] at hw
    exact W.vret hx hb hr (fun t ht hW9 => ⟨⟨(), rfl, trivial, by show hW D dA classes b0 _ _ t.heap; rw [ht]; exact hw⟩, hS.F ht⟩) hS.2.2 d_Arguments_init_56
