set_option maxHeartbeats 4000000 in
set_option maxRecDepth 100000 in
theorem c_MacroExpandModel_input (l : Launch) (D : va_G) (dA : Nat → ClassId) (b0 : Nat) (a0 : Nat) (i1 : Int32) (nx : Nat) {h : hH} {r : Int32} (hrun : f_MacroExpandModel_input a0 i1 h = some r) : Met l y_MacroExpandModel_input w_MacroExpandModel_input ({ frames := 1, cells := 0, slots := 0, locals := 22 } : Room) (va_Pc [.ref a0, .int i1] (hB D dA b0 nx h)) (va_Qi (fun r' (_ : Unit) => r' = r) (fun (_ : Unit) t => hW D dA classes b0 nx h t.heap) (hA b0)) 0 0 (hA b0) := by
  refine Met.ofW (cc := b_MacroExpandModel_input) (maxL := 2) (ret := (some .int)) (by decide) rfl ?_
  intro p e s m args below meth c s₁ B hml hv
  obtain ⟨rfl, hw, hK, hN⟩ := hv
  have hx := B.exec
  have hb := B.bytes
  have hr := B.returns
  have hlocks := B.notSynchronized
  have S : CallFix p m c b_MacroExpandModel_input 2 s ([.ref a0, .int i1] : List Value).toArray w_MacroExpandModel_input R_MacroExpandModel := ⟨hx, hb, hml, findClass_of_methodNamed B.named, atoms_spec (ws := w_MacroExpandModel_input) B.pre⟩
  have hT : ∀ w ∈ tbl, w ∈ w_MacroExpandModel_input := fun _ q => List.mem_cons_of_mem _ q
  have hS : va_S (hA b0) s.heap s.heap [] := va_S.rf
  have hl := lv_entry ([.ref a0, .int i1]) (n := 2) (Nat.le_of_ble_eq_true rfl)
  rw [lg_entry_eq]
  generalize (lg_sl ([.ref a0, .int i1]) ++ List.replicate (2 - (lg_sl ([.ref a0, .int i1])).length) Slot.unset).toArray = ls at hl ⊢
  have hl : lv_has ls 2 [(0, .ref a0), (1, .int i1)] := hl
  unfold f_MacroExpandModel_input at hrun
  refine lv_iload_n hx hb d_MacroExpandModel_input_0 rfl (lv_at hl 1 rfl) ?_
  refine lv_iconst (v := (0 : Int32)) hx hb d_MacroExpandModel_input_1 (by decide) ?_
  refine lv_aload_n hx hb d_MacroExpandModel_input_2 rfl (lv_at hl 0 rfl) ?_
  replace hrun := hb_some hrun
  obtain ⟨v3, g3, hrun⟩ := hrun
  refine h_getI S (fun w q => hT w (i_MacroExpandModel w q)) hK (ci := 1) rfl 3 (by decide) (hT _ fl_MacroExpandModel_107) hw g3 d_MacroExpandModel_input_3 ?_
  refine lv_iconst (v := (1 : Int32)) hx hb d_MacroExpandModel_input_6 (by decide) ?_
  refine lv_isub hx hb d_MacroExpandModel_input_7 ?_
  replace hrun := hb_some hrun
  obtain ⟨v8, g8, hrun⟩ := hrun
  refine h_ci (h_runS S (As := [.int i1, .int (0 : Int32), .int (v3 - (1 : Int32))]) (rest := []) (c_MacroExpandModel_in l D dA b0 i1 (0 : Int32) (v3 - (1 : Int32)) nx g8) (va_cwS 3 S.2.2.2.2 (h_good _ (h_in3 ml_MacroExpandModel_83 sm_MacroExpandModel_in it_MacroExpandModel) cd_MacroExpandModel_in) rfl rfl rfl (by decide +kernel) ⟨Nat.le_of_ble_eq_true rfl, Nat.le_of_ble_eq_true rfl⟩) hK hN hw rfl hl.1 (lv_room (Nat.le_of_ble_eq_true rfl)) d_MacroExpandModel_input_8 ⟨Nat.le_refl _, Nat.le_refl _⟩) hS (fun H locs hw hS => ?_)
  refine lv_if_eq (tgt := 22) hx hb d_MacroExpandModel_input_11 (by decide) (fun c11 => ?_) (fun c11 => ?_)
  · rw [if_pos c11] at hrun
    refine lv_iconst (v := (-1 : Int32)) hx hb d_MacroExpandModel_input_22 (by decide) ?_
    cases hrun
    exact W.iret hx hb hr (fun t ht hW9 => ⟨⟨_, (), rfl, rfl, by show hW D dA classes b0 _ _ t.heap; rw [ht]; exact hw⟩, hS.F ht⟩) hS.2.2 d_MacroExpandModel_input_23
  · rw [if_neg c11] at hrun
    refine lv_aload_n hx hb d_MacroExpandModel_input_14 rfl (lv_at hl 0 rfl) ?_
    refine lv_iload_n hx hb d_MacroExpandModel_input_15 rfl (lv_at hl 1 rfl) ?_
    replace hrun := hb_some hrun
    obtain ⟨c16, k16, hrun⟩ := hrun
    replace hrun := hb_some hrun
    obtain ⟨v16, g16, hrun⟩ := hrun
    refine h_ci (h_runV S (As := [.int i1]) (rest := []) (c_MacroExpandModel_get l D dA b0 a0 i1 nx g16) (cwV 1 S.2.2.2.2 (h_good _ (h_in4 ml_MacroExpandModel_116 im_MacroExpandModel_get se_MacroExpandModel_get it_MacroExpandModel) cd_MacroExpandModel_get) rfl rfl rfl (by decide +kernel) ⟨Nat.le_of_ble_eq_true rfl, Nat.le_of_ble_eq_true rfl⟩) hK hN hw (ci := 1) rfl k16 rfl hl.1 (lv_room (Nat.le_of_ble_eq_true rfl)) d_MacroExpandModel_input_16 ⟨Nat.le_refl _, Nat.le_refl _⟩) hS (fun H locs hw hS => ?_)
    refine lv_goto (tgt := 23) hx hb d_MacroExpandModel_input_19 (by decide) ?_
    cases hrun
    exact W.iret hx hb hr (fun t ht hW9 => ⟨⟨_, (), rfl, rfl, by show hW D dA classes b0 _ _ t.heap; rw [ht]; exact hw⟩, hS.F ht⟩) hS.2.2 d_MacroExpandModel_input_23
set_option maxHeartbeats 4000000 in
set_option maxRecDepth 100000 in
theorem c_MacroExpandModel_macro (l : Launch) (D : va_G) (dA : Nat → ClassId) (b0 : Nat) (a0 : Nat) (i1 : Int32) (nx : Nat) {h : hH} {r : Int32} (hrun : f_MacroExpandModel_macro a0 i1 h = some r) : Met l y_MacroExpandModel_macro w_MacroExpandModel_macro ({ frames := 1, cells := 0, slots := 0, locals := 22 } : Room) (va_Pc [.ref a0, .int i1] (hB D dA b0 nx h)) (va_Qi (fun r' (_ : Unit) => r' = r) (fun (_ : Unit) t => hW D dA classes b0 nx h t.heap) (hA b0)) 0 0 (hA b0) := by
  refine Met.ofW (cc := b_MacroExpandModel_macro) (maxL := 2) (ret := (some .int)) (by decide) rfl ?_
  intro p e s m args below meth c s₁ B hml hv
  obtain ⟨rfl, hw, hK, hN⟩ := hv
  have hx := B.exec
  have hb := B.bytes
  have hr := B.returns
  have hlocks := B.notSynchronized
  have S : CallFix p m c b_MacroExpandModel_macro 2 s ([.ref a0, .int i1] : List Value).toArray w_MacroExpandModel_macro R_MacroExpandModel := ⟨hx, hb, hml, findClass_of_methodNamed B.named, atoms_spec (ws := w_MacroExpandModel_macro) B.pre⟩
  have hT : ∀ w ∈ tbl, w ∈ w_MacroExpandModel_macro := fun _ q => List.mem_cons_of_mem _ q
  have hS : va_S (hA b0) s.heap s.heap [] := va_S.rf
  have hl := lv_entry ([.ref a0, .int i1]) (n := 2) (Nat.le_of_ble_eq_true rfl)
  rw [lg_entry_eq]
  generalize (lg_sl ([.ref a0, .int i1]) ++ List.replicate (2 - (lg_sl ([.ref a0, .int i1])).length) Slot.unset).toArray = ls at hl ⊢
  have hl : lv_has ls 2 [(0, .ref a0), (1, .int i1)] := hl
  unfold f_MacroExpandModel_macro at hrun
  refine lv_iload_n hx hb d_MacroExpandModel_macro_0 rfl (lv_at hl 1 rfl) ?_
  refine lv_iconst (v := (0 : Int32)) hx hb d_MacroExpandModel_macro_1 (by decide) ?_
  refine lv_sipush (v := (199 : Int32)) hx hb d_MacroExpandModel_macro_2 (by decide) ?_
  replace hrun := hb_some hrun
  obtain ⟨v5, g5, hrun⟩ := hrun
  refine h_ci (h_runS S (As := [.int i1, .int (0 : Int32), .int (199 : Int32)]) (rest := []) (c_MacroExpandModel_in l D dA b0 i1 (0 : Int32) (199 : Int32) nx g5) (va_cwS 3 S.2.2.2.2 (h_good _ (h_in3 ml_MacroExpandModel_83 sm_MacroExpandModel_in it_MacroExpandModel) cd_MacroExpandModel_in) rfl rfl rfl (by decide +kernel) ⟨Nat.le_of_ble_eq_true rfl, Nat.le_of_ble_eq_true rfl⟩) hK hN hw rfl hl.1 (lv_room (Nat.le_of_ble_eq_true rfl)) d_MacroExpandModel_macro_5 ⟨Nat.le_refl _, Nat.le_refl _⟩) hS (fun H locs hw hS => ?_)
  refine lv_if_eq (tgt := 20) hx hb d_MacroExpandModel_macro_8 (by decide) (fun c8 => ?_) (fun c8 => ?_)
  · rw [if_pos c8] at hrun
    refine lv_iconst (v := (-1 : Int32)) hx hb d_MacroExpandModel_macro_20 (by decide) ?_
    cases hrun
    exact W.iret hx hb hr (fun t ht hW9 => ⟨⟨_, (), rfl, rfl, by show hW D dA classes b0 _ _ t.heap; rw [ht]; exact hw⟩, hS.F ht⟩) hS.2.2 d_MacroExpandModel_macro_21
  · rw [if_neg c8] at hrun
    refine lv_aload_n hx hb d_MacroExpandModel_macro_11 rfl (lv_at hl 0 rfl) ?_
    replace hrun := hb_some hrun
    obtain ⟨v12, g12, hrun⟩ := hrun
    refine h_getR S (fun w q => hT w (i_MacroExpandModel w q)) hK (ci := 1) rfl 13 (by decide) (hT _ fl_MacroExpandModel_35) hw g12 d_MacroExpandModel_macro_12 ?_
    refine lv_iload_n hx hb d_MacroExpandModel_macro_15 rfl (lv_at hl 1 rfl) ?_
    replace hrun := hb_some hrun
    obtain ⟨p16, rfl, hrun⟩ := hrun
    replace hrun := hb_some hrun
    obtain ⟨v16, g16, hrun⟩ := hrun
    refine h_iald S hK (kd := 0) rfl hw g16 d_MacroExpandModel_macro_16 ?_
    refine lv_goto (tgt := 21) hx hb d_MacroExpandModel_macro_17 (by decide) ?_
    cases hrun
    exact W.iret hx hb hr (fun t ht hW9 => ⟨⟨_, (), rfl, rfl, by show hW D dA classes b0 _ _ t.heap; rw [ht]; exact hw⟩, hS.F ht⟩) hS.2.2 d_MacroExpandModel_macro_21
