set_option maxHeartbeats 4000000 in
set_option maxRecDepth 100000 in
theorem c_MacroExpand_at (l : Launch) (D : va_G) (dA : Nat → ClassId) (b0 : Nat) (a0 : Nat) (i1 : Int32) (nx : Nat) {h : hH} {r : Int32} (hrun : f_MacroExpand_at a0 i1 h = some r) : Met l y_MacroExpand_at w_MacroExpand_at ({ frames := 1, cells := 0, slots := 0, locals := 21 } : Room) (va_Pc [.ref a0, .int i1] (hB D dA b0 nx h)) (va_Qi (fun r' (_ : Unit) => r' = r) (fun (_ : Unit) t => hW D dA classes b0 nx h t.heap) (hA b0)) 0 0 (hA b0) := by
  refine Met.ofW (cc := b_MacroExpand_at) (maxL := 2) (ret := (some .int)) (by decide) rfl ?_
  intro p e s m args below meth c s₁ B hml hv
  obtain ⟨rfl, hw, hK, hN⟩ := hv
  have hx := B.exec
  have hb := B.bytes
  have hr := B.returns
  have hlocks := B.notSynchronized
  have S : CallFix p m c b_MacroExpand_at 2 s ([.ref a0, .int i1] : List Value).toArray w_MacroExpand_at R_MacroExpand := ⟨hx, hb, hml, findClass_of_methodNamed B.named, atoms_spec (ws := w_MacroExpand_at) B.pre⟩
  have hT : ∀ w ∈ tbl, w ∈ w_MacroExpand_at := fun _ q => List.mem_cons_of_mem _ q
  have hS : va_S (hA b0) s.heap s.heap [] := va_S.rf
  have hl := lv_entry ([.ref a0, .int i1]) (n := 2) (Nat.le_of_ble_eq_true rfl)
  rw [lg_entry_eq]
  generalize (lg_sl ([.ref a0, .int i1]) ++ List.replicate (2 - (lg_sl ([.ref a0, .int i1])).length) Slot.unset).toArray = ls at hl ⊢
  have hl : lv_has ls 2 [(0, .ref a0), (1, .int i1)] := hl
  unfold f_MacroExpand_at at hrun
  refine lv_aload_n hx hb d_MacroExpand_at_0 rfl (lv_at hl 0 rfl) ?_
  replace hrun := hb_some hrun
  obtain ⟨v1, g1, hrun⟩ := hrun
  refine h_getR S (fun w q => hT w (i_MacroExpand w q)) hK (ci := 0) rfl 4 (by decide) (hT _ fl_MacroExpand_55) hw g1 d_MacroExpand_at_1 ?_
  replace hrun := hb_some hrun
  obtain ⟨p4, rfl, hrun⟩ := hrun
  replace hrun := hb_some hrun
  obtain ⟨v4, g4, hrun⟩ := hrun
  refine h_getNR S (fun w q => hT w (i_Whole w q)) hK (ci := 11) rfl 4 (by decide) (hN.1 _ nf_MacroExpand_134) hw g4 d_MacroExpand_at_4 ?_
  refine lv_iload_n hx hb d_MacroExpand_at_7 rfl (lv_at hl 1 rfl) ?_
  replace hrun := hb_some hrun
  obtain ⟨p8, rfl, hrun⟩ := hrun
  replace hrun := hb_some hrun
  obtain ⟨c8, k8, hrun⟩ := hrun
  replace hrun := hb_some hrun
  obtain ⟨v8, g8, hrun⟩ := hrun
  refine h_ci (h_runV S (As := [.int i1]) (rest := []) (c_Row_get l D dA b0 p8 i1 nx g8) (cwV 1 S.2.2.2.2 (h_good _ (h_in4 ml_MacroExpand_140 im_Row_get se_Row_get it_Row) cd_Row_get) rfl rfl rfl (by decide +kernel) ⟨Nat.le_of_ble_eq_true rfl, Nat.le_of_ble_eq_true rfl⟩) hK hN hw (ci := 8) rfl k8 rfl hl.1 (lv_room (Nat.le_of_ble_eq_true rfl)) d_MacroExpand_at_8 ⟨Nat.le_refl _, Nat.le_refl _⟩) hS (fun H locs hw hS => ?_)
  cases hrun
  exact W.iret hx hb hr (fun t ht hW9 => ⟨⟨_, (), rfl, rfl, by show hW D dA classes b0 _ _ t.heap; rw [ht]; exact hw⟩, hS.F ht⟩) hS.2.2 d_MacroExpand_at_11
set_option maxHeartbeats 4000000 in
set_option maxRecDepth 100000 in
theorem c_MacroExpand_fault (l : Launch) (D : va_G) (dA : Nat → ClassId) (b0 : Nat) (a0 : Nat) (i1 : Int32) (nx : Nat) {h : hH} {r : Int32} (hrun : f_MacroExpand_fault a0 i1 h = some r) : Met l y_MacroExpand_fault w_MacroExpand_fault ({ frames := 0, cells := 0, slots := 0, locals := 0 } : Room) (va_Pc [.ref a0, .int i1] (hB D dA b0 nx h)) (va_Qi (fun r' (_ : Unit) => r' = r) (fun (_ : Unit) t => hW D dA classes b0 nx h t.heap) (hA b0)) 0 0 (hA b0) := by
  refine Met.ofW (cc := b_MacroExpand_fault) (maxL := 2) (ret := (some .int)) (by decide) rfl ?_
  intro p e s m args below meth c s₁ B hml hv
  obtain ⟨rfl, hw, hK, hN⟩ := hv
  have hx := B.exec
  have hb := B.bytes
  have hr := B.returns
  have hlocks := B.notSynchronized
  have S : CallFix p m c b_MacroExpand_fault 2 s ([.ref a0, .int i1] : List Value).toArray w_MacroExpand_fault R_MacroExpand := ⟨hx, hb, hml, findClass_of_methodNamed B.named, atoms_spec (ws := w_MacroExpand_fault) B.pre⟩
  have hT : ∀ w ∈ tbl, w ∈ w_MacroExpand_fault := fun _ q => List.mem_cons_of_mem _ q
  have hS : va_S (hA b0) s.heap s.heap [] := va_S.rf
  have hl := lv_entry ([.ref a0, .int i1]) (n := 2) (Nat.le_of_ble_eq_true rfl)
  rw [lg_entry_eq]
  generalize (lg_sl ([.ref a0, .int i1]) ++ List.replicate (2 - (lg_sl ([.ref a0, .int i1])).length) Slot.unset).toArray = ls at hl ⊢
  have hl : lv_has ls 2 [(0, .ref a0), (1, .int i1)] := hl
  unfold f_MacroExpand_fault at hrun
  refine lv_iload_n hx hb d_MacroExpand_fault_0 rfl (lv_at hl 1 rfl) ?_
  refine lv_if_ne (tgt := 9) hx hb d_MacroExpand_fault_1 (by decide) (fun c1 => ?_) (fun c1 => ?_)
  · rw [if_neg c1] at hrun
    refine lv_iload_n hx hb d_MacroExpand_fault_9 rfl (lv_at hl 1 rfl) ?_
    refine lv_iconst (v := (1 : Int32)) hx hb d_MacroExpand_fault_10 (by decide) ?_
    refine lv_icmp_ne (tgt := 19) hx hb d_MacroExpand_fault_11 (by decide) (fun c11 => ?_) (fun c11 => ?_)
    · rw [if_neg c11] at hrun
      refine lv_iload_n hx hb d_MacroExpand_fault_19 rfl (lv_at hl 1 rfl) ?_
      refine lv_iconst (v := (2 : Int32)) hx hb d_MacroExpand_fault_20 (by decide) ?_
      refine lv_icmp_ne (tgt := 34) hx hb d_MacroExpand_fault_21 (by decide) (fun c21 => ?_) (fun c21 => ?_)
      · rw [if_neg c21] at hrun
        refine lv_bipush (v := (-2 : Int32)) hx hb d_MacroExpand_fault_34 (by decide) ?_
        cases hrun
        exact W.iret hx hb hr (fun t ht hW9 => ⟨⟨_, (), rfl, rfl, by show hW D dA classes b0 _ _ t.heap; rw [ht]; exact hw⟩, hS.F ht⟩) hS.2.2 d_MacroExpand_fault_36
      · rw [if_pos c21] at hrun
        refine lv_aload_n hx hb d_MacroExpand_fault_24 rfl (lv_at hl 0 rfl) ?_
        replace hrun := hb_some hrun
        obtain ⟨v25, g25, hrun⟩ := hrun
        refine h_getR S (fun w q => hT w (i_MacroExpand w q)) hK (ci := 0) rfl 3 (by decide) (hT _ fl_MacroExpand_46) hw g25 d_MacroExpand_fault_25 ?_
        replace hrun := hb_some hrun
        obtain ⟨p28, rfl, hrun⟩ := hrun
        replace hrun := hb_some hrun
        obtain ⟨v28, g28, hrun⟩ := hrun
        refine h_getNI S (fun w q => hT w (i_Expander w q)) hK (ci := 5) rfl 12 (by decide) (hN.1 _ nf_MacroExpand_144) hw g28 d_MacroExpand_fault_28 ?_
        refine lv_goto (tgt := 36) hx hb d_MacroExpand_fault_31 (by decide) ?_
        cases hrun
        exact W.iret hx hb hr (fun t ht hW9 => ⟨⟨_, (), rfl, rfl, by show hW D dA classes b0 _ _ t.heap; rw [ht]; exact hw⟩, hS.F ht⟩) hS.2.2 d_MacroExpand_fault_36
    · rw [if_pos c11] at hrun
      refine lv_aload_n hx hb d_MacroExpand_fault_14 rfl (lv_at hl 0 rfl) ?_
      replace hrun := hb_some hrun
      obtain ⟨v15, g15, hrun⟩ := hrun
      refine h_getI S (fun w q => hT w (i_MacroExpand w q)) hK (ci := 0) rfl 6 (by decide) (hT _ fl_MacroExpand_63) hw g15 d_MacroExpand_fault_15 ?_
      cases hrun
      exact W.iret hx hb hr (fun t ht hW9 => ⟨⟨_, (), rfl, rfl, by show hW D dA classes b0 _ _ t.heap; rw [ht]; exact hw⟩, hS.F ht⟩) hS.2.2 d_MacroExpand_fault_18
  · rw [if_pos c1] at hrun
    refine lv_aload_n hx hb d_MacroExpand_fault_4 rfl (lv_at hl 0 rfl) ?_
    replace hrun := hb_some hrun
    obtain ⟨v5, g5, hrun⟩ := hrun
    refine h_getI S (fun w q => hT w (i_MacroExpand w q)) hK (ci := 0) rfl 5 (by decide) (hT _ fl_MacroExpand_59) hw g5 d_MacroExpand_fault_5 ?_
    cases hrun
    exact W.iret hx hb hr (fun t ht hW9 => ⟨⟨_, (), rfl, rfl, by show hW D dA classes b0 _ _ t.heap; rw [ht]; exact hw⟩, hS.F ht⟩) hS.2.2 d_MacroExpand_fault_8
set_option maxHeartbeats 4000000 in
set_option maxRecDepth 100000 in
theorem c_Book_openGroup (l : Launch) (D : va_G) (dA : Nat → ClassId) (b0 : Nat) (a0 : Nat) (nx : Nat) {h h' : hH} {r : Int32} (hrun : f_Book_openGroup a0 h = some (r, h')) : Met l y_Book_openGroup w_Book_openGroup ({ frames := 1, cells := 0, slots := 0, locals := 48 } : Room) (va_Pc [.ref a0] (hB D dA b0 nx h)) (va_Qi (fun r' (_ : Unit) => r' = r) (fun (_ : Unit) t => hW D dA classes b0 nx h' t.heap) (hA b0)) 0 0 (hA b0) := by
  refine Met.ofW (cc := b_Book_openGroup) (maxL := 1) (ret := (some .boolean)) (by decide) rfl ?_
  intro p e s m args below meth c s₁ B hml hv
  obtain ⟨rfl, hw, hK, hN⟩ := hv
  have hx := B.exec
  have hb := B.bytes
  have hr := B.returns
  have hlocks := B.notSynchronized
  have S : CallFix p m c b_Book_openGroup 1 s ([.ref a0] : List Value).toArray w_Book_openGroup R_Book := ⟨hx, hb, hml, findClass_of_methodNamed B.named, atoms_spec (ws := w_Book_openGroup) B.pre⟩
  have hT : ∀ w ∈ tbl, w ∈ w_Book_openGroup := fun _ q => List.mem_cons_of_mem _ q
  have hS : va_S (hA b0) s.heap s.heap [] := va_S.rf
  have hl := lv_entry ([.ref a0]) (n := 1) (Nat.le_of_ble_eq_true rfl)
  rw [lg_entry_eq]
  generalize (lg_sl ([.ref a0]) ++ List.replicate (1 - (lg_sl ([.ref a0])).length) Slot.unset).toArray = ls at hl ⊢
  have hl : lv_has ls 1 [(0, .ref a0)] := hl
  unfold f_Book_openGroup at hrun
  refine lv_aload_n hx hb d_Book_openGroup_0 rfl (lv_at hl 0 rfl) ?_
  replace hrun := hb_some hrun
  obtain ⟨v1, g1, hrun⟩ := hrun
  refine h_getI S (fun w q => hT w (i_Book w q)) hK (ci := 3) rfl 4 (by decide) (hT _ fl_Book_36) hw g1 d_Book_openGroup_1 ?_
  refine lv_bipush (v := (20 : Int32)) hx hb d_Book_openGroup_4 (by decide) ?_
  refine lv_icmp_lt (tgt := 11) hx hb d_Book_openGroup_6 (by decide) (fun c6 => ?_) (fun c6 => ?_)
  · rw [if_pos c6] at hrun
    refine lv_aload_n hx hb d_Book_openGroup_11 rfl (lv_at hl 0 rfl) ?_
    replace hrun := hb_some hrun
    obtain ⟨v12, g12, hrun⟩ := hrun
    refine h_getR S (fun w q => hT w (i_Book w q)) hK (ci := 3) rfl 1 (by decide) (hT _ fl_Book_17) hw g12 d_Book_openGroup_12 ?_
    refine lv_iconst (v := (0 : Int32)) hx hb d_Book_openGroup_15 (by decide) ?_
    refine lv_aload_n hx hb d_Book_openGroup_16 rfl (lv_at hl 0 rfl) ?_
    replace hrun := hb_some hrun
    obtain ⟨v17, g17, hrun⟩ := hrun
    refine h_getR S (fun w q => hT w (i_Book w q)) hK (ci := 3) rfl 2 (by decide) (hT _ fl_Book_29) hw g17 d_Book_openGroup_17 ?_
    refine lv_aload_n hx hb d_Book_openGroup_20 rfl (lv_at hl 0 rfl) ?_
    replace hrun := hb_some hrun
    obtain ⟨v21, g21, hrun⟩ := hrun
    refine h_getI S (fun w q => hT w (i_Book w q)) hK (ci := 3) rfl 4 (by decide) (hT _ fl_Book_36) hw g21 d_Book_openGroup_21 ?_
    replace hrun := hb_some hrun
    obtain ⟨p24, rfl, hrun⟩ := hrun
    replace hrun := hb_some hrun
    obtain ⟨v24, g24, hrun⟩ := hrun
    refine h_aaldA S hK (kd := 2) rfl hw g24 d_Book_openGroup_24 ?_
    refine lv_iconst (v := (0 : Int32)) hx hb d_Book_openGroup_25 (by decide) ?_
    refine lv_sipush (v := (200 : Int32)) hx hb d_Book_openGroup_26 (by decide) ?_
    replace hrun := hb_some hrun
    obtain ⟨p29_0, rfl, hrun⟩ := hrun
    replace hrun := hb_some hrun
    obtain ⟨p29_2, rfl, hrun⟩ := hrun
    replace hrun := hb_some hrun
    obtain ⟨h29, g29, hrun⟩ := hrun
    refine h_copyi S hl.1 (hT _ ml_Book_55) (hT _ nt_copy) (hT _ sm_copy) (hT _ it_System) hK (kd := 0) rfl hw hS g29 (Nat.le_of_ble_eq_true rfl) (Nat.le_of_ble_eq_true rfl) d_Book_openGroup_29 (fun H locs hw hS => ?_)
    refine lv_aload_n hx hb d_Book_openGroup_32 rfl (lv_at hl 0 rfl) ?_
    refine lv_dup hx hb d_Book_openGroup_33 rfl ?_
    replace hrun := hb_some hrun
    obtain ⟨v34, g34, hrun⟩ := hrun
    refine h_getI S (fun w q => hT w (i_Book w q)) hK (ci := 3) rfl 4 (by decide) (hT _ fl_Book_36) hw g34 d_Book_openGroup_34 ?_
    refine lv_iconst (v := (1 : Int32)) hx hb d_Book_openGroup_37 (by decide) ?_
    refine lv_iadd hx hb d_Book_openGroup_38 ?_
    replace hrun := hb_some hrun
    obtain ⟨h39, g39, hrun⟩ := hrun
    refine h_put S (fun w q => hT w (i_Book w q)) t_Book t_Book_ok n_Book hK (ci := 3) rfl 4 (by decide) (hT _ fl_Book_36) rfl rfl rfl hw hS g39 d_Book_openGroup_39 (fun H locs hw hS => ?_)
    refine lv_iconst (v := (1 : Int32)) hx hb d_Book_openGroup_42 (by decide) ?_
    cases hrun
    exact W.zret hx hb hr (by decide) (fun t ht hW9 => ⟨⟨_, (), rfl, rfl, by show hW D dA classes b0 _ _ t.heap; rw [ht]; exact hw⟩, hS.F ht⟩) hS.2.2 d_Book_openGroup_43
  · rw [if_neg c6] at hrun
    refine lv_iconst (v := (0 : Int32)) hx hb d_Book_openGroup_9 (by decide) ?_
    cases hrun
    exact W.zret hx hb hr (by decide) (fun t ht hW9 => ⟨⟨_, (), rfl, rfl, by show hW D dA classes b0 _ _ t.heap; rw [ht]; exact hw⟩, hS.F ht⟩) hS.2.2 d_Book_openGroup_10
set_option maxHeartbeats 4000000 in
set_option maxRecDepth 100000 in
theorem c_Book_closeGroup (l : Launch) (D : va_G) (dA : Nat → ClassId) (b0 : Nat) (a0 : Nat) (nx : Nat) {h h' : hH} {r : Int32} (hrun : f_Book_closeGroup a0 h = some (r, h')) : Met l y_Book_closeGroup w_Book_closeGroup ({ frames := 1, cells := 0, slots := 0, locals := 48 } : Room) (va_Pc [.ref a0] (hB D dA b0 nx h)) (va_Qi (fun r' (_ : Unit) => r' = r) (fun (_ : Unit) t => hW D dA classes b0 nx h' t.heap) (hA b0)) 0 0 (hA b0) := by
  refine Met.ofW (cc := b_Book_closeGroup) (maxL := 1) (ret := (some .boolean)) (by decide) rfl ?_
  intro p e s m args below meth c s₁ B hml hv
  obtain ⟨rfl, hw, hK, hN⟩ := hv
  have hx := B.exec
  have hb := B.bytes
  have hr := B.returns
  have hlocks := B.notSynchronized
  have S : CallFix p m c b_Book_closeGroup 1 s ([.ref a0] : List Value).toArray w_Book_closeGroup R_Book := ⟨hx, hb, hml, findClass_of_methodNamed B.named, atoms_spec (ws := w_Book_closeGroup) B.pre⟩
  have hT : ∀ w ∈ tbl, w ∈ w_Book_closeGroup := fun _ q => List.mem_cons_of_mem _ q
  have hS : va_S (hA b0) s.heap s.heap [] := va_S.rf
  have hl := lv_entry ([.ref a0]) (n := 1) (Nat.le_of_ble_eq_true rfl)
  rw [lg_entry_eq]
  generalize (lg_sl ([.ref a0]) ++ List.replicate (1 - (lg_sl ([.ref a0])).length) Slot.unset).toArray = ls at hl ⊢
  have hl : lv_has ls 1 [(0, .ref a0)] := hl
  unfold f_Book_closeGroup at hrun
  refine lv_aload_n hx hb d_Book_closeGroup_0 rfl (lv_at hl 0 rfl) ?_
  replace hrun := hb_some hrun
  obtain ⟨v1, g1, hrun⟩ := hrun
  refine h_getI S (fun w q => hT w (i_Book w q)) hK (ci := 3) rfl 4 (by decide) (hT _ fl_Book_36) hw g1 d_Book_closeGroup_1 ?_
  refine lv_if_gt (tgt := 9) hx hb d_Book_closeGroup_4 (by decide) (fun c4 => ?_) (fun c4 => ?_)
  · rw [if_pos c4] at hrun
    refine lv_aload_n hx hb d_Book_closeGroup_9 rfl (lv_at hl 0 rfl) ?_
    refine lv_dup hx hb d_Book_closeGroup_10 rfl ?_
    replace hrun := hb_some hrun
    obtain ⟨v11, g11, hrun⟩ := hrun
    refine h_getI S (fun w q => hT w (i_Book w q)) hK (ci := 3) rfl 4 (by decide) (hT _ fl_Book_36) hw g11 d_Book_closeGroup_11 ?_
    refine lv_iconst (v := (1 : Int32)) hx hb d_Book_closeGroup_14 (by decide) ?_
    refine lv_isub hx hb d_Book_closeGroup_15 ?_
    replace hrun := hb_some hrun
    obtain ⟨h16, g16, hrun⟩ := hrun
    refine h_put S (fun w q => hT w (i_Book w q)) t_Book t_Book_ok n_Book hK (ci := 3) rfl 4 (by decide) (hT _ fl_Book_36) rfl rfl rfl hw hS g16 d_Book_closeGroup_16 (fun H locs hw hS => ?_)
    refine lv_aload_n hx hb d_Book_closeGroup_19 rfl (lv_at hl 0 rfl) ?_
    replace hrun := hb_some hrun
    obtain ⟨v20, g20, hrun⟩ := hrun
    refine h_getR S (fun w q => hT w (i_Book w q)) hK (ci := 3) rfl 2 (by decide) (hT _ fl_Book_29) hw g20 d_Book_closeGroup_20 ?_
    refine lv_aload_n hx hb d_Book_closeGroup_23 rfl (lv_at hl 0 rfl) ?_
    replace hrun := hb_some hrun
    obtain ⟨v24, g24, hrun⟩ := hrun
    refine h_getI S (fun w q => hT w (i_Book w q)) hK (ci := 3) rfl 4 (by decide) (hT _ fl_Book_36) hw g24 d_Book_closeGroup_24 ?_
    replace hrun := hb_some hrun
    obtain ⟨p27, rfl, hrun⟩ := hrun
    replace hrun := hb_some hrun
    obtain ⟨v27, g27, hrun⟩ := hrun
    refine h_aaldA S hK (kd := 2) rfl hw g27 d_Book_closeGroup_27 ?_
    refine lv_iconst (v := (0 : Int32)) hx hb d_Book_closeGroup_28 (by decide) ?_
    refine lv_aload_n hx hb d_Book_closeGroup_29 rfl (lv_at hl 0 rfl) ?_
    replace hrun := hb_some hrun
    obtain ⟨v30, g30, hrun⟩ := hrun
    refine h_getR S (fun w q => hT w (i_Book w q)) hK (ci := 3) rfl 1 (by decide) (hT _ fl_Book_17) hw g30 d_Book_closeGroup_30 ?_
    refine lv_iconst (v := (0 : Int32)) hx hb d_Book_closeGroup_33 (by decide) ?_
    refine lv_sipush (v := (200 : Int32)) hx hb d_Book_closeGroup_34 (by decide) ?_
    replace hrun := hb_some hrun
    obtain ⟨p37_0, rfl, hrun⟩ := hrun
    replace hrun := hb_some hrun
    obtain ⟨p37_2, rfl, hrun⟩ := hrun
    replace hrun := hb_some hrun
    obtain ⟨h37, g37, hrun⟩ := hrun
    refine h_copyi S hl.1 (hT _ ml_Book_55) (hT _ nt_copy) (hT _ sm_copy) (hT _ it_System) hK (kd := 0) rfl hw hS g37 (Nat.le_of_ble_eq_true rfl) (Nat.le_of_ble_eq_true rfl) d_Book_closeGroup_37 (fun H locs hw hS => ?_)
    refine lv_iconst (v := (1 : Int32)) hx hb d_Book_closeGroup_40 (by decide) ?_
    cases hrun
    exact W.zret hx hb hr (by decide) (fun t ht hW9 => ⟨⟨_, (), rfl, rfl, by show hW D dA classes b0 _ _ t.heap; rw [ht]; exact hw⟩, hS.F ht⟩) hS.2.2 d_Book_closeGroup_41
  · rw [if_neg c4] at hrun
    refine lv_iconst (v := (0 : Int32)) hx hb d_Book_closeGroup_7 (by decide) ?_
    cases hrun
    exact W.zret hx hb hr (by decide) (fun t ht hW9 => ⟨⟨_, (), rfl, rfl, by show hW D dA classes b0 _ _ t.heap; rw [ht]; exact hw⟩, hS.F ht⟩) hS.2.2 d_Book_closeGroup_8
set_option maxHeartbeats 4000000 in
set_option maxRecDepth 100000 in
theorem c_MacroExpand_group (l : Launch) (D : va_G) (dA : Nat → ClassId) (b0 : Nat) (a0 : Nat) (i1 : Int32) (nx : Nat) {h h' : hH} {r : Int32} (hrun : f_MacroExpand_group a0 i1 h = some (r, h')) : Met l y_MacroExpand_group w_MacroExpand_group ({ frames := 2, cells := 0, slots := 0, locals := 68 } : Room) (va_Pc [.ref a0, .int i1] (hB D dA b0 nx h)) (va_Qi (fun r' (_ : Unit) => r' = r) (fun (_ : Unit) t => hW D dA classes b0 nx h' t.heap) (hA b0)) 0 0 (hA b0) := by
  refine Met.ofW (cc := b_MacroExpand_group) (maxL := 2) (ret := (some .int)) (by decide) rfl ?_
  intro p e s m args below meth c s₁ B hml hv
  obtain ⟨rfl, hw, hK, hN⟩ := hv
  have hx := B.exec
  have hb := B.bytes
  have hr := B.returns
  have hlocks := B.notSynchronized
  have S : CallFix p m c b_MacroExpand_group 2 s ([.ref a0, .int i1] : List Value).toArray w_MacroExpand_group R_MacroExpand := ⟨hx, hb, hml, findClass_of_methodNamed B.named, atoms_spec (ws := w_MacroExpand_group) B.pre⟩
  have hT : ∀ w ∈ tbl, w ∈ w_MacroExpand_group := fun _ q => List.mem_cons_of_mem _ q
  have hS : va_S (hA b0) s.heap s.heap [] := va_S.rf
  have hl := lv_entry ([.ref a0, .int i1]) (n := 2) (Nat.le_of_ble_eq_true rfl)
  rw [lg_entry_eq]
  generalize (lg_sl ([.ref a0, .int i1]) ++ List.replicate (2 - (lg_sl ([.ref a0, .int i1])).length) Slot.unset).toArray = ls at hl ⊢
  have hl : lv_has ls 2 [(0, .ref a0), (1, .int i1)] := hl
  unfold f_MacroExpand_group at hrun
  refine lv_iload_n hx hb d_MacroExpand_group_0 rfl (lv_at hl 1 rfl) ?_
  refine lv_if_eq (tgt := 27) hx hb d_MacroExpand_group_1 (by decide) (fun c1 => ?_) (fun c1 => ?_)
  · rw [if_pos c1] at hrun
    refine lv_aload_n hx hb d_MacroExpand_group_27 rfl (lv_at hl 0 rfl) ?_
    replace hrun := hb_some hrun
    obtain ⟨v28, g28, hrun⟩ := hrun
    refine h_getR S (fun w q => hT w (i_MacroExpand w q)) hK (ci := 0) rfl 0 (by decide) (hT _ fl_MacroExpand_23) hw g28 d_MacroExpand_group_28 ?_
    replace hrun := hb_some hrun
    obtain ⟨p31, rfl, hrun⟩ := hrun
    replace hrun := hb_some hrun
    obtain ⟨c31, k31, hrun⟩ := hrun
    replace hrun := hbW_some hrun
    obtain ⟨v31, h31, g31, hrun⟩ := hrun
    refine h_ci (h_runV S (As := []) (rest := []) (c_Book_closeGroup l D dA b0 p31 nx g31) (cwV 0 S.2.2.2.2 (h_good _ (h_in4 ml_MacroExpand_153 im_Book_closeGroup se_Book_closeGroup it_Book) cd_Book_closeGroup) rfl rfl rfl (by decide +kernel) ⟨Nat.le_of_ble_eq_true rfl, Nat.le_of_ble_eq_true rfl⟩) hK hN hw (ci := 3) rfl k31 rfl hl.1 (lv_room (Nat.le_of_ble_eq_true rfl)) d_MacroExpand_group_31 ⟨Nat.le_refl _, Nat.le_refl _⟩) hS (fun H locs hw hS => ?_)
    refine lv_if_eq (tgt := 47) hx hb d_MacroExpand_group_34 (by decide) (fun c34 => ?_) (fun c34 => ?_)
    · rw [if_pos c34] at hrun
      refine lv_bipush (v := (-3 : Int32)) hx hb d_MacroExpand_group_47 (by decide) ?_
      cases hrun
      exact W.iret hx hb hr (fun t ht hW9 => ⟨⟨_, (), rfl, rfl, by show hW D dA classes b0 _ _ t.heap; rw [ht]; exact hw⟩, hS.F ht⟩) hS.2.2 d_MacroExpand_group_49
    · rw [if_neg c34] at hrun
      refine lv_aload_n hx hb d_MacroExpand_group_37 rfl (lv_at hl 0 rfl) ?_
      replace hrun := hb_some hrun
      obtain ⟨v38, g38, hrun⟩ := hrun
      refine h_getR S (fun w q => hT w (i_MacroExpand w q)) hK (ci := 0) rfl 0 (by decide) (hT _ fl_MacroExpand_23) hw g38 d_MacroExpand_group_38 ?_
      replace hrun := hb_some hrun
      obtain ⟨p41, rfl, hrun⟩ := hrun
      replace hrun := hb_some hrun
      obtain ⟨v41, g41, hrun⟩ := hrun
      refine h_getNI S (fun w q => hT w (i_Book w q)) hK (ci := 3) rfl 4 (by decide) (hN.1 _ nf_MacroExpand_150) hw g41 d_MacroExpand_group_41 ?_
      refine lv_goto (tgt := 49) hx hb d_MacroExpand_group_44 (by decide) ?_
      cases hrun
      exact W.iret hx hb hr (fun t ht hW9 => ⟨⟨_, (), rfl, rfl, by show hW D dA classes b0 _ _ t.heap; rw [ht]; exact hw⟩, hS.F ht⟩) hS.2.2 d_MacroExpand_group_49
  · rw [if_neg c1] at hrun
    refine lv_aload_n hx hb d_MacroExpand_group_4 rfl (lv_at hl 0 rfl) ?_
    replace hrun := hb_some hrun
    obtain ⟨v5, g5, hrun⟩ := hrun
    refine h_getR S (fun w q => hT w (i_MacroExpand w q)) hK (ci := 0) rfl 0 (by decide) (hT _ fl_MacroExpand_23) hw g5 d_MacroExpand_group_5 ?_
    replace hrun := hb_some hrun
    obtain ⟨p8, rfl, hrun⟩ := hrun
    replace hrun := hb_some hrun
    obtain ⟨c8, k8, hrun⟩ := hrun
    replace hrun := hbW_some hrun
    obtain ⟨v8, h8, g8, hrun⟩ := hrun
    refine h_ci (h_runV S (As := []) (rest := []) (c_Book_openGroup l D dA b0 p8 nx g8) (cwV 0 S.2.2.2.2 (h_good _ (h_in4 ml_MacroExpand_147 im_Book_openGroup se_Book_openGroup it_Book) cd_Book_openGroup) rfl rfl rfl (by decide +kernel) ⟨Nat.le_of_ble_eq_true rfl, Nat.le_of_ble_eq_true rfl⟩) hK hN hw (ci := 3) rfl k8 rfl hl.1 (lv_room (Nat.le_of_ble_eq_true rfl)) d_MacroExpand_group_8 ⟨Nat.le_refl _, Nat.le_refl _⟩) hS (fun H locs hw hS => ?_)
    refine lv_if_eq (tgt := 24) hx hb d_MacroExpand_group_11 (by decide) (fun c11 => ?_) (fun c11 => ?_)
    · rw [if_pos c11] at hrun
      refine lv_bipush (v := (-4 : Int32)) hx hb d_MacroExpand_group_24 (by decide) ?_
      cases hrun
      exact W.iret hx hb hr (fun t ht hW9 => ⟨⟨_, (), rfl, rfl, by show hW D dA classes b0 _ _ t.heap; rw [ht]; exact hw⟩, hS.F ht⟩) hS.2.2 d_MacroExpand_group_26
    · rw [if_neg c11] at hrun
      refine lv_aload_n hx hb d_MacroExpand_group_14 rfl (lv_at hl 0 rfl) ?_
      replace hrun := hb_some hrun
      obtain ⟨v15, g15, hrun⟩ := hrun
      refine h_getR S (fun w q => hT w (i_MacroExpand w q)) hK (ci := 0) rfl 0 (by decide) (hT _ fl_MacroExpand_23) hw g15 d_MacroExpand_group_15 ?_
      replace hrun := hb_some hrun
      obtain ⟨p18, rfl, hrun⟩ := hrun
      replace hrun := hb_some hrun
      obtain ⟨v18, g18, hrun⟩ := hrun
      refine h_getNI S (fun w q => hT w (i_Book w q)) hK (ci := 3) rfl 4 (by decide) (hN.1 _ nf_MacroExpand_150) hw g18 d_MacroExpand_group_18 ?_
      refine lv_goto (tgt := 26) hx hb d_MacroExpand_group_21 (by decide) ?_
      cases hrun
      exact W.iret hx hb hr (fun t ht hW9 => ⟨⟨_, (), rfl, rfl, by show hW D dA classes b0 _ _ t.heap; rw [ht]; exact hw⟩, hS.F ht⟩) hS.2.2 d_MacroExpand_group_26
set_option maxHeartbeats 4000000 in
set_option maxRecDepth 100000 in
theorem c_Spelling_lengthOf (l : Launch) (D : va_G) (dA : Nat → ClassId) (b0 : Nat) (a0 : Nat) (i1 : Int32) (nx : Nat) {h : hH} {r : Int32} (hrun : f_Spelling_lengthOf a0 i1 h = some r) : Met l y_Spelling_lengthOf w_Spelling_lengthOf ({ frames := 0, cells := 0, slots := 0, locals := 0 } : Room) (va_Pc [.ref a0, .int i1] (hB D dA b0 nx h)) (va_Qi (fun r' (_ : Unit) => r' = r) (fun (_ : Unit) t => hW D dA classes b0 nx h t.heap) (hA b0)) 0 0 (hA b0) := by
  refine Met.ofW (cc := b_Spelling_lengthOf) (maxL := 2) (ret := (some .int)) (by decide) rfl ?_
  intro p e s m args below meth c s₁ B hml hv
  obtain ⟨rfl, hw, hK, hN⟩ := hv
  have hx := B.exec
  have hb := B.bytes
  have hr := B.returns
  have hlocks := B.notSynchronized
  have S : CallFix p m c b_Spelling_lengthOf 2 s ([.ref a0, .int i1] : List Value).toArray w_Spelling_lengthOf R_Spelling := ⟨hx, hb, hml, findClass_of_methodNamed B.named, atoms_spec (ws := w_Spelling_lengthOf) B.pre⟩
  have hT : ∀ w ∈ tbl, w ∈ w_Spelling_lengthOf := fun _ q => List.mem_cons_of_mem _ q
  have hS : va_S (hA b0) s.heap s.heap [] := va_S.rf
  have hl := lv_entry ([.ref a0, .int i1]) (n := 2) (Nat.le_of_ble_eq_true rfl)
  rw [lg_entry_eq]
  generalize (lg_sl ([.ref a0, .int i1]) ++ List.replicate (2 - (lg_sl ([.ref a0, .int i1])).length) Slot.unset).toArray = ls at hl ⊢
  have hl : lv_has ls 2 [(0, .ref a0), (1, .int i1)] := hl
  unfold f_Spelling_lengthOf at hrun
  refine lv_iload_n hx hb d_Spelling_lengthOf_0 rfl (lv_at hl 1 rfl) ?_
  refine lv_if_lt (tgt := 30) hx hb d_Spelling_lengthOf_1 (by decide) (fun c1 => ?_) (fun c1 => ?_)
  · rw [if_pos c1] at hrun
    refine lv_iconst (v := (-1 : Int32)) hx hb d_Spelling_lengthOf_30 (by decide) ?_
    cases hrun
    exact W.iret hx hb hr (fun t ht hW9 => ⟨⟨_, (), rfl, rfl, by show hW D dA classes b0 _ _ t.heap; rw [ht]; exact hw⟩, hS.F ht⟩) hS.2.2 d_Spelling_lengthOf_31
  · rw [if_neg c1] at hrun
    refine lv_iload_n hx hb d_Spelling_lengthOf_4 rfl (lv_at hl 1 rfl) ?_
    refine lv_aload_n hx hb d_Spelling_lengthOf_5 rfl (lv_at hl 0 rfl) ?_
    replace hrun := hb_some hrun
    obtain ⟨v6, g6, hrun⟩ := hrun
    refine h_getI S (fun w q => hT w (i_Spelling w q)) hK (ci := 9) rfl 2 (by decide) (hT _ fl_Spelling_18) hw g6 d_Spelling_lengthOf_6 ?_
    refine lv_icmp_ge (tgt := 30) hx hb d_Spelling_lengthOf_9 (by decide) (fun c9 => ?_) (fun c9 => ?_)
    · rw [if_pos c9] at hrun
      refine lv_iconst (v := (-1 : Int32)) hx hb d_Spelling_lengthOf_30 (by decide) ?_
      cases hrun
      exact W.iret hx hb hr (fun t ht hW9 => ⟨⟨_, (), rfl, rfl, by show hW D dA classes b0 _ _ t.heap; rw [ht]; exact hw⟩, hS.F ht⟩) hS.2.2 d_Spelling_lengthOf_31
    · rw [if_neg c9] at hrun
      refine lv_iload_n hx hb d_Spelling_lengthOf_12 rfl (lv_at hl 1 rfl) ?_
      refine lv_aload_n hx hb d_Spelling_lengthOf_13 rfl (lv_at hl 0 rfl) ?_
      replace hrun := hb_some hrun
      obtain ⟨v14, g14, hrun⟩ := hrun
      refine h_getR S (fun w q => hT w (i_Spelling w q)) hK (ci := 9) rfl 1 (by decide) (hT _ fl_Spelling_15) hw g14 d_Spelling_lengthOf_14 ?_
      replace hrun := hb_some hrun
      obtain ⟨p17, rfl, hrun⟩ := hrun
      replace hrun := hb_some hrun
      obtain ⟨v17, g17, hrun⟩ := hrun
      refine h_alen S hK (kd := 0) rfl hw g17 d_Spelling_lengthOf_17 ?_
      refine lv_icmp_ge (tgt := 30) hx hb d_Spelling_lengthOf_18 (by decide) (fun c18 => ?_) (fun c18 => ?_)
      · rw [if_pos c18] at hrun
        refine lv_iconst (v := (-1 : Int32)) hx hb d_Spelling_lengthOf_30 (by decide) ?_
        cases hrun
        exact W.iret hx hb hr (fun t ht hW9 => ⟨⟨_, (), rfl, rfl, by show hW D dA classes b0 _ _ t.heap; rw [ht]; exact hw⟩, hS.F ht⟩) hS.2.2 d_Spelling_lengthOf_31
      · rw [if_neg c18] at hrun
        refine lv_aload_n hx hb d_Spelling_lengthOf_21 rfl (lv_at hl 0 rfl) ?_
        replace hrun := hb_some hrun
        obtain ⟨v22, g22, hrun⟩ := hrun
        refine h_getR S (fun w q => hT w (i_Spelling w q)) hK (ci := 9) rfl 1 (by decide) (hT _ fl_Spelling_15) hw g22 d_Spelling_lengthOf_22 ?_
        refine lv_iload_n hx hb d_Spelling_lengthOf_25 rfl (lv_at hl 1 rfl) ?_
        replace hrun := hb_some hrun
        obtain ⟨p26, rfl, hrun⟩ := hrun
        replace hrun := hb_some hrun
        obtain ⟨v26, g26, hrun⟩ := hrun
        refine h_iald S hK (kd := 0) rfl hw g26 d_Spelling_lengthOf_26 ?_
        refine lv_goto (tgt := 31) hx hb d_Spelling_lengthOf_27 (by decide) ?_
        cases hrun
        exact W.iret hx hb hr (fun t ht hW9 => ⟨⟨_, (), rfl, rfl, by show hW D dA classes b0 _ _ t.heap; rw [ht]; exact hw⟩, hS.F ht⟩) hS.2.2 d_Spelling_lengthOf_31
set_option maxHeartbeats 4000000 in
set_option maxRecDepth 100000 in
theorem c_MacroExpand_named (l : Launch) (D : va_G) (dA : Nat → ClassId) (b0 : Nat) (a0 : Nat) (i1 : Int32) (nx : Nat) {h : hH} {r : Int32} (hrun : f_MacroExpand_named a0 i1 h = some r) : Met l y_MacroExpand_named w_MacroExpand_named ({ frames := 1, cells := 0, slots := 0, locals := 21 } : Room) (va_Pc [.ref a0, .int i1] (hB D dA b0 nx h)) (va_Qi (fun r' (_ : Unit) => r' = r) (fun (_ : Unit) t => hW D dA classes b0 nx h t.heap) (hA b0)) 0 0 (hA b0) := by
  refine Met.ofW (cc := b_MacroExpand_named) (maxL := 2) (ret := (some .int)) (by decide) rfl ?_
  intro p e s m args below meth c s₁ B hml hv
  obtain ⟨rfl, hw, hK, hN⟩ := hv
  have hx := B.exec
  have hb := B.bytes
  have hr := B.returns
  have hlocks := B.notSynchronized
  have S : CallFix p m c b_MacroExpand_named 2 s ([.ref a0, .int i1] : List Value).toArray w_MacroExpand_named R_MacroExpand := ⟨hx, hb, hml, findClass_of_methodNamed B.named, atoms_spec (ws := w_MacroExpand_named) B.pre⟩
  have hT : ∀ w ∈ tbl, w ∈ w_MacroExpand_named := fun _ q => List.mem_cons_of_mem _ q
  have hS : va_S (hA b0) s.heap s.heap [] := va_S.rf
  have hl := lv_entry ([.ref a0, .int i1]) (n := 2) (Nat.le_of_ble_eq_true rfl)
  rw [lg_entry_eq]
  generalize (lg_sl ([.ref a0, .int i1]) ++ List.replicate (2 - (lg_sl ([.ref a0, .int i1])).length) Slot.unset).toArray = ls at hl ⊢
  have hl : lv_has ls 2 [(0, .ref a0), (1, .int i1)] := hl
  unfold f_MacroExpand_named at hrun
  refine lv_iload_n hx hb d_MacroExpand_named_0 rfl (lv_at hl 1 rfl) ?_
  refine lv_iconst (v := (-1 : Int32)) hx hb d_MacroExpand_named_1 (by decide) ?_
  refine lv_icmp_ne (tgt := 15) hx hb d_MacroExpand_named_2 (by decide) (fun c2 => ?_) (fun c2 => ?_)
  · rw [if_neg c2] at hrun
    refine lv_aload_n hx hb d_MacroExpand_named_15 rfl (lv_at hl 0 rfl) ?_
    replace hrun := hb_some hrun
    obtain ⟨v16, g16, hrun⟩ := hrun
    refine h_getR S (fun w q => hT w (i_MacroExpand w q)) hK (ci := 0) rfl 1 (by decide) (hT _ fl_MacroExpand_30) hw g16 d_MacroExpand_named_16 ?_
    refine lv_iload_n hx hb d_MacroExpand_named_19 rfl (lv_at hl 1 rfl) ?_
    replace hrun := hb_some hrun
    obtain ⟨p20, rfl, hrun⟩ := hrun
    replace hrun := hb_some hrun
    obtain ⟨c20, k20, hrun⟩ := hrun
    replace hrun := hb_some hrun
    obtain ⟨v20, g20, hrun⟩ := hrun
    refine h_ci (h_runV S (As := [.int i1]) (rest := []) (c_Spelling_lengthOf l D dA b0 p20 i1 nx g20) (cwV 1 S.2.2.2.2 (h_good _ (h_in4 ml_MacroExpand_159 im_Spelling_lengthOf se_Spelling_lengthOf it_Spelling) cd_Spelling_lengthOf) rfl rfl rfl (by decide +kernel) ⟨Nat.le_of_ble_eq_true rfl, Nat.le_of_ble_eq_true rfl⟩) hK hN hw (ci := 9) rfl k20 rfl hl.1 (lv_room (Nat.le_of_ble_eq_true rfl)) d_MacroExpand_named_20 ⟨Nat.le_refl _, Nat.le_refl _⟩) hS (fun H locs hw hS => ?_)
    cases hrun
    exact W.iret hx hb hr (fun t ht hW9 => ⟨⟨_, (), rfl, rfl, by show hW D dA classes b0 _ _ t.heap; rw [ht]; exact hw⟩, hS.F ht⟩) hS.2.2 d_MacroExpand_named_23
  · rw [if_pos c2] at hrun
    refine lv_aload_n hx hb d_MacroExpand_named_5 rfl (lv_at hl 0 rfl) ?_
    replace hrun := hb_some hrun
    obtain ⟨v6, g6, hrun⟩ := hrun
    refine h_getR S (fun w q => hT w (i_MacroExpand w q)) hK (ci := 0) rfl 1 (by decide) (hT _ fl_MacroExpand_30) hw g6 d_MacroExpand_named_6 ?_
    replace hrun := hb_some hrun
    obtain ⟨p9, rfl, hrun⟩ := hrun
    replace hrun := hb_some hrun
    obtain ⟨v9, g9, hrun⟩ := hrun
    refine h_getNI S (fun w q => hT w (i_Spelling w q)) hK (ci := 9) rfl 2 (by decide) (hN.1 _ nf_MacroExpand_156) hw g9 d_MacroExpand_named_9 ?_
    refine lv_goto (tgt := 23) hx hb d_MacroExpand_named_12 (by decide) ?_
    cases hrun
    exact W.iret hx hb hr (fun t ht hW9 => ⟨⟨_, (), rfl, rfl, by show hW D dA classes b0 _ _ t.heap; rw [ht]; exact hw⟩, hS.F ht⟩) hS.2.2 d_MacroExpand_named_23
set_option maxHeartbeats 4000000 in
set_option maxRecDepth 100000 in
theorem c_Trace_get (l : Launch) (D : va_G) (dA : Nat → ClassId) (b0 : Nat) (a0 : Nat) (i1 : Int32) (i2 : Int32) (nx : Nat) {h : hH} {r : Int32} (hrun : f_Trace_get a0 i1 i2 h = some r) : Met l y_Trace_get w_Trace_get ({ frames := 0, cells := 0, slots := 0, locals := 0 } : Room) (va_Pc [.ref a0, .int i1, .int i2] (hB D dA b0 nx h)) (va_Qi (fun r' (_ : Unit) => r' = r) (fun (_ : Unit) t => hW D dA classes b0 nx h t.heap) (hA b0)) 0 0 (hA b0) := by
  refine Met.ofW (cc := b_Trace_get) (maxL := 3) (ret := (some .int)) (by decide) rfl ?_
  intro p e s m args below meth c s₁ B hml hv
  obtain ⟨rfl, hw, hK, hN⟩ := hv
  have hx := B.exec
  have hb := B.bytes
  have hr := B.returns
  have hlocks := B.notSynchronized
  have S : CallFix p m c b_Trace_get 3 s ([.ref a0, .int i1, .int i2] : List Value).toArray w_Trace_get R_Trace := ⟨hx, hb, hml, findClass_of_methodNamed B.named, atoms_spec (ws := w_Trace_get) B.pre⟩
  have hT : ∀ w ∈ tbl, w ∈ w_Trace_get := fun _ q => List.mem_cons_of_mem _ q
  have hS : va_S (hA b0) s.heap s.heap [] := va_S.rf
  have hl := lv_entry ([.ref a0, .int i1, .int i2]) (n := 3) (Nat.le_of_ble_eq_true rfl)
  rw [lg_entry_eq]
  generalize (lg_sl ([.ref a0, .int i1, .int i2]) ++ List.replicate (3 - (lg_sl ([.ref a0, .int i1, .int i2])).length) Slot.unset).toArray = ls at hl ⊢
  have hl : lv_has ls 3 [(0, .ref a0), (1, .int i1), (2, .int i2)] := hl
  unfold f_Trace_get at hrun
  refine lv_iload_n hx hb d_Trace_get_0 rfl (lv_at hl 1 rfl) ?_
  refine lv_if_lt (tgt := 18) hx hb d_Trace_get_1 (by decide) (fun c1 => ?_) (fun c1 => ?_)
  · rw [if_pos c1] at hrun
    refine lv_iconst (v := (-1 : Int32)) hx hb d_Trace_get_18 (by decide) ?_
    cases hrun
    exact W.iret hx hb hr (fun t ht hW9 => ⟨⟨_, (), rfl, rfl, by show hW D dA classes b0 _ _ t.heap; rw [ht]; exact hw⟩, hS.F ht⟩) hS.2.2 d_Trace_get_19
  · rw [if_neg c1] at hrun
    refine lv_iload_n hx hb d_Trace_get_4 rfl (lv_at hl 1 rfl) ?_
    refine lv_aload_n hx hb d_Trace_get_5 rfl (lv_at hl 0 rfl) ?_
    replace hrun := hb_some hrun
    obtain ⟨v6, g6, hrun⟩ := hrun
    refine h_getI S (fun w q => hT w (i_Trace w q)) hK (ci := 10) rfl 3 (by decide) (hT _ fl_Trace_21) hw g6 d_Trace_get_6 ?_
    refine lv_icmp_ge (tgt := 18) hx hb d_Trace_get_9 (by decide) (fun c9 => ?_) (fun c9 => ?_)
    · rw [if_pos c9] at hrun
      refine lv_iconst (v := (-1 : Int32)) hx hb d_Trace_get_18 (by decide) ?_
      cases hrun
      exact W.iret hx hb hr (fun t ht hW9 => ⟨⟨_, (), rfl, rfl, by show hW D dA classes b0 _ _ t.heap; rw [ht]; exact hw⟩, hS.F ht⟩) hS.2.2 d_Trace_get_19
    · rw [if_neg c9] at hrun
      refine lv_iload_n hx hb d_Trace_get_12 rfl (lv_at hl 1 rfl) ?_
      refine lv_bipush (v := (100 : Int32)) hx hb d_Trace_get_13 (by decide) ?_
      refine lv_icmp_lt (tgt := 20) hx hb d_Trace_get_15 (by decide) (fun c15 => ?_) (fun c15 => ?_)
      · rw [if_pos c15] at hrun
        refine lv_iload_n hx hb d_Trace_get_20 rfl (lv_at hl 2 rfl) ?_
        refine lv_if_ne (tgt := 31) hx hb d_Trace_get_21 (by decide) (fun c21 => ?_) (fun c21 => ?_)
        · rw [if_neg c21] at hrun
          refine lv_iload_n hx hb d_Trace_get_31 rfl (lv_at hl 2 rfl) ?_
          refine lv_iconst (v := (1 : Int32)) hx hb d_Trace_get_32 (by decide) ?_
          refine lv_icmp_ne (tgt := 43) hx hb d_Trace_get_33 (by decide) (fun c33 => ?_) (fun c33 => ?_)
          · rw [if_neg c33] at hrun
            refine lv_iload_n hx hb d_Trace_get_43 rfl (lv_at hl 2 rfl) ?_
            refine lv_iconst (v := (2 : Int32)) hx hb d_Trace_get_44 (by decide) ?_
            refine lv_icmp_ne (tgt := 57) hx hb d_Trace_get_45 (by decide) (fun c45 => ?_) (fun c45 => ?_)
            · rw [if_neg c45] at hrun
              refine lv_iconst (v := (-1 : Int32)) hx hb d_Trace_get_57 (by decide) ?_
              cases hrun
              exact W.iret hx hb hr (fun t ht hW9 => ⟨⟨_, (), rfl, rfl, by show hW D dA classes b0 _ _ t.heap; rw [ht]; exact hw⟩, hS.F ht⟩) hS.2.2 d_Trace_get_58
            · rw [if_pos c45] at hrun
              refine lv_aload_n hx hb d_Trace_get_48 rfl (lv_at hl 0 rfl) ?_
              replace hrun := hb_some hrun
              obtain ⟨v49, g49, hrun⟩ := hrun
              refine h_getR S (fun w q => hT w (i_Trace w q)) hK (ci := 10) rfl 2 (by decide) (hT _ fl_Trace_18) hw g49 d_Trace_get_49 ?_
              refine lv_iload_n hx hb d_Trace_get_52 rfl (lv_at hl 1 rfl) ?_
              replace hrun := hb_some hrun
              obtain ⟨p53, rfl, hrun⟩ := hrun
              replace hrun := hb_some hrun
              obtain ⟨v53, g53, hrun⟩ := hrun
              refine h_iald S hK (kd := 0) rfl hw g53 d_Trace_get_53 ?_
              refine lv_goto (tgt := 58) hx hb d_Trace_get_54 (by decide) ?_
              cases hrun
              exact W.iret hx hb hr (fun t ht hW9 => ⟨⟨_, (), rfl, rfl, by show hW D dA classes b0 _ _ t.heap; rw [ht]; exact hw⟩, hS.F ht⟩) hS.2.2 d_Trace_get_58
          · rw [if_pos c33] at hrun
            refine lv_aload_n hx hb d_Trace_get_36 rfl (lv_at hl 0 rfl) ?_
            replace hrun := hb_some hrun
            obtain ⟨v37, g37, hrun⟩ := hrun
            refine h_getR S (fun w q => hT w (i_Trace w q)) hK (ci := 10) rfl 1 (by decide) (hT _ fl_Trace_15) hw g37 d_Trace_get_37 ?_
            refine lv_iload_n hx hb d_Trace_get_40 rfl (lv_at hl 1 rfl) ?_
            replace hrun := hb_some hrun
            obtain ⟨p41, rfl, hrun⟩ := hrun
            replace hrun := hb_some hrun
            obtain ⟨v41, g41, hrun⟩ := hrun
            refine h_iald S hK (kd := 0) rfl hw g41 d_Trace_get_41 ?_
            cases hrun
            exact W.iret hx hb hr (fun t ht hW9 => ⟨⟨_, (), rfl, rfl, by show hW D dA classes b0 _ _ t.heap; rw [ht]; exact hw⟩, hS.F ht⟩) hS.2.2 d_Trace_get_42
        · rw [if_pos c21] at hrun
          refine lv_aload_n hx hb d_Trace_get_24 rfl (lv_at hl 0 rfl) ?_
          replace hrun := hb_some hrun
          obtain ⟨v25, g25, hrun⟩ := hrun
          refine h_getR S (fun w q => hT w (i_Trace w q)) hK (ci := 10) rfl 0 (by decide) (hT _ fl_Trace_9) hw g25 d_Trace_get_25 ?_
          refine lv_iload_n hx hb d_Trace_get_28 rfl (lv_at hl 1 rfl) ?_
          replace hrun := hb_some hrun
          obtain ⟨p29, rfl, hrun⟩ := hrun
          replace hrun := hb_some hrun
          obtain ⟨v29, g29, hrun⟩ := hrun
          refine h_iald S hK (kd := 0) rfl hw g29 d_Trace_get_29 ?_
          cases hrun
          exact W.iret hx hb hr (fun t ht hW9 => ⟨⟨_, (), rfl, rfl, by show hW D dA classes b0 _ _ t.heap; rw [ht]; exact hw⟩, hS.F ht⟩) hS.2.2 d_Trace_get_30
      · rw [if_neg c15] at hrun
        refine lv_iconst (v := (-1 : Int32)) hx hb d_Trace_get_18 (by decide) ?_
        cases hrun
        exact W.iret hx hb hr (fun t ht hW9 => ⟨⟨_, (), rfl, rfl, by show hW D dA classes b0 _ _ t.heap; rw [ht]; exact hw⟩, hS.F ht⟩) hS.2.2 d_Trace_get_19
set_option maxHeartbeats 4000000 in
set_option maxRecDepth 100000 in
theorem c_MacroExpand_traced (l : Launch) (D : va_G) (dA : Nat → ClassId) (b0 : Nat) (a0 : Nat) (i1 : Int32) (i2 : Int32) (nx : Nat) {h : hH} {r : Int32} (hrun : f_MacroExpand_traced a0 i1 i2 h = some r) : Met l y_MacroExpand_traced w_MacroExpand_traced ({ frames := 1, cells := 0, slots := 0, locals := 22 } : Room) (va_Pc [.ref a0, .int i1, .int i2] (hB D dA b0 nx h)) (va_Qi (fun r' (_ : Unit) => r' = r) (fun (_ : Unit) t => hW D dA classes b0 nx h t.heap) (hA b0)) 0 0 (hA b0) := by
  refine Met.ofW (cc := b_MacroExpand_traced) (maxL := 3) (ret := (some .int)) (by decide) rfl ?_
  intro p e s m args below meth c s₁ B hml hv
  obtain ⟨rfl, hw, hK, hN⟩ := hv
  have hx := B.exec
  have hb := B.bytes
  have hr := B.returns
  have hlocks := B.notSynchronized
  have S : CallFix p m c b_MacroExpand_traced 3 s ([.ref a0, .int i1, .int i2] : List Value).toArray w_MacroExpand_traced R_MacroExpand := ⟨hx, hb, hml, findClass_of_methodNamed B.named, atoms_spec (ws := w_MacroExpand_traced) B.pre⟩
  have hT : ∀ w ∈ tbl, w ∈ w_MacroExpand_traced := fun _ q => List.mem_cons_of_mem _ q
  have hS : va_S (hA b0) s.heap s.heap [] := va_S.rf
  have hl := lv_entry ([.ref a0, .int i1, .int i2]) (n := 3) (Nat.le_of_ble_eq_true rfl)
  rw [lg_entry_eq]
  generalize (lg_sl ([.ref a0, .int i1, .int i2]) ++ List.replicate (3 - (lg_sl ([.ref a0, .int i1, .int i2])).length) Slot.unset).toArray = ls at hl ⊢
  have hl : lv_has ls 3 [(0, .ref a0), (1, .int i1), (2, .int i2)] := hl
  unfold f_MacroExpand_traced at hrun
  refine lv_aload_n hx hb d_MacroExpand_traced_0 rfl (lv_at hl 0 rfl) ?_
  replace hrun := hb_some hrun
  obtain ⟨v1, g1, hrun⟩ := hrun
  refine h_getR S (fun w q => hT w (i_MacroExpand w q)) hK (ci := 0) rfl 3 (by decide) (hT _ fl_MacroExpand_46) hw g1 d_MacroExpand_traced_1 ?_
  replace hrun := hb_some hrun
  obtain ⟨p4, rfl, hrun⟩ := hrun
  replace hrun := hb_some hrun
  obtain ⟨v4, g4, hrun⟩ := hrun
  refine h_getNR S (fun w q => hT w (i_Expander w q)) hK (ci := 5) rfl 4 (by decide) (hN.1 _ nf_MacroExpand_162) hw g4 d_MacroExpand_traced_4 ?_
  refine lv_iload_n hx hb d_MacroExpand_traced_7 rfl (lv_at hl 1 rfl) ?_
  refine lv_iload_n hx hb d_MacroExpand_traced_8 rfl (lv_at hl 2 rfl) ?_
  replace hrun := hb_some hrun
  obtain ⟨p9, rfl, hrun⟩ := hrun
  replace hrun := hb_some hrun
  obtain ⟨c9, k9, hrun⟩ := hrun
  replace hrun := hb_some hrun
  obtain ⟨v9, g9, hrun⟩ := hrun
  refine h_ci (h_runV S (As := [.int i1, .int i2]) (rest := []) (c_Trace_get l D dA b0 p9 i1 i2 nx g9) (cwV 2 S.2.2.2.2 (h_good _ (h_in4 ml_MacroExpand_166 im_Trace_get se_Trace_get it_Trace) cd_Trace_get) rfl rfl rfl (by decide +kernel) ⟨Nat.le_of_ble_eq_true rfl, Nat.le_of_ble_eq_true rfl⟩) hK hN hw (ci := 10) rfl k9 rfl hl.1 (lv_room (Nat.le_of_ble_eq_true rfl)) d_MacroExpand_traced_9 ⟨Nat.le_refl _, Nat.le_refl _⟩) hS (fun H locs hw hS => ?_)
  cases hrun
  exact W.iret hx hb hr (fun t ht hW9 => ⟨⟨_, (), rfl, rfl, by show hW D dA classes b0 _ _ t.heap; rw [ht]; exact hw⟩, hS.F ht⟩) hS.2.2 d_MacroExpand_traced_12
set_option maxHeartbeats 4000000 in
set_option maxRecDepth 100000 in
theorem c_MacroExpand_input (l : Launch) (D : va_G) (dA : Nat → ClassId) (b0 : Nat) (a0 : Nat) (i1 : Int32) (nx : Nat) {h : hH} {r : Int32} (hrun : f_MacroExpand_input a0 i1 h = some r) : Met l y_MacroExpand_input w_MacroExpand_input ({ frames := 1, cells := 0, slots := 0, locals := 21 } : Room) (va_Pc [.ref a0, .int i1] (hB D dA b0 nx h)) (va_Qi (fun r' (_ : Unit) => r' = r) (fun (_ : Unit) t => hW D dA classes b0 nx h t.heap) (hA b0)) 0 0 (hA b0) := by
  refine Met.ofW (cc := b_MacroExpand_input) (maxL := 2) (ret := (some .int)) (by decide) rfl ?_
  intro p e s m args below meth c s₁ B hml hv
  obtain ⟨rfl, hw, hK, hN⟩ := hv
  have hx := B.exec
  have hb := B.bytes
  have hr := B.returns
  have hlocks := B.notSynchronized
  have S : CallFix p m c b_MacroExpand_input 2 s ([.ref a0, .int i1] : List Value).toArray w_MacroExpand_input R_MacroExpand := ⟨hx, hb, hml, findClass_of_methodNamed B.named, atoms_spec (ws := w_MacroExpand_input) B.pre⟩
  have hT : ∀ w ∈ tbl, w ∈ w_MacroExpand_input := fun _ q => List.mem_cons_of_mem _ q
  have hS : va_S (hA b0) s.heap s.heap [] := va_S.rf
  have hl := lv_entry ([.ref a0, .int i1]) (n := 2) (Nat.le_of_ble_eq_true rfl)
  rw [lg_entry_eq]
  generalize (lg_sl ([.ref a0, .int i1]) ++ List.replicate (2 - (lg_sl ([.ref a0, .int i1])).length) Slot.unset).toArray = ls at hl ⊢
  have hl : lv_has ls 2 [(0, .ref a0), (1, .int i1)] := hl
  unfold f_MacroExpand_input at hrun
  refine lv_aload_n hx hb d_MacroExpand_input_0 rfl (lv_at hl 0 rfl) ?_
  replace hrun := hb_some hrun
  obtain ⟨v1, g1, hrun⟩ := hrun
  refine h_getR S (fun w q => hT w (i_MacroExpand w q)) hK (ci := 0) rfl 2 (by decide) (hT _ fl_MacroExpand_37) hw g1 d_MacroExpand_input_1 ?_
  refine lv_iload_n hx hb d_MacroExpand_input_4 rfl (lv_at hl 1 rfl) ?_
  replace hrun := hb_some hrun
  obtain ⟨p5, rfl, hrun⟩ := hrun
  replace hrun := hb_some hrun
  obtain ⟨c5, k5, hrun⟩ := hrun
  replace hrun := hb_some hrun
  obtain ⟨v5, g5, hrun⟩ := hrun
  refine h_ci (h_runV S (As := [.int i1]) (rest := []) (c_Input_get l D dA b0 p5 i1 nx g5) (cwV 1 S.2.2.2.2 (h_good _ (h_in4 ml_MacroExpand_171 im_Input_get se_Input_get it_Input) cd_Input_get) rfl rfl rfl (by decide +kernel) ⟨Nat.le_of_ble_eq_true rfl, Nat.le_of_ble_eq_true rfl⟩) hK hN hw (ci := 6) rfl k5 rfl hl.1 (lv_room (Nat.le_of_ble_eq_true rfl)) d_MacroExpand_input_5 ⟨Nat.le_refl _, Nat.le_refl _⟩) hS (fun H locs hw hS => ?_)
  cases hrun
  exact W.iret hx hb hr (fun t ht hW9 => ⟨⟨_, (), rfl, rfl, by show hW D dA classes b0 _ _ t.heap; rw [ht]; exact hw⟩, hS.F ht⟩) hS.2.2 d_MacroExpand_input_8
set_option maxHeartbeats 4000000 in
set_option maxRecDepth 100000 in
theorem c_MacroExpand_macro (l : Launch) (D : va_G) (dA : Nat → ClassId) (b0 : Nat) (a0 : Nat) (i1 : Int32) (nx : Nat) {h : hH} {r : Int32} (hrun : f_MacroExpand_macro a0 i1 h = some r) : Met l y_MacroExpand_macro w_MacroExpand_macro ({ frames := 1, cells := 0, slots := 0, locals := 21 } : Room) (va_Pc [.ref a0, .int i1] (hB D dA b0 nx h)) (va_Qi (fun r' (_ : Unit) => r' = r) (fun (_ : Unit) t => hW D dA classes b0 nx h t.heap) (hA b0)) 0 0 (hA b0) := by
  refine Met.ofW (cc := b_MacroExpand_macro) (maxL := 2) (ret := (some .int)) (by decide) rfl ?_
  intro p e s m args below meth c s₁ B hml hv
  obtain ⟨rfl, hw, hK, hN⟩ := hv
  have hx := B.exec
  have hb := B.bytes
  have hr := B.returns
  have hlocks := B.notSynchronized
  have S : CallFix p m c b_MacroExpand_macro 2 s ([.ref a0, .int i1] : List Value).toArray w_MacroExpand_macro R_MacroExpand := ⟨hx, hb, hml, findClass_of_methodNamed B.named, atoms_spec (ws := w_MacroExpand_macro) B.pre⟩
  have hT : ∀ w ∈ tbl, w ∈ w_MacroExpand_macro := fun _ q => List.mem_cons_of_mem _ q
  have hS : va_S (hA b0) s.heap s.heap [] := va_S.rf
  have hl := lv_entry ([.ref a0, .int i1]) (n := 2) (Nat.le_of_ble_eq_true rfl)
  rw [lg_entry_eq]
  generalize (lg_sl ([.ref a0, .int i1]) ++ List.replicate (2 - (lg_sl ([.ref a0, .int i1])).length) Slot.unset).toArray = ls at hl ⊢
  have hl : lv_has ls 2 [(0, .ref a0), (1, .int i1)] := hl
  unfold f_MacroExpand_macro at hrun
  refine lv_aload_n hx hb d_MacroExpand_macro_0 rfl (lv_at hl 0 rfl) ?_
  replace hrun := hb_some hrun
  obtain ⟨v1, g1, hrun⟩ := hrun
  refine h_getR S (fun w q => hT w (i_MacroExpand w q)) hK (ci := 0) rfl 0 (by decide) (hT _ fl_MacroExpand_23) hw g1 d_MacroExpand_macro_1 ?_
  refine lv_iload_n hx hb d_MacroExpand_macro_4 rfl (lv_at hl 1 rfl) ?_
  replace hrun := hb_some hrun
  obtain ⟨p5, rfl, hrun⟩ := hrun
  replace hrun := hb_some hrun
  obtain ⟨c5, k5, hrun⟩ := hrun
  replace hrun := hb_some hrun
  obtain ⟨v5, g5, hrun⟩ := hrun
  refine h_ci (h_runV S (As := [.int i1]) (rest := []) (c_Book_numberOf l D dA b0 p5 i1 nx g5) (cwV 1 S.2.2.2.2 (h_good _ (h_in4 ml_MacroExpand_172 im_Book_numberOf se_Book_numberOf it_Book) cd_Book_numberOf) rfl rfl rfl (by decide +kernel) ⟨Nat.le_of_ble_eq_true rfl, Nat.le_of_ble_eq_true rfl⟩) hK hN hw (ci := 3) rfl k5 rfl hl.1 (lv_room (Nat.le_of_ble_eq_true rfl)) d_MacroExpand_macro_5 ⟨Nat.le_refl _, Nat.le_refl _⟩) hS (fun H locs hw hS => ?_)
  cases hrun
  exact W.iret hx hb hr (fun t ht hW9 => ⟨⟨_, (), rfl, rfl, by show hW D dA classes b0 _ _ t.heap; rw [ht]; exact hw⟩, hS.F ht⟩) hS.2.2 d_MacroExpand_macro_8
