set_option maxHeartbeats 4000000 in
set_option maxRecDepth 100000 in
theorem c_MacroExpand_token (l : Launch) (D : va_G) (dA : Nat → ClassId) (b0 : Nat) (a0 : Nat) (i1 : Int32) (nx : Nat) {h h' : hH} {r : Int32} (hrun : f_MacroExpand_token a0 i1 h = some (r, h')) : Met l y_MacroExpand_token w_MacroExpand_token ({ frames := 2, cells := 0, slots := 0, locals := 69 } : Room) (va_Pc [.ref a0, .int i1] (hB D dA b0 nx h)) (va_Qi (fun r' (_ : Unit) => r' = r) (fun (_ : Unit) t => hW D dA classes b0 nx h' t.heap) (hA b0)) 0 0 (hA b0) := by
  refine Met.ofW (cc := b_MacroExpand_token) (maxL := 2) (ret := (some .int)) (by decide) rfl ?_
  intro p e s m args below meth c s₁ B hml hv
  obtain ⟨rfl, hw, hK, hN⟩ := hv
  have hx := B.exec
  have hb := B.bytes
  have hr := B.returns
  have hlocks := B.notSynchronized
  have S : CallFix p m c b_MacroExpand_token 2 s ([.ref a0, .int i1] : List Value).toArray w_MacroExpand_token R_MacroExpand := ⟨hx, hb, hml, findClass_of_methodNamed B.named, atoms_spec (ws := w_MacroExpand_token) B.pre⟩
  have hT : ∀ w ∈ tbl, w ∈ w_MacroExpand_token := fun _ q => List.mem_cons_of_mem _ q
  have hS : va_S (hA b0) s.heap s.heap [] := va_S.rf
  have hl := lv_entry ([.ref a0, .int i1]) (n := 2) (Nat.le_of_ble_eq_true rfl)
  rw [lg_entry_eq]
  generalize (lg_sl ([.ref a0, .int i1]) ++ List.replicate (2 - (lg_sl ([.ref a0, .int i1])).length) Slot.unset).toArray = ls at hl ⊢
  have hl : lv_has ls 2 [(0, .ref a0), (1, .int i1)] := hl
  unfold f_MacroExpand_token at hrun
  refine lv_iload_n hx hb d_MacroExpand_token_0 rfl (lv_at hl 1 rfl) ?_
  replace hrun := hb_some hrun
  obtain ⟨v1, g1, hrun⟩ := hrun
  refine h_ci (h_runS S (As := [.int i1]) (rest := []) (c_Kind_isToken l D dA b0 i1 nx g1) (va_cwS 1 S.2.2.2.2 (h_good _ (h_in3 ml_MacroExpand_83 sm_Kind_isToken it_Kind) cd_Kind_isToken) rfl rfl rfl (by decide +kernel) ⟨Nat.le_of_ble_eq_true rfl, Nat.le_of_ble_eq_true rfl⟩) hK hN hw rfl hl.1 (lv_room (Nat.le_of_ble_eq_true rfl)) d_MacroExpand_token_1 ⟨Nat.le_refl _, Nat.le_refl _⟩) hS (fun H locs hw hS => ?_)
  refine lv_if_ne (tgt := 10) hx hb d_MacroExpand_token_4 (by decide) (fun c4 => ?_) (fun c4 => ?_)
  · rw [if_neg c4] at hrun
    refine lv_aload_n hx hb d_MacroExpand_token_10 rfl (lv_at hl 0 rfl) ?_
    replace hrun := hb_some hrun
    obtain ⟨v11, g11, hrun⟩ := hrun
    refine h_getR S (fun w q => hT w (i_MacroExpand w q)) hK (ci := 0) rfl 2 (by decide) (hT _ fl_MacroExpand_37) hw g11 d_MacroExpand_token_11 ?_
    replace hrun := hb_some hrun
    obtain ⟨p14, rfl, hrun⟩ := hrun
    replace hrun := hb_some hrun
    obtain ⟨c14, k14, hrun⟩ := hrun
    replace hrun := hb_some hrun
    obtain ⟨v14, g14, hrun⟩ := hrun
    refine h_ci (h_runV S (As := []) (rest := []) (c_Input_isFull l D dA b0 p14 nx g14) (cwV 0 S.2.2.2.2 (h_good _ (h_in4 ml_MacroExpand_107 im_Input_isFull se_Input_isFull it_Input) cd_Input_isFull) rfl rfl rfl (by decide +kernel) ⟨Nat.le_of_ble_eq_true rfl, Nat.le_of_ble_eq_true rfl⟩) hK hN hw (ci := 6) rfl k14 rfl hl.1 (lv_room (Nat.le_of_ble_eq_true rfl)) d_MacroExpand_token_14 ⟨Nat.le_refl _, Nat.le_refl _⟩) hS (fun H locs hw hS => ?_)
    refine lv_if_eq (tgt := 23) hx hb d_MacroExpand_token_17 (by decide) (fun c17 => ?_) (fun c17 => ?_)
    · rw [if_pos c17] at hrun
      refine lv_aload_n hx hb d_MacroExpand_token_23 rfl (lv_at hl 0 rfl) ?_
      replace hrun := hb_some hrun
      obtain ⟨v24, g24, hrun⟩ := hrun
      refine h_getR S (fun w q => hT w (i_MacroExpand w q)) hK (ci := 0) rfl 2 (by decide) (hT _ fl_MacroExpand_37) hw g24 d_MacroExpand_token_24 ?_
      refine lv_iload_n hx hb d_MacroExpand_token_27 rfl (lv_at hl 1 rfl) ?_
      replace hrun := hb_some hrun
      obtain ⟨p28, rfl, hrun⟩ := hrun
      replace hrun := hb_some hrun
      obtain ⟨c28, k28, hrun⟩ := hrun
      replace hrun := hbW_some hrun
      obtain ⟨_u28, h28, g28, hrun⟩ := hrun
      refine h_cv (h_runV S (As := [.int i1]) (rest := []) (c_Input_addLast l D dA b0 p28 i1 nx g28) (cwV 1 S.2.2.2.2 (h_good _ (h_in4 ml_MacroExpand_108 im_Input_addLast se_Input_addLast it_Input) cd_Input_addLast) rfl rfl rfl (by decide +kernel) ⟨Nat.le_of_ble_eq_true rfl, Nat.le_of_ble_eq_true rfl⟩) hK hN hw (ci := 6) rfl k28 rfl hl.1 (lv_room (Nat.le_of_ble_eq_true rfl)) d_MacroExpand_token_28 ⟨Nat.le_refl _, Nat.le_refl _⟩) hS (fun H locs hw hS => ?_)
      refine lv_aload_n hx hb d_MacroExpand_token_31 rfl (lv_at hl 0 rfl) ?_
      replace hrun := hb_some hrun
      obtain ⟨v32, g32, hrun⟩ := hrun
      refine h_getR S (fun w q => hT w (i_MacroExpand w q)) hK (ci := 0) rfl 2 (by decide) (hT _ fl_MacroExpand_37) hw g32 d_MacroExpand_token_32 ?_
      replace hrun := hb_some hrun
      obtain ⟨p35, rfl, hrun⟩ := hrun
      replace hrun := hb_some hrun
      obtain ⟨v35, g35, hrun⟩ := hrun
      refine h_getNI S (fun w q => hT w (i_Input w q)) hK (ci := 6) rfl 1 (by decide) (hN.1 _ nf_MacroExpand_112) hw g35 d_MacroExpand_token_35 ?_
      cases hrun
      exact W.iret hx hb hr (fun t ht hW9 => ⟨⟨_, (), rfl, rfl, by show hW D dA classes b0 _ _ t.heap; rw [ht]; exact hw⟩, hS.F ht⟩) hS.2.2 d_MacroExpand_token_38
    · rw [if_neg c17] at hrun
      refine lv_bipush (v := (-4 : Int32)) hx hb d_MacroExpand_token_20 (by decide) ?_
      cases hrun
      exact W.iret hx hb hr (fun t ht hW9 => ⟨⟨_, (), rfl, rfl, by show hW D dA classes b0 _ _ t.heap; rw [ht]; exact hw⟩, hS.F ht⟩) hS.2.2 d_MacroExpand_token_22
  · rw [if_pos c4] at hrun
    refine lv_bipush (v := (-2 : Int32)) hx hb d_MacroExpand_token_7 (by decide) ?_
    cases hrun
    exact W.iret hx hb hr (fun t ht hW9 => ⟨⟨_, (), rfl, rfl, by show hW D dA classes b0 _ _ t.heap; rw [ht]; exact hw⟩, hS.F ht⟩) hS.2.2 d_MacroExpand_token_9
set_option maxHeartbeats 4000000 in
set_option maxRecDepth 100000 in
theorem c_Trace_clear (l : Launch) (D : va_G) (dA : Nat → ClassId) (b0 : Nat) (a0 : Nat) (nx : Nat) {h h' : hH} {r : Unit} (hrun : f_Trace_clear a0 h = some (r, h')) : Met l y_Trace_clear w_Trace_clear ({ frames := 0, cells := 0, slots := 0, locals := 0 } : Room) (va_Pc [.ref a0] (hB D dA b0 nx h)) (va_Qv (fun (_ : Unit) => True) (fun (_ : Unit) t => hW D dA classes b0 nx h' t.heap) (hA b0)) 0 0 (hA b0) := by
  refine Met.ofW (cc := b_Trace_clear) (maxL := 1) (ret := none) (by decide) rfl ?_
  intro p e s m args below meth c s₁ B hml hv
  obtain ⟨rfl, hw, hK, hN⟩ := hv
  have hx := B.exec
  have hb := B.bytes
  have hr := B.returns
  have hlocks := B.notSynchronized
  have S : CallFix p m c b_Trace_clear 1 s ([.ref a0] : List Value).toArray w_Trace_clear R_Trace := ⟨hx, hb, hml, findClass_of_methodNamed B.named, atoms_spec (ws := w_Trace_clear) B.pre⟩
  have hT : ∀ w ∈ tbl, w ∈ w_Trace_clear := fun _ q => List.mem_cons_of_mem _ q
  have hS : va_S (hA b0) s.heap s.heap [] := va_S.rf
  have hl := lv_entry ([.ref a0]) (n := 1) (Nat.le_of_ble_eq_true rfl)
  rw [lg_entry_eq]
  generalize (lg_sl ([.ref a0]) ++ List.replicate (1 - (lg_sl ([.ref a0])).length) Slot.unset).toArray = ls at hl ⊢
  have hl : lv_has ls 1 [(0, .ref a0)] := hl
  unfold f_Trace_clear at hrun
  refine lv_aload_n hx hb d_Trace_clear_0 rfl (lv_at hl 0 rfl) ?_
  refine lv_iconst (v := (0 : Int32)) hx hb d_Trace_clear_1 (by decide) ?_
  replace hrun := hb_some hrun
  obtain ⟨h2, g2, hrun⟩ := hrun
  refine h_put S (fun w q => hT w (i_Trace w q)) t_Trace t_Trace_ok n_Trace hK (ci := 10) rfl 3 (by decide) (hT _ fl_Trace_21) rfl rfl rfl hw hS g2 d_Trace_clear_2 (fun H locs hw hS => ?_)
  cases hrun
  exact W.vret hx hb hr (fun t ht hW9 => ⟨⟨(), rfl, trivial, by show hW D dA classes b0 _ _ t.heap; rw [ht]; exact hw⟩, hS.F ht⟩) hS.2.2 d_Trace_clear_5
set_option maxHeartbeats 4000000 in
set_option maxRecDepth 100000 in
theorem c_Expander_begin (l : Launch) (D : va_G) (dA : Nat → ClassId) (b0 : Nat) (a0 : Nat) (nx : Nat) {h h' : hH} {r : Unit} (hrun : f_Expander_begin a0 h = some (r, h')) : Met l y_Expander_begin w_Expander_begin ({ frames := 1, cells := 0, slots := 0, locals := 20 } : Room) (va_Pc [.ref a0] (hB D dA b0 nx h)) (va_Qv (fun (_ : Unit) => True) (fun (_ : Unit) t => hW D dA classes b0 nx h' t.heap) (hA b0)) 0 0 (hA b0) := by
  refine Met.ofW (cc := b_Expander_begin) (maxL := 1) (ret := none) (by decide) rfl ?_
  intro p e s m args below meth c s₁ B hml hv
  obtain ⟨rfl, hw, hK, hN⟩ := hv
  have hx := B.exec
  have hb := B.bytes
  have hr := B.returns
  have hlocks := B.notSynchronized
  have S : CallFix p m c b_Expander_begin 1 s ([.ref a0] : List Value).toArray w_Expander_begin R_Expander := ⟨hx, hb, hml, findClass_of_methodNamed B.named, atoms_spec (ws := w_Expander_begin) B.pre⟩
  have hT : ∀ w ∈ tbl, w ∈ w_Expander_begin := fun _ q => List.mem_cons_of_mem _ q
  have hS : va_S (hA b0) s.heap s.heap [] := va_S.rf
  have hl := lv_entry ([.ref a0]) (n := 1) (Nat.le_of_ble_eq_true rfl)
  rw [lg_entry_eq]
  generalize (lg_sl ([.ref a0]) ++ List.replicate (1 - (lg_sl ([.ref a0])).length) Slot.unset).toArray = ls at hl ⊢
  have hl : lv_has ls 1 [(0, .ref a0)] := hl
  unfold f_Expander_begin at hrun
  refine lv_aload_n hx hb d_Expander_begin_0 rfl (lv_at hl 0 rfl) ?_
  replace hrun := hb_some hrun
  obtain ⟨v1, g1, hrun⟩ := hrun
  refine h_getR S (fun w q => hT w (i_Expander w q)) hK (ci := 5) rfl 4 (by decide) (hT _ fl_Expander_30) hw g1 d_Expander_begin_1 ?_
  replace hrun := hb_some hrun
  obtain ⟨p4, rfl, hrun⟩ := hrun
  replace hrun := hb_some hrun
  obtain ⟨c4, k4, hrun⟩ := hrun
  replace hrun := hbW_some hrun
  obtain ⟨_u4, h4, g4, hrun⟩ := hrun
  refine h_cv (h_runV S (As := []) (rest := []) (c_Trace_clear l D dA b0 p4 nx g4) (cwV 0 S.2.2.2.2 (h_good _ (h_in4 ml_Expander_53 im_Trace_clear se_Trace_clear it_Trace) cd_Trace_clear) rfl rfl rfl (by decide +kernel) ⟨Nat.le_of_ble_eq_true rfl, Nat.le_of_ble_eq_true rfl⟩) hK hN hw (ci := 10) rfl k4 rfl hl.1 (lv_room (Nat.le_of_ble_eq_true rfl)) d_Expander_begin_4 ⟨Nat.le_refl _, Nat.le_refl _⟩) hS (fun H locs hw hS => ?_)
  refine lv_aload_n hx hb d_Expander_begin_7 rfl (lv_at hl 0 rfl) ?_
  refine lv_iconst (v := (0 : Int32)) hx hb d_Expander_begin_8 (by decide) ?_
  replace hrun := hb_some hrun
  obtain ⟨h9, g9, hrun⟩ := hrun
  refine h_put S (fun w q => hT w (i_Expander w q)) t_Expander t_Expander_ok n_Expander hK (ci := 5) rfl 9 (by decide) (hT _ fl_Expander_56) rfl rfl rfl hw hS g9 d_Expander_begin_9 (fun H locs hw hS => ?_)
  refine lv_aload_n hx hb d_Expander_begin_12 rfl (lv_at hl 0 rfl) ?_
  refine lv_iconst (v := (0 : Int32)) hx hb d_Expander_begin_13 (by decide) ?_
  replace hrun := hb_some hrun
  obtain ⟨h14, g14, hrun⟩ := hrun
  obtain ⟨n14, f14, g14⟩ := hpZ_spec g14
  refine h_put S (fun w q => hT w (i_Expander w q)) t_Expander t_Expander_ok n_Expander hK (ci := 5) rfl 10 (by decide) (hT _ fl_Expander_59) rfl n14 f14 hw hS g14 d_Expander_begin_14 (fun H locs hw hS => ?_)
  refine lv_aload_n hx hb d_Expander_begin_17 rfl (lv_at hl 0 rfl) ?_
  refine lv_iconst (v := (0 : Int32)) hx hb d_Expander_begin_18 (by decide) ?_
  replace hrun := hb_some hrun
  obtain ⟨h19, g19, hrun⟩ := hrun
  obtain ⟨n19, f19, g19⟩ := hpZ_spec g19
  refine h_put S (fun w q => hT w (i_Expander w q)) t_Expander t_Expander_ok n_Expander hK (ci := 5) rfl 11 (by decide) (hT _ fl_Expander_63) rfl n19 f19 hw hS g19 d_Expander_begin_19 (fun H locs hw hS => ?_)
  refine lv_aload_n hx hb d_Expander_begin_22 rfl (lv_at hl 0 rfl) ?_
  refine lv_iconst (v := (0 : Int32)) hx hb d_Expander_begin_23 (by decide) ?_
  replace hrun := hb_some hrun
  obtain ⟨h24, g24, hrun⟩ := hrun
  refine h_put S (fun w q => hT w (i_Expander w q)) t_Expander t_Expander_ok n_Expander hK (ci := 5) rfl 12 (by decide) (hT _ fl_Expander_66) rfl rfl rfl hw hS g24 d_Expander_begin_24 (fun H locs hw hS => ?_)
  refine lv_aload_n hx hb d_Expander_begin_27 rfl (lv_at hl 0 rfl) ?_
  refine lv_iconst (v := (0 : Int32)) hx hb d_Expander_begin_28 (by decide) ?_
  replace hrun := hb_some hrun
  obtain ⟨h29, g29, hrun⟩ := hrun
  refine h_put S (fun w q => hT w (i_Expander w q)) t_Expander t_Expander_ok n_Expander hK (ci := 5) rfl 13 (by decide) (hT _ fl_Expander_69) rfl rfl rfl hw hS g29 d_Expander_begin_29 (fun H locs hw hS => ?_)
  cases hrun
  exact W.vret hx hb hr (fun t ht hW9 => ⟨⟨(), rfl, trivial, by show hW D dA classes b0 _ _ t.heap; rw [ht]; exact hw⟩, hS.F ht⟩) hS.2.2 d_Expander_begin_32
set_option maxHeartbeats 4000000 in
set_option maxRecDepth 100000 in
theorem c_Row_clear (l : Launch) (D : va_G) (dA : Nat → ClassId) (b0 : Nat) (a0 : Nat) (nx : Nat) {h h' : hH} {r : Unit} (hrun : f_Row_clear a0 h = some (r, h')) : Met l y_Row_clear w_Row_clear ({ frames := 0, cells := 0, slots := 0, locals := 0 } : Room) (va_Pc [.ref a0] (hB D dA b0 nx h)) (va_Qv (fun (_ : Unit) => True) (fun (_ : Unit) t => hW D dA classes b0 nx h' t.heap) (hA b0)) 0 0 (hA b0) := by
  refine Met.ofW (cc := b_Row_clear) (maxL := 1) (ret := none) (by decide) rfl ?_
  intro p e s m args below meth c s₁ B hml hv
  obtain ⟨rfl, hw, hK, hN⟩ := hv
  have hx := B.exec
  have hb := B.bytes
  have hr := B.returns
  have hlocks := B.notSynchronized
  have S : CallFix p m c b_Row_clear 1 s ([.ref a0] : List Value).toArray w_Row_clear R_Row := ⟨hx, hb, hml, findClass_of_methodNamed B.named, atoms_spec (ws := w_Row_clear) B.pre⟩
  have hT : ∀ w ∈ tbl, w ∈ w_Row_clear := fun _ q => List.mem_cons_of_mem _ q
  have hS : va_S (hA b0) s.heap s.heap [] := va_S.rf
  have hl := lv_entry ([.ref a0]) (n := 1) (Nat.le_of_ble_eq_true rfl)
  rw [lg_entry_eq]
  generalize (lg_sl ([.ref a0]) ++ List.replicate (1 - (lg_sl ([.ref a0])).length) Slot.unset).toArray = ls at hl ⊢
  have hl : lv_has ls 1 [(0, .ref a0)] := hl
  unfold f_Row_clear at hrun
  refine lv_aload_n hx hb d_Row_clear_0 rfl (lv_at hl 0 rfl) ?_
  refine lv_iconst (v := (0 : Int32)) hx hb d_Row_clear_1 (by decide) ?_
  replace hrun := hb_some hrun
  obtain ⟨h2, g2, hrun⟩ := hrun
  refine h_put S (fun w q => hT w (i_Row w q)) t_Row t_Row_ok n_Row hK (ci := 8) rfl 2 (by decide) (hT _ fl_Row_19) rfl rfl rfl hw hS g2 d_Row_clear_2 (fun H locs hw hS => ?_)
  cases hrun
  exact W.vret hx hb hr (fun t ht hW9 => ⟨⟨(), rfl, trivial, by show hW D dA classes b0 _ _ t.heap; rw [ht]; exact hw⟩, hS.F ht⟩) hS.2.2 d_Row_clear_5
set_option maxHeartbeats 4000000 in
set_option maxRecDepth 100000 in
theorem c_Definition_leave (l : Launch) (D : va_G) (dA : Nat → ClassId) (b0 : Nat) (a0 : Nat) (nx : Nat) {h h' : hH} {r : Unit} (hrun : f_Definition_leave a0 h = some (r, h')) : Met l y_Definition_leave w_Definition_leave ({ frames := 0, cells := 0, slots := 0, locals := 0 } : Room) (va_Pc [.ref a0] (hB D dA b0 nx h)) (va_Qv (fun (_ : Unit) => True) (fun (_ : Unit) t => hW D dA classes b0 nx h' t.heap) (hA b0)) 0 0 (hA b0) := by
  refine Met.ofW (cc := b_Definition_leave) (maxL := 1) (ret := none) (by decide) rfl ?_
  intro p e s m args below meth c s₁ B hml hv
  obtain ⟨rfl, hw, hK, hN⟩ := hv
  have hx := B.exec
  have hb := B.bytes
  have hr := B.returns
  have hlocks := B.notSynchronized
  have S : CallFix p m c b_Definition_leave 1 s ([.ref a0] : List Value).toArray w_Definition_leave R_Definition := ⟨hx, hb, hml, findClass_of_methodNamed B.named, atoms_spec (ws := w_Definition_leave) B.pre⟩
  have hT : ∀ w ∈ tbl, w ∈ w_Definition_leave := fun _ q => List.mem_cons_of_mem _ q
  have hS : va_S (hA b0) s.heap s.heap [] := va_S.rf
  have hl := lv_entry ([.ref a0]) (n := 1) (Nat.le_of_ble_eq_true rfl)
  rw [lg_entry_eq]
  generalize (lg_sl ([.ref a0]) ++ List.replicate (1 - (lg_sl ([.ref a0])).length) Slot.unset).toArray = ls at hl ⊢
  have hl : lv_has ls 1 [(0, .ref a0)] := hl
  unfold f_Definition_leave at hrun
  refine lv_aload_n hx hb d_Definition_leave_0 rfl (lv_at hl 0 rfl) ?_
  refine lv_iconst (v := (0 : Int32)) hx hb d_Definition_leave_1 (by decide) ?_
  replace hrun := hb_some hrun
  obtain ⟨h2, g2, hrun⟩ := hrun
  refine h_put S (fun w q => hT w (i_Definition w q)) t_Definition t_Definition_ok n_Definition hK (ci := 4) rfl 2 (by decide) (hT _ fl_Definition_24) rfl rfl rfl hw hS g2 d_Definition_leave_2 (fun H locs hw hS => ?_)
  cases hrun
  exact W.vret hx hb hr (fun t ht hW9 => ⟨⟨(), rfl, trivial, by show hW D dA classes b0 _ _ t.heap; rw [ht]; exact hw⟩, hS.F ht⟩) hS.2.2 d_Definition_leave_5
set_option maxHeartbeats 4000000 in
set_option maxRecDepth 100000 in
theorem c_Input_isEmpty (l : Launch) (D : va_G) (dA : Nat → ClassId) (b0 : Nat) (a0 : Nat) (nx : Nat) {h : hH} {r : Int32} (hrun : f_Input_isEmpty a0 h = some r) : Met l y_Input_isEmpty w_Input_isEmpty ({ frames := 0, cells := 0, slots := 0, locals := 0 } : Room) (va_Pc [.ref a0] (hB D dA b0 nx h)) (va_Qi (fun r' (_ : Unit) => r' = r) (fun (_ : Unit) t => hW D dA classes b0 nx h t.heap) (hA b0)) 0 0 (hA b0) := by
  refine Met.ofW (cc := b_Input_isEmpty) (maxL := 1) (ret := (some .boolean)) (by decide) rfl ?_
  intro p e s m args below meth c s₁ B hml hv
  obtain ⟨rfl, hw, hK, hN⟩ := hv
  have hx := B.exec
  have hb := B.bytes
  have hr := B.returns
  have hlocks := B.notSynchronized
  have S : CallFix p m c b_Input_isEmpty 1 s ([.ref a0] : List Value).toArray w_Input_isEmpty R_Input := ⟨hx, hb, hml, findClass_of_methodNamed B.named, atoms_spec (ws := w_Input_isEmpty) B.pre⟩
  have hT : ∀ w ∈ tbl, w ∈ w_Input_isEmpty := fun _ q => List.mem_cons_of_mem _ q
  have hS : va_S (hA b0) s.heap s.heap [] := va_S.rf
  have hl := lv_entry ([.ref a0]) (n := 1) (Nat.le_of_ble_eq_true rfl)
  rw [lg_entry_eq]
  generalize (lg_sl ([.ref a0]) ++ List.replicate (1 - (lg_sl ([.ref a0])).length) Slot.unset).toArray = ls at hl ⊢
  have hl : lv_has ls 1 [(0, .ref a0)] := hl
  unfold f_Input_isEmpty at hrun
  refine lv_aload_n hx hb d_Input_isEmpty_0 rfl (lv_at hl 0 rfl) ?_
  replace hrun := hb_some hrun
  obtain ⟨v1, g1, hrun⟩ := hrun
  refine h_getI S (fun w q => hT w (i_Input w q)) hK (ci := 6) rfl 1 (by decide) (hT _ fl_Input_15) hw g1 d_Input_isEmpty_1 ?_
  refine lv_if_gt (tgt := 11) hx hb d_Input_isEmpty_4 (by decide) (fun c4 => ?_) (fun c4 => ?_)
  · rw [if_pos c4] at hrun
    refine lv_iconst (v := (0 : Int32)) hx hb d_Input_isEmpty_11 (by decide) ?_
    cases hrun
    exact W.zret hx hb hr (by decide) (fun t ht hW9 => ⟨⟨_, (), rfl, rfl, by show hW D dA classes b0 _ _ t.heap; rw [ht]; exact hw⟩, hS.F ht⟩) hS.2.2 d_Input_isEmpty_12
  · rw [if_neg c4] at hrun
    refine lv_iconst (v := (1 : Int32)) hx hb d_Input_isEmpty_7 (by decide) ?_
    refine lv_goto (tgt := 12) hx hb d_Input_isEmpty_8 (by decide) ?_
    cases hrun
    exact W.zret hx hb hr (by decide) (fun t ht hW9 => ⟨⟨_, (), rfl, rfl, by show hW D dA classes b0 _ _ t.heap; rw [ht]; exact hw⟩, hS.F ht⟩) hS.2.2 d_Input_isEmpty_12
set_option maxHeartbeats 4000000 in
set_option maxRecDepth 100000 in
theorem c_Definition_isUnderWay (l : Launch) (D : va_G) (dA : Nat → ClassId) (b0 : Nat) (a0 : Nat) (nx : Nat) {h : hH} {r : Int32} (hrun : f_Definition_isUnderWay a0 h = some r) : Met l y_Definition_isUnderWay w_Definition_isUnderWay ({ frames := 0, cells := 0, slots := 0, locals := 0 } : Room) (va_Pc [.ref a0] (hB D dA b0 nx h)) (va_Qi (fun r' (_ : Unit) => r' = r) (fun (_ : Unit) t => hW D dA classes b0 nx h t.heap) (hA b0)) 0 0 (hA b0) := by
  refine Met.ofW (cc := b_Definition_isUnderWay) (maxL := 1) (ret := (some .boolean)) (by decide) rfl ?_
  intro p e s m args below meth c s₁ B hml hv
  obtain ⟨rfl, hw, hK, hN⟩ := hv
  have hx := B.exec
  have hb := B.bytes
  have hr := B.returns
  have hlocks := B.notSynchronized
  have S : CallFix p m c b_Definition_isUnderWay 1 s ([.ref a0] : List Value).toArray w_Definition_isUnderWay R_Definition := ⟨hx, hb, hml, findClass_of_methodNamed B.named, atoms_spec (ws := w_Definition_isUnderWay) B.pre⟩
  have hT : ∀ w ∈ tbl, w ∈ w_Definition_isUnderWay := fun _ q => List.mem_cons_of_mem _ q
  have hS : va_S (hA b0) s.heap s.heap [] := va_S.rf
  have hl := lv_entry ([.ref a0]) (n := 1) (Nat.le_of_ble_eq_true rfl)
  rw [lg_entry_eq]
  generalize (lg_sl ([.ref a0]) ++ List.replicate (1 - (lg_sl ([.ref a0])).length) Slot.unset).toArray = ls at hl ⊢
  have hl : lv_has ls 1 [(0, .ref a0)] := hl
  unfold f_Definition_isUnderWay at hrun
  refine lv_aload_n hx hb d_Definition_isUnderWay_0 rfl (lv_at hl 0 rfl) ?_
  replace hrun := hb_some hrun
  obtain ⟨v1, g1, hrun⟩ := hrun
  refine h_getI S (fun w q => hT w (i_Definition w q)) hK (ci := 4) rfl 2 (by decide) (hT _ fl_Definition_24) hw g1 d_Definition_isUnderWay_1 ?_
  refine lv_if_eq (tgt := 11) hx hb d_Definition_isUnderWay_4 (by decide) (fun c4 => ?_) (fun c4 => ?_)
  · rw [if_pos c4] at hrun
    refine lv_iconst (v := (0 : Int32)) hx hb d_Definition_isUnderWay_11 (by decide) ?_
    cases hrun
    exact W.zret hx hb hr (by decide) (fun t ht hW9 => ⟨⟨_, (), rfl, rfl, by show hW D dA classes b0 _ _ t.heap; rw [ht]; exact hw⟩, hS.F ht⟩) hS.2.2 d_Definition_isUnderWay_12
  · rw [if_neg c4] at hrun
    refine lv_iconst (v := (1 : Int32)) hx hb d_Definition_isUnderWay_7 (by decide) ?_
    refine lv_goto (tgt := 12) hx hb d_Definition_isUnderWay_8 (by decide) ?_
    cases hrun
    exact W.zret hx hb hr (by decide) (fun t ht hW9 => ⟨⟨_, (), rfl, rfl, by show hW D dA classes b0 _ _ t.heap; rw [ht]; exact hw⟩, hS.F ht⟩) hS.2.2 d_Definition_isUnderWay_12
set_option maxHeartbeats 4000000 in
set_option maxRecDepth 100000 in
theorem c_Definition_takesTokensAsTheyAre (l : Launch) (D : va_G) (dA : Nat → ClassId) (b0 : Nat) (a0 : Nat) (nx : Nat) {h : hH} {r : Int32} (hrun : f_Definition_takesTokensAsTheyAre a0 h = some r) : Met l y_Definition_takesTokensAsTheyAre w_Definition_takesTokensAsTheyAre ({ frames := 1, cells := 0, slots := 0, locals := 20 } : Room) (va_Pc [.ref a0] (hB D dA b0 nx h)) (va_Qi (fun r' (_ : Unit) => r' = r) (fun (_ : Unit) t => hW D dA classes b0 nx h t.heap) (hA b0)) 0 0 (hA b0) := by
  refine Met.ofW (cc := b_Definition_takesTokensAsTheyAre) (maxL := 1) (ret := (some .boolean)) (by decide) rfl ?_
  intro p e s m args below meth c s₁ B hml hv
  obtain ⟨rfl, hw, hK, hN⟩ := hv
  have hx := B.exec
  have hb := B.bytes
  have hr := B.returns
  have hlocks := B.notSynchronized
  have S : CallFix p m c b_Definition_takesTokensAsTheyAre 1 s ([.ref a0] : List Value).toArray w_Definition_takesTokensAsTheyAre R_Definition := ⟨hx, hb, hml, findClass_of_methodNamed B.named, atoms_spec (ws := w_Definition_takesTokensAsTheyAre) B.pre⟩
  have hT : ∀ w ∈ tbl, w ∈ w_Definition_takesTokensAsTheyAre := fun _ q => List.mem_cons_of_mem _ q
  have hS : va_S (hA b0) s.heap s.heap [] := va_S.rf
  have hl := lv_entry ([.ref a0]) (n := 1) (Nat.le_of_ble_eq_true rfl)
  rw [lg_entry_eq]
  generalize (lg_sl ([.ref a0]) ++ List.replicate (1 - (lg_sl ([.ref a0])).length) Slot.unset).toArray = ls at hl ⊢
  have hl : lv_has ls 1 [(0, .ref a0)] := hl
  unfold f_Definition_takesTokensAsTheyAre at hrun
  refine lv_aload_n hx hb d_Definition_takesTokensAsTheyAre_0 rfl (lv_at hl 0 rfl) ?_
  replace hrun := hb_some hrun
  obtain ⟨c1, k1, hrun⟩ := hrun
  replace hrun := hb_some hrun
  obtain ⟨v1, g1, hrun⟩ := hrun
  refine h_ci (h_runV S (As := []) (rest := []) (c_Definition_isUnderWay l D dA b0 a0 nx g1) (cwV 0 S.2.2.2.2 (h_good _ (h_in4 ml_Definition_44 im_Definition_isUnderWay se_Definition_isUnderWay it_Definition) cd_Definition_isUnderWay) rfl rfl rfl (by decide +kernel) ⟨Nat.le_of_ble_eq_true rfl, Nat.le_of_ble_eq_true rfl⟩) hK hN hw (ci := 4) rfl k1 rfl hl.1 (lv_room (Nat.le_of_ble_eq_true rfl)) d_Definition_takesTokensAsTheyAre_1 ⟨Nat.le_refl _, Nat.le_refl _⟩) hS (fun H locs hw hS => ?_)
  refine lv_if_eq (tgt := 26) hx hb d_Definition_takesTokensAsTheyAre_4 (by decide) (fun c4 => ?_) (fun c4 => ?_)
  · rw [if_pos c4] at hrun
    refine lv_iconst (v := (0 : Int32)) hx hb d_Definition_takesTokensAsTheyAre_26 (by decide) ?_
    cases hrun
    exact W.zret hx hb hr (by decide) (fun t ht hW9 => ⟨⟨_, (), rfl, rfl, by show hW D dA classes b0 _ _ t.heap; rw [ht]; exact hw⟩, hS.F ht⟩) hS.2.2 d_Definition_takesTokensAsTheyAre_27
  · rw [if_neg c4] at hrun
    refine lv_aload_n hx hb d_Definition_takesTokensAsTheyAre_7 rfl (lv_at hl 0 rfl) ?_
    replace hrun := hb_some hrun
    obtain ⟨v8, g8, hrun⟩ := hrun
    refine h_getI S (fun w q => hT w (i_Definition w q)) hK (ci := 4) rfl 2 (by decide) (hT _ fl_Definition_24) hw g8 d_Definition_takesTokensAsTheyAre_8 ?_
    refine lv_iconst (v := (3 : Int32)) hx hb d_Definition_takesTokensAsTheyAre_11 (by decide) ?_
    refine lv_icmp_ne (tgt := 22) hx hb d_Definition_takesTokensAsTheyAre_12 (by decide) (fun c12 => ?_) (fun c12 => ?_)
    · rw [if_neg c12] at hrun
      refine lv_iconst (v := (1 : Int32)) hx hb d_Definition_takesTokensAsTheyAre_22 (by decide) ?_
      refine lv_goto (tgt := 27) hx hb d_Definition_takesTokensAsTheyAre_23 (by decide) ?_
      cases hrun
      exact W.zret hx hb hr (by decide) (fun t ht hW9 => ⟨⟨_, (), rfl, rfl, by show hW D dA classes b0 _ _ t.heap; rw [ht]; exact hw⟩, hS.F ht⟩) hS.2.2 d_Definition_takesTokensAsTheyAre_27
    · rw [if_pos c12] at hrun
      refine lv_aload_n hx hb d_Definition_takesTokensAsTheyAre_15 rfl (lv_at hl 0 rfl) ?_
      replace hrun := hb_some hrun
      obtain ⟨v16, g16, hrun⟩ := hrun
      refine h_getI S (fun w q => hT w (i_Definition w q)) hK (ci := 4) rfl 3 (by decide) (hT _ fl_Definition_31) hw g16 d_Definition_takesTokensAsTheyAre_16 ?_
      refine lv_if_ne (tgt := 26) hx hb d_Definition_takesTokensAsTheyAre_19 (by decide) (fun c19 => ?_) (fun c19 => ?_)
      · rw [if_neg c19] at hrun
        refine lv_iconst (v := (0 : Int32)) hx hb d_Definition_takesTokensAsTheyAre_26 (by decide) ?_
        cases hrun
        exact W.zret hx hb hr (by decide) (fun t ht hW9 => ⟨⟨_, (), rfl, rfl, by show hW D dA classes b0 _ _ t.heap; rw [ht]; exact hw⟩, hS.F ht⟩) hS.2.2 d_Definition_takesTokensAsTheyAre_27
      · rw [if_pos c19] at hrun
        refine lv_iconst (v := (1 : Int32)) hx hb d_Definition_takesTokensAsTheyAre_22 (by decide) ?_
        refine lv_goto (tgt := 27) hx hb d_Definition_takesTokensAsTheyAre_23 (by decide) ?_
        cases hrun
        exact W.zret hx hb hr (by decide) (fun t ht hW9 => ⟨⟨_, (), rfl, rfl, by show hW D dA classes b0 _ _ t.heap; rw [ht]; exact hw⟩, hS.F ht⟩) hS.2.2 d_Definition_takesTokensAsTheyAre_27
set_option maxHeartbeats 4000000 in
set_option maxRecDepth 100000 in
theorem c_Input_get (l : Launch) (D : va_G) (dA : Nat → ClassId) (b0 : Nat) (a0 : Nat) (i1 : Int32) (nx : Nat) {h : hH} {r : Int32} (hrun : f_Input_get a0 i1 h = some r) : Met l y_Input_get w_Input_get ({ frames := 0, cells := 0, slots := 0, locals := 0 } : Room) (va_Pc [.ref a0, .int i1] (hB D dA b0 nx h)) (va_Qi (fun r' (_ : Unit) => r' = r) (fun (_ : Unit) t => hW D dA classes b0 nx h t.heap) (hA b0)) 0 0 (hA b0) := by
  refine Met.ofW (cc := b_Input_get) (maxL := 2) (ret := (some .int)) (by decide) rfl ?_
  intro p e s m args below meth c s₁ B hml hv
  obtain ⟨rfl, hw, hK, hN⟩ := hv
  have hx := B.exec
  have hb := B.bytes
  have hr := B.returns
  have hlocks := B.notSynchronized
  have S : CallFix p m c b_Input_get 2 s ([.ref a0, .int i1] : List Value).toArray w_Input_get R_Input := ⟨hx, hb, hml, findClass_of_methodNamed B.named, atoms_spec (ws := w_Input_get) B.pre⟩
  have hT : ∀ w ∈ tbl, w ∈ w_Input_get := fun _ q => List.mem_cons_of_mem _ q
  have hS : va_S (hA b0) s.heap s.heap [] := va_S.rf
  have hl := lv_entry ([.ref a0, .int i1]) (n := 2) (Nat.le_of_ble_eq_true rfl)
  rw [lg_entry_eq]
  generalize (lg_sl ([.ref a0, .int i1]) ++ List.replicate (2 - (lg_sl ([.ref a0, .int i1])).length) Slot.unset).toArray = ls at hl ⊢
  have hl : lv_has ls 2 [(0, .ref a0), (1, .int i1)] := hl
  unfold f_Input_get at hrun
  refine lv_iload_n hx hb d_Input_get_0 rfl (lv_at hl 1 rfl) ?_
  refine lv_if_lt (tgt := 28) hx hb d_Input_get_1 (by decide) (fun c1 => ?_) (fun c1 => ?_)
  · rw [if_pos c1] at hrun
    refine lv_iconst (v := (-1 : Int32)) hx hb d_Input_get_28 (by decide) ?_
    cases hrun
    exact W.iret hx hb hr (fun t ht hW9 => ⟨⟨_, (), rfl, rfl, by show hW D dA classes b0 _ _ t.heap; rw [ht]; exact hw⟩, hS.F ht⟩) hS.2.2 d_Input_get_29
  · rw [if_neg c1] at hrun
    refine lv_iload_n hx hb d_Input_get_4 rfl (lv_at hl 1 rfl) ?_
    refine lv_aload_n hx hb d_Input_get_5 rfl (lv_at hl 0 rfl) ?_
    replace hrun := hb_some hrun
    obtain ⟨v6, g6, hrun⟩ := hrun
    refine h_getI S (fun w q => hT w (i_Input w q)) hK (ci := 6) rfl 1 (by decide) (hT _ fl_Input_15) hw g6 d_Input_get_6 ?_
    refine lv_icmp_ge (tgt := 28) hx hb d_Input_get_9 (by decide) (fun c9 => ?_) (fun c9 => ?_)
    · rw [if_pos c9] at hrun
      refine lv_iconst (v := (-1 : Int32)) hx hb d_Input_get_28 (by decide) ?_
      cases hrun
      exact W.iret hx hb hr (fun t ht hW9 => ⟨⟨_, (), rfl, rfl, by show hW D dA classes b0 _ _ t.heap; rw [ht]; exact hw⟩, hS.F ht⟩) hS.2.2 d_Input_get_29
    · rw [if_neg c9] at hrun
      refine lv_aload_n hx hb d_Input_get_12 rfl (lv_at hl 0 rfl) ?_
      replace hrun := hb_some hrun
      obtain ⟨v13, g13, hrun⟩ := hrun
      refine h_getR S (fun w q => hT w (i_Input w q)) hK (ci := 6) rfl 0 (by decide) (hT _ fl_Input_9) hw g13 d_Input_get_13 ?_
      refine lv_aload_n hx hb d_Input_get_16 rfl (lv_at hl 0 rfl) ?_
      replace hrun := hb_some hrun
      obtain ⟨v17, g17, hrun⟩ := hrun
      refine h_getI S (fun w q => hT w (i_Input w q)) hK (ci := 6) rfl 1 (by decide) (hT _ fl_Input_15) hw g17 d_Input_get_17 ?_
      refine lv_iconst (v := (1 : Int32)) hx hb d_Input_get_20 (by decide) ?_
      refine lv_isub hx hb d_Input_get_21 ?_
      refine lv_iload_n hx hb d_Input_get_22 rfl (lv_at hl 1 rfl) ?_
      refine lv_isub hx hb d_Input_get_23 ?_
      replace hrun := hb_some hrun
      obtain ⟨p24, rfl, hrun⟩ := hrun
      replace hrun := hb_some hrun
      obtain ⟨v24, g24, hrun⟩ := hrun
      refine h_iald S hK (kd := 0) rfl hw g24 d_Input_get_24 ?_
      refine lv_goto (tgt := 29) hx hb d_Input_get_25 (by decide) ?_
      cases hrun
      exact W.iret hx hb hr (fun t ht hW9 => ⟨⟨_, (), rfl, rfl, by show hW D dA classes b0 _ _ t.heap; rw [ht]; exact hw⟩, hS.F ht⟩) hS.2.2 d_Input_get_29
set_option maxHeartbeats 4000000 in
set_option maxRecDepth 100000 in
theorem c_Book_numberOf (l : Launch) (D : va_G) (dA : Nat → ClassId) (b0 : Nat) (a0 : Nat) (i1 : Int32) (nx : Nat) {h : hH} {r : Int32} (hrun : f_Book_numberOf a0 i1 h = some r) : Met l y_Book_numberOf w_Book_numberOf ({ frames := 0, cells := 0, slots := 0, locals := 0 } : Room) (va_Pc [.ref a0, .int i1] (hB D dA b0 nx h)) (va_Qi (fun r' (_ : Unit) => r' = r) (fun (_ : Unit) t => hW D dA classes b0 nx h t.heap) (hA b0)) 0 0 (hA b0) := by
  refine Met.ofW (cc := b_Book_numberOf) (maxL := 2) (ret := (some .int)) (by decide) rfl ?_
  intro p e s m args below meth c s₁ B hml hv
  obtain ⟨rfl, hw, hK, hN⟩ := hv
  have hx := B.exec
  have hb := B.bytes
  have hr := B.returns
  have hlocks := B.notSynchronized
  have S : CallFix p m c b_Book_numberOf 2 s ([.ref a0, .int i1] : List Value).toArray w_Book_numberOf R_Book := ⟨hx, hb, hml, findClass_of_methodNamed B.named, atoms_spec (ws := w_Book_numberOf) B.pre⟩
  have hT : ∀ w ∈ tbl, w ∈ w_Book_numberOf := fun _ q => List.mem_cons_of_mem _ q
  have hS : va_S (hA b0) s.heap s.heap [] := va_S.rf
  have hl := lv_entry ([.ref a0, .int i1]) (n := 2) (Nat.le_of_ble_eq_true rfl)
  rw [lg_entry_eq]
  generalize (lg_sl ([.ref a0, .int i1]) ++ List.replicate (2 - (lg_sl ([.ref a0, .int i1])).length) Slot.unset).toArray = ls at hl ⊢
  have hl : lv_has ls 2 [(0, .ref a0), (1, .int i1)] := hl
  unfold f_Book_numberOf at hrun
  refine lv_iload_n hx hb d_Book_numberOf_0 rfl (lv_at hl 1 rfl) ?_
  refine lv_if_lt (tgt := 22) hx hb d_Book_numberOf_1 (by decide) (fun c1 => ?_) (fun c1 => ?_)
  · rw [if_pos c1] at hrun
    refine lv_iconst (v := (-1 : Int32)) hx hb d_Book_numberOf_22 (by decide) ?_
    cases hrun
    exact W.iret hx hb hr (fun t ht hW9 => ⟨⟨_, (), rfl, rfl, by show hW D dA classes b0 _ _ t.heap; rw [ht]; exact hw⟩, hS.F ht⟩) hS.2.2 d_Book_numberOf_23
  · rw [if_neg c1] at hrun
    refine lv_iload_n hx hb d_Book_numberOf_4 rfl (lv_at hl 1 rfl) ?_
    refine lv_aload_n hx hb d_Book_numberOf_5 rfl (lv_at hl 0 rfl) ?_
    replace hrun := hb_some hrun
    obtain ⟨v6, g6, hrun⟩ := hrun
    refine h_getR S (fun w q => hT w (i_Book w q)) hK (ci := 3) rfl 1 (by decide) (hT _ fl_Book_17) hw g6 d_Book_numberOf_6 ?_
    replace hrun := hb_some hrun
    obtain ⟨p9, rfl, hrun⟩ := hrun
    replace hrun := hb_some hrun
    obtain ⟨v9, g9, hrun⟩ := hrun
    refine h_alen S hK (kd := 0) rfl hw g9 d_Book_numberOf_9 ?_
    refine lv_icmp_ge (tgt := 22) hx hb d_Book_numberOf_10 (by decide) (fun c10 => ?_) (fun c10 => ?_)
    · rw [if_pos c10] at hrun
      refine lv_iconst (v := (-1 : Int32)) hx hb d_Book_numberOf_22 (by decide) ?_
      cases hrun
      exact W.iret hx hb hr (fun t ht hW9 => ⟨⟨_, (), rfl, rfl, by show hW D dA classes b0 _ _ t.heap; rw [ht]; exact hw⟩, hS.F ht⟩) hS.2.2 d_Book_numberOf_23
    · rw [if_neg c10] at hrun
      refine lv_aload_n hx hb d_Book_numberOf_13 rfl (lv_at hl 0 rfl) ?_
      replace hrun := hb_some hrun
      obtain ⟨v14, g14, hrun⟩ := hrun
      refine h_getR S (fun w q => hT w (i_Book w q)) hK (ci := 3) rfl 1 (by decide) (hT _ fl_Book_17) hw g14 d_Book_numberOf_14 ?_
      refine lv_iload_n hx hb d_Book_numberOf_17 rfl (lv_at hl 1 rfl) ?_
      replace hrun := hb_some hrun
      obtain ⟨p18, rfl, hrun⟩ := hrun
      replace hrun := hb_some hrun
      obtain ⟨v18, g18, hrun⟩ := hrun
      refine h_iald S hK (kd := 0) rfl hw g18 d_Book_numberOf_18 ?_
      refine lv_goto (tgt := 23) hx hb d_Book_numberOf_19 (by decide) ?_
      cases hrun
      exact W.iret hx hb hr (fun t ht hW9 => ⟨⟨_, (), rfl, rfl, by show hW D dA classes b0 _ _ t.heap; rw [ht]; exact hw⟩, hS.F ht⟩) hS.2.2 d_Book_numberOf_23
set_option maxHeartbeats 4000000 in
set_option maxRecDepth 100000 in
theorem c_Book_macroOf (l : Launch) (D : va_G) (dA : Nat → ClassId) (b0 : Nat) (a0 : Nat) (i1 : Int32) (nx : Nat) {h : hH} {r : Option Nat} (hrun : f_Book_macroOf a0 i1 h = some r) : Met l y_Book_macroOf w_Book_macroOf ({ frames := 1, cells := 0, slots := 0, locals := 21 } : Room) (va_Pc [.ref a0, .int i1] (hB D dA b0 nx h)) (va_Qq (fun r' (_ : Unit) => r' = r) (fun (_ : Unit) t => hW D dA classes b0 nx h t.heap) (hA b0)) 0 0 (hA b0) := by
  refine Met.ofW (cc := b_Book_macroOf) (maxL := 2) (ret := (some (.object "MacroExpand$Macro"))) (by decide) rfl ?_
  intro p e s m args below meth c s₁ B hml hv
  obtain ⟨rfl, hw, hK, hN⟩ := hv
  have hx := B.exec
  have hb := B.bytes
  have hr := B.returns
  have hlocks := B.notSynchronized
  have S : CallFix p m c b_Book_macroOf 2 s ([.ref a0, .int i1] : List Value).toArray w_Book_macroOf R_Book := ⟨hx, hb, hml, findClass_of_methodNamed B.named, atoms_spec (ws := w_Book_macroOf) B.pre⟩
  have hT : ∀ w ∈ tbl, w ∈ w_Book_macroOf := fun _ q => List.mem_cons_of_mem _ q
  have hS : va_S (hA b0) s.heap s.heap [] := va_S.rf
  have hl := lv_entry ([.ref a0, .int i1]) (n := 2) (Nat.le_of_ble_eq_true rfl)
  rw [lg_entry_eq]
  generalize (lg_sl ([.ref a0, .int i1]) ++ List.replicate (2 - (lg_sl ([.ref a0, .int i1])).length) Slot.unset).toArray = ls at hl ⊢
  have hl : lv_has ls 2 [(0, .ref a0), (1, .int i1)] := hl
  unfold f_Book_macroOf at hrun
  refine lv_aload_n hx hb d_Book_macroOf_0 rfl (lv_at hl 0 rfl) ?_
  refine lv_aload_n hx hb d_Book_macroOf_1 rfl (lv_at hl 0 rfl) ?_
  refine lv_iload_n hx hb d_Book_macroOf_2 rfl (lv_at hl 1 rfl) ?_
  refine lv_sipush (v := (1000 : Int32)) hx hb d_Book_macroOf_3 (by decide) ?_
  refine lv_isub hx hb d_Book_macroOf_6 ?_
  replace hrun := hb_some hrun
  obtain ⟨c7, k7, hrun⟩ := hrun
  replace hrun := hb_some hrun
  obtain ⟨v7, g7, hrun⟩ := hrun
  refine h_ci (h_runV S (As := [.int (i1 - (1000 : Int32))]) (rest := [.ref a0]) (c_Book_numberOf l D dA b0 a0 (i1 - (1000 : Int32)) nx g7) (cwV 1 S.2.2.2.2 (h_good _ (h_in4 ml_Book_39 im_Book_numberOf se_Book_numberOf it_Book) cd_Book_numberOf) rfl rfl rfl (by decide +kernel) ⟨Nat.le_of_ble_eq_true rfl, Nat.le_of_ble_eq_true rfl⟩) hK hN hw (ci := 3) rfl k7 rfl hl.1 (lv_room (Nat.le_of_ble_eq_true rfl)) d_Book_macroOf_7 ⟨Nat.le_refl _, Nat.le_refl _⟩) hS (fun H locs hw hS => ?_)
  replace hrun := hb_some hrun
  obtain ⟨c10, k10, hrun⟩ := hrun
  replace hrun := hb_some hrun
  obtain ⟨v10, g10, hrun⟩ := hrun
  refine h_cq (h_runV S (As := [.int v7]) (rest := []) (c_Book_numbered l D dA b0 a0 v7 nx g10) (cwV 1 S.2.2.2.2 (h_good _ (h_in4 ml_Book_43 im_Book_numbered se_Book_numbered it_Book) cd_Book_numbered) rfl rfl rfl (by decide +kernel) ⟨Nat.le_of_ble_eq_true rfl, Nat.le_of_ble_eq_true rfl⟩) hK hN hw (ci := 3) rfl k10 rfl hl.1 (lv_room (Nat.le_of_ble_eq_true rfl)) d_Book_macroOf_10 ⟨Nat.le_refl _, Nat.le_refl _⟩) hS (fun H locs hw hS => ?_)
  cases hrun
  exact W.aret hx hb hr (Or.inl ⟨_, rfl⟩) (va_rf_or _) (fun t ht hW9 => ⟨⟨_, (), rfl, rfl, by show hW D dA classes b0 _ _ t.heap; rw [ht]; exact hw⟩, hS.F ht⟩) hS.2.2 d_Book_macroOf_13
set_option maxHeartbeats 4000000 in
set_option maxRecDepth 100000 in
theorem c_Expander_canExpand (l : Launch) (D : va_G) (dA : Nat → ClassId) (b0 : Nat) (a0 : Nat) (nx : Nat) {h : hH} {r : Int32} (hrun : f_Expander_canExpand a0 h = some r) : Met l y_Expander_canExpand w_Expander_canExpand ({ frames := 2, cells := 0, slots := 0, locals := 42 } : Room) (va_Pc [.ref a0] (hB D dA b0 nx h)) (va_Qi (fun r' (_ : Unit) => r' = r) (fun (_ : Unit) t => hW D dA classes b0 nx h t.heap) (hA b0)) 0 0 (hA b0) := by
  refine Met.ofW (cc := b_Expander_canExpand) (maxL := 2) (ret := (some .boolean)) (by decide) rfl ?_
  intro p e s m args below meth c s₁ B hml hv
  obtain ⟨rfl, hw, hK, hN⟩ := hv
  have hx := B.exec
  have hb := B.bytes
  have hr := B.returns
  have hlocks := B.notSynchronized
  have S : CallFix p m c b_Expander_canExpand 2 s ([.ref a0] : List Value).toArray w_Expander_canExpand R_Expander := ⟨hx, hb, hml, findClass_of_methodNamed B.named, atoms_spec (ws := w_Expander_canExpand) B.pre⟩
  have hT : ∀ w ∈ tbl, w ∈ w_Expander_canExpand := fun _ q => List.mem_cons_of_mem _ q
  have hS : va_S (hA b0) s.heap s.heap [] := va_S.rf
  have hl := lv_entry ([.ref a0]) (n := 2) (Nat.le_of_ble_eq_true rfl)
  rw [lg_entry_eq]
  generalize (lg_sl ([.ref a0]) ++ List.replicate (2 - (lg_sl ([.ref a0])).length) Slot.unset).toArray = ls at hl ⊢
  have hl : lv_has ls 2 [(0, .ref a0)] := hl
  unfold f_Expander_canExpand at hrun
  refine lv_aload_n hx hb d_Expander_canExpand_0 rfl (lv_at hl 0 rfl) ?_
  replace hrun := hb_some hrun
  obtain ⟨v1, g1, hrun⟩ := hrun
  refine h_getR S (fun w q => hT w (i_Expander w q)) hK (ci := 5) rfl 1 (by decide) (hT _ fl_Expander_15) hw g1 d_Expander_canExpand_1 ?_
  refine lv_iconst (v := (0 : Int32)) hx hb d_Expander_canExpand_4 (by decide) ?_
  replace hrun := hb_some hrun
  obtain ⟨p5, rfl, hrun⟩ := hrun
  replace hrun := hb_some hrun
  obtain ⟨c5, k5, hrun⟩ := hrun
  replace hrun := hb_some hrun
  obtain ⟨v5, g5, hrun⟩ := hrun
  refine h_ci (h_runV S (As := [.int (0 : Int32)]) (rest := []) (c_Input_get l D dA b0 p5 (0 : Int32) nx g5) (cwV 1 S.2.2.2.2 (h_good _ (h_in4 ml_Expander_72 im_Input_get se_Input_get it_Input) cd_Input_get) rfl rfl rfl (by decide +kernel) ⟨Nat.le_of_ble_eq_true rfl, Nat.le_of_ble_eq_true rfl⟩) hK hN hw (ci := 6) rfl k5 rfl hl.1 (lv_room (Nat.le_of_ble_eq_true rfl)) d_Expander_canExpand_5 ⟨Nat.le_refl _, Nat.le_refl _⟩) hS (fun H locs hw hS => ?_)
  refine lv_istore_n (lv' := [(1, .int v5), (0, .ref a0)]) hx hb d_Expander_canExpand_8 rfl hl (by decide) rfl (fun ls hl => ?_)
  refine lv_aload_n hx hb d_Expander_canExpand_9 rfl (lv_at hl 1 rfl) ?_
  replace hrun := hb_some hrun
  obtain ⟨v10, g10, hrun⟩ := hrun
  refine h_getI S (fun w q => hT w (i_Expander w q)) hK (ci := 5) rfl 11 (by decide) (hT _ fl_Expander_63) hw g10 d_Expander_canExpand_10 ?_
  refine lv_if_ne (tgt := 52) hx hb d_Expander_canExpand_13 (by decide) (fun c13 => ?_) (fun c13 => ?_)
  · rw [if_neg c13] at hrun
    refine lv_iconst (v := (0 : Int32)) hx hb d_Expander_canExpand_52 (by decide) ?_
    cases hrun
    exact W.zret hx hb hr (by decide) (fun t ht hW9 => ⟨⟨_, (), rfl, rfl, by show hW D dA classes b0 _ _ t.heap; rw [ht]; exact hw⟩, hS.F ht⟩) hS.2.2 d_Expander_canExpand_53
  · rw [if_pos c13] at hrun
    refine lv_iload_n hx hb d_Expander_canExpand_16 rfl (lv_at hl 0 rfl) ?_
    refine lv_sipush (v := (260 : Int32)) hx hb d_Expander_canExpand_17 (by decide) ?_
    refine lv_icmp_eq (tgt := 48) hx hb d_Expander_canExpand_20 (by decide) (fun c20 => ?_) (fun c20 => ?_)
    · rw [if_pos c20] at hrun
      refine lv_iconst (v := (1 : Int32)) hx hb d_Expander_canExpand_48 (by decide) ?_
      refine lv_goto (tgt := 53) hx hb d_Expander_canExpand_49 (by decide) ?_
      cases hrun
      exact W.zret hx hb hr (by decide) (fun t ht hW9 => ⟨⟨_, (), rfl, rfl, by show hW D dA classes b0 _ _ t.heap; rw [ht]; exact hw⟩, hS.F ht⟩) hS.2.2 d_Expander_canExpand_53
    · rw [if_neg c20] at hrun
      refine lv_iload_n hx hb d_Expander_canExpand_23 rfl (lv_at hl 0 rfl) ?_
      refine lv_sipush (v := (261 : Int32)) hx hb d_Expander_canExpand_24 (by decide) ?_
      refine lv_icmp_eq (tgt := 48) hx hb d_Expander_canExpand_27 (by decide) (fun c27 => ?_) (fun c27 => ?_)
      · rw [if_pos c27] at hrun
        refine lv_iconst (v := (1 : Int32)) hx hb d_Expander_canExpand_48 (by decide) ?_
        refine lv_goto (tgt := 53) hx hb d_Expander_canExpand_49 (by decide) ?_
        cases hrun
        exact W.zret hx hb hr (by decide) (fun t ht hW9 => ⟨⟨_, (), rfl, rfl, by show hW D dA classes b0 _ _ t.heap; rw [ht]; exact hw⟩, hS.F ht⟩) hS.2.2 d_Expander_canExpand_53
      · rw [if_neg c27] at hrun
        refine lv_iload_n hx hb d_Expander_canExpand_30 rfl (lv_at hl 0 rfl) ?_
        refine lv_sipush (v := (262 : Int32)) hx hb d_Expander_canExpand_31 (by decide) ?_
        refine lv_icmp_eq (tgt := 48) hx hb d_Expander_canExpand_34 (by decide) (fun c34 => ?_) (fun c34 => ?_)
        · rw [if_pos c34] at hrun
          refine lv_iconst (v := (1 : Int32)) hx hb d_Expander_canExpand_48 (by decide) ?_
          refine lv_goto (tgt := 53) hx hb d_Expander_canExpand_49 (by decide) ?_
          cases hrun
          exact W.zret hx hb hr (by decide) (fun t ht hW9 => ⟨⟨_, (), rfl, rfl, by show hW D dA classes b0 _ _ t.heap; rw [ht]; exact hw⟩, hS.F ht⟩) hS.2.2 d_Expander_canExpand_53
        · rw [if_neg c34] at hrun
          refine lv_aload_n hx hb d_Expander_canExpand_37 rfl (lv_at hl 1 rfl) ?_
          replace hrun := hb_some hrun
          obtain ⟨v38, g38, hrun⟩ := hrun
          refine h_getR S (fun w q => hT w (i_Expander w q)) hK (ci := 5) rfl 2 (by decide) (hT _ fl_Expander_19) hw g38 d_Expander_canExpand_38 ?_
          refine lv_iload_n hx hb d_Expander_canExpand_41 rfl (lv_at hl 0 rfl) ?_
          replace hrun := hb_some hrun
          obtain ⟨p42, rfl, hrun⟩ := hrun
          replace hrun := hb_some hrun
          obtain ⟨c42, k42, hrun⟩ := hrun
          replace hrun := hb_some hrun
          obtain ⟨v42, g42, hrun⟩ := hrun
          refine h_cq (h_runV S (As := [.int v5]) (rest := []) (c_Book_macroOf l D dA b0 p42 v5 nx g42) (cwV 1 S.2.2.2.2 (h_good _ (h_in4 ml_Expander_78 im_Book_macroOf se_Book_macroOf it_Book) cd_Book_macroOf) rfl rfl rfl (by decide +kernel) ⟨Nat.le_of_ble_eq_true rfl, Nat.le_of_ble_eq_true rfl⟩) hK hN hw (ci := 3) rfl k42 rfl hl.1 (lv_room (Nat.le_of_ble_eq_true rfl)) d_Expander_canExpand_42 ⟨Nat.le_refl _, Nat.le_refl _⟩) hS (fun H locs hw hS => ?_)
          rcases v42 with _ | p45
          · dsimp only [hNull] at hrun
            refine lv_ifnullN (tgt := 52) hx hb d_Expander_canExpand_45 (by decide) ?_
            refine lv_iconst (v := (0 : Int32)) hx hb d_Expander_canExpand_52 (by decide) ?_
            cases hrun
            exact W.zret hx hb hr (by decide) (fun t ht hW9 => ⟨⟨_, (), rfl, rfl, by show hW D dA classes b0 _ _ t.heap; rw [ht]; exact hw⟩, hS.F ht⟩) hS.2.2 d_Expander_canExpand_53
          · dsimp only [hNull] at hrun
            refine lv_ifnull hx hb d_Expander_canExpand_45 ?_
            refine lv_iconst (v := (1 : Int32)) hx hb d_Expander_canExpand_48 (by decide) ?_
            refine lv_goto (tgt := 53) hx hb d_Expander_canExpand_49 (by decide) ?_
            cases hrun
            exact W.zret hx hb hr (by decide) (fun t ht hW9 => ⟨⟨_, (), rfl, rfl, by show hW D dA classes b0 _ _ t.heap; rw [ht]; exact hw⟩, hS.F ht⟩) hS.2.2 d_Expander_canExpand_53
set_option maxHeartbeats 4000000 in
set_option maxRecDepth 100000 in
theorem c_Input_take (l : Launch) (D : va_G) (dA : Nat → ClassId) (b0 : Nat) (a0 : Nat) (nx : Nat) {h h' : hH} {r : Int32} (hrun : f_Input_take a0 h = some (r, h')) : Met l y_Input_take w_Input_take ({ frames := 0, cells := 0, slots := 0, locals := 0 } : Room) (va_Pc [.ref a0] (hB D dA b0 nx h)) (va_Qi (fun r' (_ : Unit) => r' = r) (fun (_ : Unit) t => hW D dA classes b0 nx h' t.heap) (hA b0)) 0 0 (hA b0) := by
  refine Met.ofW (cc := b_Input_take) (maxL := 1) (ret := (some .int)) (by decide) rfl ?_
  intro p e s m args below meth c s₁ B hml hv
  obtain ⟨rfl, hw, hK, hN⟩ := hv
  have hx := B.exec
  have hb := B.bytes
  have hr := B.returns
  have hlocks := B.notSynchronized
  have S : CallFix p m c b_Input_take 1 s ([.ref a0] : List Value).toArray w_Input_take R_Input := ⟨hx, hb, hml, findClass_of_methodNamed B.named, atoms_spec (ws := w_Input_take) B.pre⟩
  have hT : ∀ w ∈ tbl, w ∈ w_Input_take := fun _ q => List.mem_cons_of_mem _ q
  have hS : va_S (hA b0) s.heap s.heap [] := va_S.rf
  have hl := lv_entry ([.ref a0]) (n := 1) (Nat.le_of_ble_eq_true rfl)
  rw [lg_entry_eq]
  generalize (lg_sl ([.ref a0]) ++ List.replicate (1 - (lg_sl ([.ref a0])).length) Slot.unset).toArray = ls at hl ⊢
  have hl : lv_has ls 1 [(0, .ref a0)] := hl
  unfold f_Input_take at hrun
  refine lv_aload_n hx hb d_Input_take_0 rfl (lv_at hl 0 rfl) ?_
  replace hrun := hb_some hrun
  obtain ⟨v1, g1, hrun⟩ := hrun
  refine h_getI S (fun w q => hT w (i_Input w q)) hK (ci := 6) rfl 1 (by decide) (hT _ fl_Input_15) hw g1 d_Input_take_1 ?_
  refine lv_if_gt (tgt := 9) hx hb d_Input_take_4 (by decide) (fun c4 => ?_) (fun c4 => ?_)
  · rw [if_pos c4] at hrun
    refine lv_aload_n hx hb d_Input_take_9 rfl (lv_at hl 0 rfl) ?_
    refine lv_dup hx hb d_Input_take_10 rfl ?_
    replace hrun := hb_some hrun
    obtain ⟨v11, g11, hrun⟩ := hrun
    refine h_getI S (fun w q => hT w (i_Input w q)) hK (ci := 6) rfl 1 (by decide) (hT _ fl_Input_15) hw g11 d_Input_take_11 ?_
    refine lv_iconst (v := (1 : Int32)) hx hb d_Input_take_14 (by decide) ?_
    refine lv_isub hx hb d_Input_take_15 ?_
    replace hrun := hb_some hrun
    obtain ⟨h16, g16, hrun⟩ := hrun
    refine h_put S (fun w q => hT w (i_Input w q)) t_Input t_Input_ok n_Input hK (ci := 6) rfl 1 (by decide) (hT _ fl_Input_15) rfl rfl rfl hw hS g16 d_Input_take_16 (fun H locs hw hS => ?_)
    refine lv_aload_n hx hb d_Input_take_19 rfl (lv_at hl 0 rfl) ?_
    replace hrun := hb_some hrun
    obtain ⟨v20, g20, hrun⟩ := hrun
    refine h_getR S (fun w q => hT w (i_Input w q)) hK (ci := 6) rfl 0 (by decide) (hT _ fl_Input_9) hw g20 d_Input_take_20 ?_
    refine lv_aload_n hx hb d_Input_take_23 rfl (lv_at hl 0 rfl) ?_
    replace hrun := hb_some hrun
    obtain ⟨v24, g24, hrun⟩ := hrun
    refine h_getI S (fun w q => hT w (i_Input w q)) hK (ci := 6) rfl 1 (by decide) (hT _ fl_Input_15) hw g24 d_Input_take_24 ?_
    replace hrun := hb_some hrun
    obtain ⟨p27, rfl, hrun⟩ := hrun
    replace hrun := hb_some hrun
    obtain ⟨v27, g27, hrun⟩ := hrun
    refine h_iald S hK (kd := 0) rfl hw g27 d_Input_take_27 ?_
    cases hrun
    exact W.iret hx hb hr (fun t ht hW9 => ⟨⟨_, (), rfl, rfl, by show hW D dA classes b0 _ _ t.heap; rw [ht]; exact hw⟩, hS.F ht⟩) hS.2.2 d_Input_take_28
  · rw [if_neg c4] at hrun
    refine lv_iconst (v := (-1 : Int32)) hx hb d_Input_take_7 (by decide) ?_
    cases hrun
    exact W.iret hx hb hr (fun t ht hW9 => ⟨⟨_, (), rfl, rfl, by show hW D dA classes b0 _ _ t.heap; rw [ht]; exact hw⟩, hS.F ht⟩) hS.2.2 d_Input_take_8
set_option maxHeartbeats 4000000 in
set_option maxRecDepth 100000 in
theorem c_Expander_beginAfter (l : Launch) (D : va_G) (dA : Nat → ClassId) (b0 : Nat) (a0 : Nat) (nx : Nat) {h h' : hH} {r : Int32} (hrun : f_Expander_beginAfter a0 h = some (r, h')) : Met l y_Expander_beginAfter w_Expander_beginAfter ({ frames := 1, cells := 0, slots := 0, locals := 20 } : Room) (va_Pc [.ref a0] (hB D dA b0 nx h)) (va_Qi (fun r' (_ : Unit) => r' = r) (fun (_ : Unit) t => hW D dA classes b0 nx h' t.heap) (hA b0)) 0 0 (hA b0) := by
  refine Met.ofW (cc := b_Expander_beginAfter) (maxL := 1) (ret := (some .int)) (by decide) rfl ?_
  intro p e s m args below meth c s₁ B hml hv
  obtain ⟨rfl, hw, hK, hN⟩ := hv
  have hx := B.exec
  have hb := B.bytes
  have hr := B.returns
  have hlocks := B.notSynchronized
  have S : CallFix p m c b_Expander_beginAfter 1 s ([.ref a0] : List Value).toArray w_Expander_beginAfter R_Expander := ⟨hx, hb, hml, findClass_of_methodNamed B.named, atoms_spec (ws := w_Expander_beginAfter) B.pre⟩
  have hT : ∀ w ∈ tbl, w ∈ w_Expander_beginAfter := fun _ q => List.mem_cons_of_mem _ q
  have hS : va_S (hA b0) s.heap s.heap [] := va_S.rf
  have hl := lv_entry ([.ref a0]) (n := 1) (Nat.le_of_ble_eq_true rfl)
  rw [lg_entry_eq]
  generalize (lg_sl ([.ref a0]) ++ List.replicate (1 - (lg_sl ([.ref a0])).length) Slot.unset).toArray = ls at hl ⊢
  have hl : lv_has ls 1 [(0, .ref a0)] := hl
  unfold f_Expander_beginAfter at hrun
  refine lv_aload_n hx hb d_Expander_beginAfter_0 rfl (lv_at hl 0 rfl) ?_
  replace hrun := hb_some hrun
  obtain ⟨v1, g1, hrun⟩ := hrun
  refine h_getR S (fun w q => hT w (i_Expander w q)) hK (ci := 5) rfl 1 (by decide) (hT _ fl_Expander_15) hw g1 d_Expander_beginAfter_1 ?_
  replace hrun := hb_some hrun
  obtain ⟨p4, rfl, hrun⟩ := hrun
  replace hrun := hb_some hrun
  obtain ⟨v4, g4, hrun⟩ := hrun
  refine h_getNI S (fun w q => hT w (i_Input w q)) hK (ci := 6) rfl 1 (by decide) (hN.1 _ nf_Expander_115) hw g4 d_Expander_beginAfter_4 ?_
  refine lv_iconst (v := (2 : Int32)) hx hb d_Expander_beginAfter_7 (by decide) ?_
  refine lv_icmp_ge (tgt := 13) hx hb d_Expander_beginAfter_8 (by decide) (fun c8 => ?_) (fun c8 => ?_)
  · rw [if_pos c8] at hrun
    refine lv_aload_n hx hb d_Expander_beginAfter_13 rfl (lv_at hl 0 rfl) ?_
    replace hrun := hb_some hrun
    obtain ⟨v14, g14, hrun⟩ := hrun
    refine h_getI S (fun w q => hT w (i_Expander w q)) hK (ci := 5) rfl 9 (by decide) (hT _ fl_Expander_56) hw g14 d_Expander_beginAfter_14 ?_
    refine lv_bipush (v := (50 : Int32)) hx hb d_Expander_beginAfter_17 (by decide) ?_
    refine lv_icmp_lt (tgt := 25) hx hb d_Expander_beginAfter_19 (by decide) (fun c19 => ?_) (fun c19 => ?_)
    · rw [if_pos c19] at hrun
      refine lv_aload_n hx hb d_Expander_beginAfter_25 rfl (lv_at hl 0 rfl) ?_
      replace hrun := hb_some hrun
      obtain ⟨v26, g26, hrun⟩ := hrun
      refine h_getR S (fun w q => hT w (i_Expander w q)) hK (ci := 5) rfl 6 (by decide) (hT _ fl_Expander_43) hw g26 d_Expander_beginAfter_26 ?_
      refine lv_aload_n hx hb d_Expander_beginAfter_29 rfl (lv_at hl 0 rfl) ?_
      replace hrun := hb_some hrun
      obtain ⟨v30, g30, hrun⟩ := hrun
      refine h_getI S (fun w q => hT w (i_Expander w q)) hK (ci := 5) rfl 9 (by decide) (hT _ fl_Expander_56) hw g30 d_Expander_beginAfter_30 ?_
      refine lv_aload_n hx hb d_Expander_beginAfter_33 rfl (lv_at hl 0 rfl) ?_
      replace hrun := hb_some hrun
      obtain ⟨v34, g34, hrun⟩ := hrun
      refine h_getR S (fun w q => hT w (i_Expander w q)) hK (ci := 5) rfl 1 (by decide) (hT _ fl_Expander_15) hw g34 d_Expander_beginAfter_34 ?_
      replace hrun := hb_some hrun
      obtain ⟨p37, rfl, hrun⟩ := hrun
      replace hrun := hb_some hrun
      obtain ⟨c37, k37, hrun⟩ := hrun
      replace hrun := hbW_some hrun
      obtain ⟨v37, h37, g37, hrun⟩ := hrun
      refine h_ci (h_runV S (As := []) (rest := [.int v30, va_rf v26]) (c_Input_take l D dA b0 p37 nx g37) (cwV 0 S.2.2.2.2 (h_good _ (h_in4 ml_Expander_84 im_Input_take se_Input_take it_Input) cd_Input_take) rfl rfl rfl (by decide +kernel) ⟨Nat.le_of_ble_eq_true rfl, Nat.le_of_ble_eq_true rfl⟩) hK hN hw (ci := 6) rfl k37 rfl hl.1 (lv_room (by simp only [List.map, List.sum_cons, List.sum_nil, h_cat]; exact Nat.le_of_ble_eq_true rfl)) d_Expander_beginAfter_37 ⟨Nat.le_refl _, Nat.le_refl _⟩) hS (fun H locs hw hS => ?_)
      replace hrun := hb_some hrun
      obtain ⟨p40, rfl, hrun⟩ := hrun
      replace hrun := hb_some hrun
      obtain ⟨h40, g40, hrun⟩ := hrun
      refine h_iast S hK (kd := 0) rfl hw hS g40 d_Expander_beginAfter_40 (fun H locs hw hS => ?_)
      refine lv_aload_n hx hb d_Expander_beginAfter_41 rfl (lv_at hl 0 rfl) ?_
      refine lv_dup hx hb d_Expander_beginAfter_42 rfl ?_
      replace hrun := hb_some hrun
      obtain ⟨v43, g43, hrun⟩ := hrun
      refine h_getI S (fun w q => hT w (i_Expander w q)) hK (ci := 5) rfl 9 (by decide) (hT _ fl_Expander_56) hw g43 d_Expander_beginAfter_43 ?_
      refine lv_iconst (v := (1 : Int32)) hx hb d_Expander_beginAfter_46 (by decide) ?_
      refine lv_iadd hx hb d_Expander_beginAfter_47 ?_
      replace hrun := hb_some hrun
      obtain ⟨h48, g48, hrun⟩ := hrun
      refine h_put S (fun w q => hT w (i_Expander w q)) t_Expander t_Expander_ok n_Expander hK (ci := 5) rfl 9 (by decide) (hT _ fl_Expander_56) rfl rfl rfl hw hS g48 d_Expander_beginAfter_48 (fun H locs hw hS => ?_)
      refine lv_aload_n hx hb d_Expander_beginAfter_51 rfl (lv_at hl 0 rfl) ?_
      refine lv_iconst (v := (1 : Int32)) hx hb d_Expander_beginAfter_52 (by decide) ?_
      replace hrun := hb_some hrun
      obtain ⟨h53, g53, hrun⟩ := hrun
      obtain ⟨n53, f53, g53⟩ := hpZ_spec g53
      refine h_put S (fun w q => hT w (i_Expander w q)) t_Expander t_Expander_ok n_Expander hK (ci := 5) rfl 10 (by decide) (hT _ fl_Expander_59) rfl n53 f53 hw hS g53 d_Expander_beginAfter_53 (fun H locs hw hS => ?_)
      refine lv_iconst (v := (0 : Int32)) hx hb d_Expander_beginAfter_56 (by decide) ?_
      cases hrun
      exact W.iret hx hb hr (fun t ht hW9 => ⟨⟨_, (), rfl, rfl, by show hW D dA classes b0 _ _ t.heap; rw [ht]; exact hw⟩, hS.F ht⟩) hS.2.2 d_Expander_beginAfter_57
    · rw [if_neg c19] at hrun
      refine lv_bipush (v := (8 : Int32)) hx hb d_Expander_beginAfter_22 (by decide) ?_
      cases hrun
      exact W.iret hx hb hr (fun t ht hW9 => ⟨⟨_, (), rfl, rfl, by show hW D dA classes b0 _ _ t.heap; rw [ht]; exact hw⟩, hS.F ht⟩) hS.2.2 d_Expander_beginAfter_24
  · rw [if_neg c8] at hrun
    refine lv_iconst (v := (1 : Int32)) hx hb d_Expander_beginAfter_11 (by decide) ?_
    cases hrun
    exact W.iret hx hb hr (fun t ht hW9 => ⟨⟨_, (), rfl, rfl, by show hW D dA classes b0 _ _ t.heap; rw [ht]; exact hw⟩, hS.F ht⟩) hS.2.2 d_Expander_beginAfter_12
set_option maxHeartbeats 4000000 in
set_option maxRecDepth 100000 in
theorem c_Expander_beginNaming (l : Launch) (D : va_G) (dA : Nat → ClassId) (b0 : Nat) (a0 : Nat) (nx : Nat) {h h' : hH} {r : Int32} (hrun : f_Expander_beginNaming a0 h = some (r, h')) : Met l y_Expander_beginNaming w_Expander_beginNaming ({ frames := 0, cells := 0, slots := 0, locals := 0 } : Room) (va_Pc [.ref a0] (hB D dA b0 nx h)) (va_Qi (fun r' (_ : Unit) => r' = r) (fun (_ : Unit) t => hW D dA classes b0 nx h' t.heap) (hA b0)) 0 0 (hA b0) := by
  refine Met.ofW (cc := b_Expander_beginNaming) (maxL := 1) (ret := (some .int)) (by decide) rfl ?_
  intro p e s m args below meth c s₁ B hml hv
  obtain ⟨rfl, hw, hK, hN⟩ := hv
  have hx := B.exec
  have hb := B.bytes
  have hr := B.returns
  have hlocks := B.notSynchronized
  have S : CallFix p m c b_Expander_beginNaming 1 s ([.ref a0] : List Value).toArray w_Expander_beginNaming R_Expander := ⟨hx, hb, hml, findClass_of_methodNamed B.named, atoms_spec (ws := w_Expander_beginNaming) B.pre⟩
  have hT : ∀ w ∈ tbl, w ∈ w_Expander_beginNaming := fun _ q => List.mem_cons_of_mem _ q
  have hS : va_S (hA b0) s.heap s.heap [] := va_S.rf
  have hl := lv_entry ([.ref a0]) (n := 1) (Nat.le_of_ble_eq_true rfl)
  rw [lg_entry_eq]
  generalize (lg_sl ([.ref a0]) ++ List.replicate (1 - (lg_sl ([.ref a0])).length) Slot.unset).toArray = ls at hl ⊢
  have hl : lv_has ls 1 [(0, .ref a0)] := hl
  unfold f_Expander_beginNaming at hrun
  refine lv_aload_n hx hb d_Expander_beginNaming_0 rfl (lv_at hl 0 rfl) ?_
  replace hrun := hb_some hrun
  obtain ⟨v1, g1, hrun⟩ := hrun
  refine h_getI S (fun w q => hT w (i_Expander w q)) hK (ci := 5) rfl 9 (by decide) (hT _ fl_Expander_56) hw g1 d_Expander_beginNaming_1 ?_
  refine lv_bipush (v := (50 : Int32)) hx hb d_Expander_beginNaming_4 (by decide) ?_
  refine lv_icmp_lt (tgt := 12) hx hb d_Expander_beginNaming_6 (by decide) (fun c6 => ?_) (fun c6 => ?_)
  · rw [if_pos c6] at hrun
    refine lv_aload_n hx hb d_Expander_beginNaming_12 rfl (lv_at hl 0 rfl) ?_
    replace hrun := hb_some hrun
    obtain ⟨v13, g13, hrun⟩ := hrun
    refine h_getR S (fun w q => hT w (i_Expander w q)) hK (ci := 5) rfl 6 (by decide) (hT _ fl_Expander_43) hw g13 d_Expander_beginNaming_13 ?_
    refine lv_aload_n hx hb d_Expander_beginNaming_16 rfl (lv_at hl 0 rfl) ?_
    replace hrun := hb_some hrun
    obtain ⟨v17, g17, hrun⟩ := hrun
    refine h_getI S (fun w q => hT w (i_Expander w q)) hK (ci := 5) rfl 9 (by decide) (hT _ fl_Expander_56) hw g17 d_Expander_beginNaming_17 ?_
    refine lv_iconst (v := (-1 : Int32)) hx hb d_Expander_beginNaming_20 (by decide) ?_
    replace hrun := hb_some hrun
    obtain ⟨p21, rfl, hrun⟩ := hrun
    replace hrun := hb_some hrun
    obtain ⟨h21, g21, hrun⟩ := hrun
    refine h_iast S hK (kd := 0) rfl hw hS g21 d_Expander_beginNaming_21 (fun H locs hw hS => ?_)
    refine lv_aload_n hx hb d_Expander_beginNaming_22 rfl (lv_at hl 0 rfl) ?_
    replace hrun := hb_some hrun
    obtain ⟨v23, g23, hrun⟩ := hrun
    refine h_getR S (fun w q => hT w (i_Expander w q)) hK (ci := 5) rfl 8 (by decide) (hT _ fl_Expander_50) hw g23 d_Expander_beginNaming_23 ?_
    refine lv_aload_n hx hb d_Expander_beginNaming_26 rfl (lv_at hl 0 rfl) ?_
    replace hrun := hb_some hrun
    obtain ⟨v27, g27, hrun⟩ := hrun
    refine h_getI S (fun w q => hT w (i_Expander w q)) hK (ci := 5) rfl 9 (by decide) (hT _ fl_Expander_56) hw g27 d_Expander_beginNaming_27 ?_
    refine lv_iconst (v := (0 : Int32)) hx hb d_Expander_beginNaming_30 (by decide) ?_
    replace hrun := hb_some hrun
    obtain ⟨p31, rfl, hrun⟩ := hrun
    replace hrun := hb_some hrun
    obtain ⟨h31, g31, hrun⟩ := hrun
    refine h_iast S hK (kd := 0) rfl hw hS g31 d_Expander_beginNaming_31 (fun H locs hw hS => ?_)
    refine lv_aload_n hx hb d_Expander_beginNaming_32 rfl (lv_at hl 0 rfl) ?_
    refine lv_dup hx hb d_Expander_beginNaming_33 rfl ?_
    replace hrun := hb_some hrun
    obtain ⟨v34, g34, hrun⟩ := hrun
    refine h_getI S (fun w q => hT w (i_Expander w q)) hK (ci := 5) rfl 9 (by decide) (hT _ fl_Expander_56) hw g34 d_Expander_beginNaming_34 ?_
    refine lv_iconst (v := (1 : Int32)) hx hb d_Expander_beginNaming_37 (by decide) ?_
    refine lv_iadd hx hb d_Expander_beginNaming_38 ?_
    replace hrun := hb_some hrun
    obtain ⟨h39, g39, hrun⟩ := hrun
    refine h_put S (fun w q => hT w (i_Expander w q)) t_Expander t_Expander_ok n_Expander hK (ci := 5) rfl 9 (by decide) (hT _ fl_Expander_56) rfl rfl rfl hw hS g39 d_Expander_beginNaming_39 (fun H locs hw hS => ?_)
    refine lv_iconst (v := (0 : Int32)) hx hb d_Expander_beginNaming_42 (by decide) ?_
    cases hrun
    exact W.iret hx hb hr (fun t ht hW9 => ⟨⟨_, (), rfl, rfl, by show hW D dA classes b0 _ _ t.heap; rw [ht]; exact hw⟩, hS.F ht⟩) hS.2.2 d_Expander_beginNaming_43
  · rw [if_neg c6] at hrun
    refine lv_bipush (v := (8 : Int32)) hx hb d_Expander_beginNaming_9 (by decide) ?_
    cases hrun
    exact W.iret hx hb hr (fun t ht hW9 => ⟨⟨_, (), rfl, rfl, by show hW D dA classes b0 _ _ t.heap; rw [ht]; exact hw⟩, hS.F ht⟩) hS.2.2 d_Expander_beginNaming_11
