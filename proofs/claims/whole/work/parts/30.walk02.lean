set_option maxHeartbeats 4000000 in
set_option maxRecDepth 100000 in
theorem c_MacroExpandModel_define (l : Launch) (D : va_G) (dA : Nat → ClassId) (b0 : Nat) (n : Nat) (a0 : Nat) (i1 : Int32) (i2 : Int32) (i3 : Int32) (nx : Nat) {h h' : hH} {r : Int32} (hrun : f_MacroExpandModel_define n a0 i1 i2 i3 h = some (r, h')) : Met l y_MacroExpandModel_define w_MacroExpandModel_define ({ frames := 1, cells := 0, slots := 0, locals := 25 } : Room) (va_Pc [.ref a0, .int i1, .int i2, .int i3] (hB D dA b0 nx h)) (va_Qi (fun r' (_ : Unit) => r' = r) (fun (_ : Unit) t => hW D dA classes b0 nx h' t.heap) (hA b0)) 0 0 (hA b0) := by
  refine Met.ofW (cc := b_MacroExpandModel_define) (maxL := 4) (ret := (some .int)) (by decide) rfl ?_
  intro p e s m args below meth c s₁ B hml hv
  obtain ⟨rfl, hw, hK, hN⟩ := hv
  have hx := B.exec
  have hb := B.bytes
  have hr := B.returns
  have hlocks := B.notSynchronized
  have S : CallFix p m c b_MacroExpandModel_define 4 s ([.ref a0, .int i1, .int i2, .int i3] : List Value).toArray w_MacroExpandModel_define R_MacroExpandModel := ⟨hx, hb, hml, findClass_of_methodNamed B.named, atoms_spec (ws := w_MacroExpandModel_define) B.pre⟩
  have hT : ∀ w ∈ tbl, w ∈ w_MacroExpandModel_define := fun _ q => List.mem_cons_of_mem _ q
  have hS : va_S (hA b0) s.heap s.heap [] := va_S.rf
  have hl := lv_entry ([.ref a0, .int i1, .int i2, .int i3]) (n := 4) (Nat.le_of_ble_eq_true rfl)
  rw [lg_entry_eq]
  generalize (lg_sl ([.ref a0, .int i1, .int i2, .int i3]) ++ List.replicate (4 - (lg_sl ([.ref a0, .int i1, .int i2, .int i3])).length) Slot.unset).toArray = ls at hl ⊢
  have hl : lv_has ls 4 [(0, .ref a0), (1, .int i1), (2, .int i2), (3, .int i3)] := hl
  unfold f_MacroExpandModel_define at hrun
  refine lv_iload_n hx hb d_MacroExpandModel_define_0 rfl (lv_at hl 1 rfl) ?_
  refine lv_iconst (v := (0 : Int32)) hx hb d_MacroExpandModel_define_1 (by decide) ?_
  refine lv_sipush (v := (199 : Int32)) hx hb d_MacroExpandModel_define_2 (by decide) ?_
  replace hrun := hb_some hrun
  obtain ⟨v5, g5, hrun⟩ := hrun
  refine h_ci (h_runS S (As := [.int i1, .int (0 : Int32), .int (199 : Int32)]) (rest := []) (c_MacroExpandModel_in l D dA b0 i1 (0 : Int32) (199 : Int32) nx g5) (va_cwS 3 S.2.2.2.2 (h_good _ (h_in3 ml_MacroExpandModel_83 sm_MacroExpandModel_in it_MacroExpandModel) cd_MacroExpandModel_in) rfl rfl rfl (by decide +kernel) ⟨Nat.le_of_ble_eq_true rfl, Nat.le_of_ble_eq_true rfl⟩) hK hN hw rfl hl.1 (lv_room (Nat.le_of_ble_eq_true rfl)) d_MacroExpandModel_define_5 ⟨Nat.le_refl _, Nat.le_refl _⟩) hS (fun H locs hw hS => ?_)
  refine lv_if_eq (tgt := 31) hx hb d_MacroExpandModel_define_8 (by decide) (fun c8 => ?_) (fun c8 => ?_)
  · rw [if_pos c8] at hrun
    refine lv_bipush (v := (-2 : Int32)) hx hb d_MacroExpandModel_define_31 (by decide) ?_
    cases hrun
    exact W.iret hx hb hr (fun t ht hW9 => ⟨⟨_, (), rfl, rfl, by show hW D dA classes b0 _ _ t.heap; rw [ht]; exact hw⟩, hS.F ht⟩) hS.2.2 d_MacroExpandModel_define_33
  · rw [if_neg c8] at hrun
    refine lv_iload_n hx hb d_MacroExpandModel_define_11 rfl (lv_at hl 2 rfl) ?_
    refine lv_iconst (v := (0 : Int32)) hx hb d_MacroExpandModel_define_12 (by decide) ?_
    refine lv_bipush (v := (9 : Int32)) hx hb d_MacroExpandModel_define_13 (by decide) ?_
    replace hrun := hb_some hrun
    obtain ⟨v15, g15, hrun⟩ := hrun
    refine h_ci (h_runS S (As := [.int i2, .int (0 : Int32), .int (9 : Int32)]) (rest := []) (c_MacroExpandModel_in l D dA b0 i2 (0 : Int32) (9 : Int32) nx g15) (va_cwS 3 S.2.2.2.2 (h_good _ (h_in3 ml_MacroExpandModel_83 sm_MacroExpandModel_in it_MacroExpandModel) cd_MacroExpandModel_in) rfl rfl rfl (by decide +kernel) ⟨Nat.le_of_ble_eq_true rfl, Nat.le_of_ble_eq_true rfl⟩) hK hN hw rfl hl.1 (lv_room (Nat.le_of_ble_eq_true rfl)) d_MacroExpandModel_define_15 ⟨Nat.le_refl _, Nat.le_refl _⟩) hS (fun H locs hw hS => ?_)
    refine lv_if_eq (tgt := 31) hx hb d_MacroExpandModel_define_18 (by decide) (fun c18 => ?_) (fun c18 => ?_)
    · rw [if_pos c18] at hrun
      refine lv_bipush (v := (-2 : Int32)) hx hb d_MacroExpandModel_define_31 (by decide) ?_
      cases hrun
      exact W.iret hx hb hr (fun t ht hW9 => ⟨⟨_, (), rfl, rfl, by show hW D dA classes b0 _ _ t.heap; rw [ht]; exact hw⟩, hS.F ht⟩) hS.2.2 d_MacroExpandModel_define_33
    · rw [if_neg c18] at hrun
      refine lv_iload_n hx hb d_MacroExpandModel_define_21 rfl (lv_at hl 3 rfl) ?_
      refine lv_iconst (v := (0 : Int32)) hx hb d_MacroExpandModel_define_22 (by decide) ?_
      refine lv_bipush (v := (7 : Int32)) hx hb d_MacroExpandModel_define_23 (by decide) ?_
      replace hrun := hb_some hrun
      obtain ⟨v25, g25, hrun⟩ := hrun
      refine h_ci (h_runS S (As := [.int i3, .int (0 : Int32), .int (7 : Int32)]) (rest := []) (c_MacroExpandModel_in l D dA b0 i3 (0 : Int32) (7 : Int32) nx g25) (va_cwS 3 S.2.2.2.2 (h_good _ (h_in3 ml_MacroExpandModel_83 sm_MacroExpandModel_in it_MacroExpandModel) cd_MacroExpandModel_in) rfl rfl rfl (by decide +kernel) ⟨Nat.le_of_ble_eq_true rfl, Nat.le_of_ble_eq_true rfl⟩) hK hN hw rfl hl.1 (lv_room (Nat.le_of_ble_eq_true rfl)) d_MacroExpandModel_define_25 ⟨Nat.le_refl _, Nat.le_refl _⟩) hS (fun H locs hw hS => ?_)
      refine lv_if_ne (tgt := 34) hx hb d_MacroExpandModel_define_28 (by decide) (fun c28 => ?_) (fun c28 => ?_)
      · rw [if_neg c28] at hrun
        refine lv_aload_n hx hb d_MacroExpandModel_define_34 rfl (lv_at hl 0 rfl) ?_
        replace hrun := hb_some hrun
        obtain ⟨v35, g35, hrun⟩ := hrun
        refine h_getI S (fun w q => hT w (i_MacroExpandModel w q)) hK (ci := 1) rfl 6 (by decide) (hT _ fl_MacroExpandModel_94) hw g35 d_MacroExpandModel_define_35 ?_
        refine lv_bipush (v := (100 : Int32)) hx hb d_MacroExpandModel_define_38 (by decide) ?_
        refine lv_icmp_ne (tgt := 48) hx hb d_MacroExpandModel_define_40 (by decide) (fun c40 => ?_) (fun c40 => ?_)
        · rw [if_neg c40] at hrun
          refine lv_aload_n hx hb d_MacroExpandModel_define_48 rfl (lv_at hl 0 rfl) ?_
          refine lv_iload_n hx hb d_MacroExpandModel_define_49 rfl (lv_at hl 1 rfl) ?_
          refine lv_iload_n hx hb d_MacroExpandModel_define_50 rfl (lv_at hl 2 rfl) ?_
          refine lv_iload_n hx hb d_MacroExpandModel_define_51 rfl (lv_at hl 3 rfl) ?_
          replace hrun := hb_some hrun
          obtain ⟨c52, k52, hrun⟩ := hrun
          replace hrun := hbW_some hrun
          obtain ⟨v52, h52, g52, hrun⟩ := hrun
          refine h_ci (h_runV S (As := [.int i1, .int i2, .int i3]) (rest := []) (c_MacroExpandModel_newMacro l D dA b0 n a0 i1 i2 i3 nx g52) (cwV 3 S.2.2.2.2 (h_good _ (h_in4 ml_MacroExpandModel_100 im_MacroExpandModel_newMacro se_MacroExpandModel_newMacro it_MacroExpandModel) cd_MacroExpandModel_newMacro) rfl rfl rfl (by decide +kernel) ⟨Nat.le_of_ble_eq_true rfl, Nat.le_of_ble_eq_true rfl⟩) hK hN hw (ci := 1) rfl k52 rfl hl.1 (lv_room (Nat.le_of_ble_eq_true rfl)) d_MacroExpandModel_define_52 ⟨Nat.le_refl _, Nat.le_refl _⟩) hS (fun H locs hw hS => ?_)
          cases hrun
          exact W.iret hx hb hr (fun t ht hW9 => ⟨⟨_, (), rfl, rfl, by show hW D dA classes b0 _ _ t.heap; rw [ht]; exact hw⟩, hS.F ht⟩) hS.2.2 d_MacroExpandModel_define_55
        · rw [if_pos c40] at hrun
          refine lv_bipush (v := (-4 : Int32)) hx hb d_MacroExpandModel_define_43 (by decide) ?_
          refine lv_goto (tgt := 55) hx hb d_MacroExpandModel_define_45 (by decide) ?_
          cases hrun
          exact W.iret hx hb hr (fun t ht hW9 => ⟨⟨_, (), rfl, rfl, by show hW D dA classes b0 _ _ t.heap; rw [ht]; exact hw⟩, hS.F ht⟩) hS.2.2 d_MacroExpandModel_define_55
      · rw [if_pos c28] at hrun
        refine lv_bipush (v := (-2 : Int32)) hx hb d_MacroExpandModel_define_31 (by decide) ?_
        cases hrun
        exact W.iret hx hb hr (fun t ht hW9 => ⟨⟨_, (), rfl, rfl, by show hW D dA classes b0 _ _ t.heap; rw [ht]; exact hw⟩, hS.F ht⟩) hS.2.2 d_MacroExpandModel_define_33
set_option maxHeartbeats 4000000 in
set_option maxRecDepth 100000 in
theorem c_MacroExpandModel_body (l : Launch) (D : va_G) (dA : Nat → ClassId) (b0 : Nat) (a0 : Nat) (i1 : Int32) (i2 : Int32) (nx : Nat) {h h' : hH} {r : Int32} (hrun : f_MacroExpandModel_body a0 i1 i2 h = some (r, h')) : Met l y_MacroExpandModel_body w_MacroExpandModel_body ({ frames := 3, cells := 0, slots := 0, locals := 62 } : Room) (va_Pc [.ref a0, .int i1, .int i2] (hB D dA b0 nx h)) (va_Qi (fun r' (_ : Unit) => r' = r) (fun (_ : Unit) t => hW D dA classes b0 nx h' t.heap) (hA b0)) 0 0 (hA b0) := by
  refine Met.ofW (cc := b_MacroExpandModel_body) (maxL := 3) (ret := (some .int)) (by decide) rfl ?_
  intro p e s m args below meth c s₁ B hml hv
  obtain ⟨rfl, hw, hK, hN⟩ := hv
  have hx := B.exec
  have hb := B.bytes
  have hr := B.returns
  have hlocks := B.notSynchronized
  have S : CallFix p m c b_MacroExpandModel_body 3 s ([.ref a0, .int i1, .int i2] : List Value).toArray w_MacroExpandModel_body R_MacroExpandModel := ⟨hx, hb, hml, findClass_of_methodNamed B.named, atoms_spec (ws := w_MacroExpandModel_body) B.pre⟩
  have hT : ∀ w ∈ tbl, w ∈ w_MacroExpandModel_body := fun _ q => List.mem_cons_of_mem _ q
  have hS : va_S (hA b0) s.heap s.heap [] := va_S.rf
  have hl := lv_entry ([.ref a0, .int i1, .int i2]) (n := 3) (Nat.le_of_ble_eq_true rfl)
  rw [lg_entry_eq]
  generalize (lg_sl ([.ref a0, .int i1, .int i2]) ++ List.replicate (3 - (lg_sl ([.ref a0, .int i1, .int i2])).length) Slot.unset).toArray = ls at hl ⊢
  have hl : lv_has ls 3 [(0, .ref a0), (1, .int i1), (2, .int i2)] := hl
  unfold f_MacroExpandModel_body at hrun
  refine lv_iload_n hx hb d_MacroExpandModel_body_0 rfl (lv_at hl 1 rfl) ?_
  refine lv_iconst (v := (0 : Int32)) hx hb d_MacroExpandModel_body_1 (by decide) ?_
  refine lv_aload_n hx hb d_MacroExpandModel_body_2 rfl (lv_at hl 0 rfl) ?_
  replace hrun := hb_some hrun
  obtain ⟨v3, g3, hrun⟩ := hrun
  refine h_getI S (fun w q => hT w (i_MacroExpandModel w q)) hK (ci := 1) rfl 6 (by decide) (hT _ fl_MacroExpandModel_94) hw g3 d_MacroExpandModel_body_3 ?_
  refine lv_iconst (v := (1 : Int32)) hx hb d_MacroExpandModel_body_6 (by decide) ?_
  refine lv_isub hx hb d_MacroExpandModel_body_7 ?_
  replace hrun := hb_some hrun
  obtain ⟨v8, g8, hrun⟩ := hrun
  refine h_ci (h_runS S (As := [.int i1, .int (0 : Int32), .int (v3 - (1 : Int32))]) (rest := []) (c_MacroExpandModel_in l D dA b0 i1 (0 : Int32) (v3 - (1 : Int32)) nx g8) (va_cwS 3 S.2.2.2.2 (h_good _ (h_in3 ml_MacroExpandModel_83 sm_MacroExpandModel_in it_MacroExpandModel) cd_MacroExpandModel_in) rfl rfl rfl (by decide +kernel) ⟨Nat.le_of_ble_eq_true rfl, Nat.le_of_ble_eq_true rfl⟩) hK hN hw rfl hl.1 (lv_room (Nat.le_of_ble_eq_true rfl)) d_MacroExpandModel_body_8 ⟨Nat.le_refl _, Nat.le_refl _⟩) hS (fun H locs hw hS => ?_)
  refine lv_if_ne (tgt := 16) hx hb d_MacroExpandModel_body_11 (by decide) (fun c11 => ?_) (fun c11 => ?_)
  · rw [if_neg c11] at hrun
    refine lv_iload_n hx hb d_MacroExpandModel_body_16 rfl (lv_at hl 2 rfl) ?_
    replace hrun := hb_some hrun
    obtain ⟨v17, g17, hrun⟩ := hrun
    refine h_ci (h_runS S (As := [.int i2]) (rest := []) (c_MacroExpandModel_isToken l D dA b0 i2 nx g17) (va_cwS 1 S.2.2.2.2 (h_good _ (h_in3 ml_MacroExpandModel_104 sm_MacroExpandModel_isToken it_MacroExpandModel) cd_MacroExpandModel_isToken) rfl rfl rfl (by decide +kernel) ⟨Nat.le_of_ble_eq_true rfl, Nat.le_of_ble_eq_true rfl⟩) hK hN hw rfl hl.1 (lv_room (Nat.le_of_ble_eq_true rfl)) d_MacroExpandModel_body_17 ⟨Nat.le_refl _, Nat.le_refl _⟩) hS (fun H locs hw hS => ?_)
    refine lv_if_ne (tgt := 26) hx hb d_MacroExpandModel_body_20 (by decide) (fun c20 => ?_) (fun c20 => ?_)
    · rw [if_neg c20] at hrun
      refine lv_aload_n hx hb d_MacroExpandModel_body_26 rfl (lv_at hl 0 rfl) ?_
      replace hrun := hb_some hrun
      obtain ⟨v27, g27, hrun⟩ := hrun
      refine h_getR S (fun w q => hT w (i_MacroExpandModel w q)) hK (ci := 1) rfl 9 (by decide) (hT _ fl_MacroExpandModel_22) hw g27 d_MacroExpandModel_body_27 ?_
      refine lv_iload_n hx hb d_MacroExpandModel_body_30 rfl (lv_at hl 1 rfl) ?_
      replace hrun := hb_some hrun
      obtain ⟨p31, rfl, hrun⟩ := hrun
      replace hrun := hb_some hrun
      obtain ⟨v31, g31, hrun⟩ := hrun
      refine h_iald S hK (kd := 0) rfl hw g31 d_MacroExpandModel_body_31 ?_
      refine lv_sipush (v := (200 : Int32)) hx hb d_MacroExpandModel_body_32 (by decide) ?_
      refine lv_icmp_ne (tgt := 41) hx hb d_MacroExpandModel_body_35 (by decide) (fun c35 => ?_) (fun c35 => ?_)
      · rw [if_neg c35] at hrun
        refine lv_aload_n hx hb d_MacroExpandModel_body_41 rfl (lv_at hl 0 rfl) ?_
        replace hrun := hb_some hrun
        obtain ⟨v42, g42, hrun⟩ := hrun
        refine h_getR S (fun w q => hT w (i_MacroExpandModel w q)) hK (ci := 1) rfl 10 (by decide) (hT _ fl_MacroExpandModel_25) hw g42 d_MacroExpandModel_body_42 ?_
        refine lv_sipush (v := (200 : Int32)) hx hb d_MacroExpandModel_body_45 (by decide) ?_
        refine lv_iload_n hx hb d_MacroExpandModel_body_48 rfl (lv_at hl 1 rfl) ?_
        refine lv_imul hx hb d_MacroExpandModel_body_49 ?_
        refine lv_aload_n hx hb d_MacroExpandModel_body_50 rfl (lv_at hl 0 rfl) ?_
        replace hrun := hb_some hrun
        obtain ⟨v51, g51, hrun⟩ := hrun
        refine h_getR S (fun w q => hT w (i_MacroExpandModel w q)) hK (ci := 1) rfl 9 (by decide) (hT _ fl_MacroExpandModel_22) hw g51 d_MacroExpandModel_body_51 ?_
        refine lv_iload_n hx hb d_MacroExpandModel_body_54 rfl (lv_at hl 1 rfl) ?_
        replace hrun := hb_some hrun
        obtain ⟨p55, rfl, hrun⟩ := hrun
        replace hrun := hb_some hrun
        obtain ⟨v55, g55, hrun⟩ := hrun
        refine h_iald S hK (kd := 0) rfl hw g55 d_MacroExpandModel_body_55 ?_
        refine lv_iadd hx hb d_MacroExpandModel_body_56 ?_
        refine lv_iload_n hx hb d_MacroExpandModel_body_57 rfl (lv_at hl 2 rfl) ?_
        replace hrun := hb_some hrun
        obtain ⟨p58, rfl, hrun⟩ := hrun
        replace hrun := hb_some hrun
        obtain ⟨h58, g58, hrun⟩ := hrun
        refine h_iast S hK (kd := 0) rfl hw hS g58 d_MacroExpandModel_body_58 (fun H locs hw hS => ?_)
        refine lv_aload_n hx hb d_MacroExpandModel_body_59 rfl (lv_at hl 0 rfl) ?_
        replace hrun := hb_some hrun
        obtain ⟨v60, g60, hrun⟩ := hrun
        refine h_getR S (fun w q => hT w (i_MacroExpandModel w q)) hK (ci := 1) rfl 9 (by decide) (hT _ fl_MacroExpandModel_22) hw g60 d_MacroExpandModel_body_60 ?_
        refine lv_iload_n hx hb d_MacroExpandModel_body_63 rfl (lv_at hl 1 rfl) ?_
        refine lv_dup2_11 hx hb d_MacroExpandModel_body_64 rfl (h_cat _) ?_
        replace hrun := hb_some hrun
        obtain ⟨p65, rfl, hrun⟩ := hrun
        replace hrun := hb_some hrun
        obtain ⟨v65, g65, hrun⟩ := hrun
        refine h_iald S hK (kd := 0) rfl hw g65 d_MacroExpandModel_body_65 ?_
        refine lv_iconst (v := (1 : Int32)) hx hb d_MacroExpandModel_body_66 (by decide) ?_
        refine lv_iadd hx hb d_MacroExpandModel_body_67 ?_
        replace hrun := hb_some hrun
        obtain ⟨h68, g68, hrun⟩ := hrun
        refine h_iast S hK (kd := 0) rfl hw hS g68 d_MacroExpandModel_body_68 (fun H locs hw hS => ?_)
        refine lv_aload_n hx hb d_MacroExpandModel_body_69 rfl (lv_at hl 0 rfl) ?_
        replace hrun := hb_some hrun
        obtain ⟨v70, g70, hrun⟩ := hrun
        refine h_getR S (fun w q => hT w (i_MacroExpandModel w q)) hK (ci := 1) rfl 9 (by decide) (hT _ fl_MacroExpandModel_22) hw g70 d_MacroExpandModel_body_70 ?_
        refine lv_iload_n hx hb d_MacroExpandModel_body_73 rfl (lv_at hl 1 rfl) ?_
        replace hrun := hb_some hrun
        obtain ⟨p74, rfl, hrun⟩ := hrun
        replace hrun := hb_some hrun
        obtain ⟨v74, g74, hrun⟩ := hrun
        refine h_iald S hK (kd := 0) rfl hw g74 d_MacroExpandModel_body_74 ?_
        cases hrun
        exact W.iret hx hb hr (fun t ht hW9 => ⟨⟨_, (), rfl, rfl, by show hW D dA classes b0 _ _ t.heap; rw [ht]; exact hw⟩, hS.F ht⟩) hS.2.2 d_MacroExpandModel_body_75
      · rw [if_pos c35] at hrun
        refine lv_bipush (v := (-4 : Int32)) hx hb d_MacroExpandModel_body_38 (by decide) ?_
        cases hrun
        exact W.iret hx hb hr (fun t ht hW9 => ⟨⟨_, (), rfl, rfl, by show hW D dA classes b0 _ _ t.heap; rw [ht]; exact hw⟩, hS.F ht⟩) hS.2.2 d_MacroExpandModel_body_40
    · rw [if_pos c20] at hrun
      refine lv_bipush (v := (-2 : Int32)) hx hb d_MacroExpandModel_body_23 (by decide) ?_
      cases hrun
      exact W.iret hx hb hr (fun t ht hW9 => ⟨⟨_, (), rfl, rfl, by show hW D dA classes b0 _ _ t.heap; rw [ht]; exact hw⟩, hS.F ht⟩) hS.2.2 d_MacroExpandModel_body_25
  · rw [if_pos c11] at hrun
    refine lv_iconst (v := (-1 : Int32)) hx hb d_MacroExpandModel_body_14 (by decide) ?_
    cases hrun
    exact W.iret hx hb hr (fun t ht hW9 => ⟨⟨_, (), rfl, rfl, by show hW D dA classes b0 _ _ t.heap; rw [ht]; exact hw⟩, hS.F ht⟩) hS.2.2 d_MacroExpandModel_body_15
set_option maxHeartbeats 4000000 in
set_option maxRecDepth 100000 in
theorem c_MacroExpandModel_delimiter (l : Launch) (D : va_G) (dA : Nat → ClassId) (b0 : Nat) (a0 : Nat) (i1 : Int32) (i2 : Int32) (i3 : Int32) (nx : Nat) {h h' : hH} {r : Int32} (hrun : f_MacroExpandModel_delimiter a0 i1 i2 i3 h = some (r, h')) : Met l y_MacroExpandModel_delimiter w_MacroExpandModel_delimiter ({ frames := 3, cells := 0, slots := 0, locals := 62 } : Room) (va_Pc [.ref a0, .int i1, .int i2, .int i3] (hB D dA b0 nx h)) (va_Qi (fun r' (_ : Unit) => r' = r) (fun (_ : Unit) t => hW D dA classes b0 nx h' t.heap) (hA b0)) 0 0 (hA b0) := by
  refine Met.ofW (cc := b_MacroExpandModel_delimiter) (maxL := 5) (ret := (some .int)) (by decide) rfl ?_
  intro p e s m args below meth c s₁ B hml hv
  obtain ⟨rfl, hw, hK, hN⟩ := hv
  have hx := B.exec
  have hb := B.bytes
  have hr := B.returns
  have hlocks := B.notSynchronized
  have S : CallFix p m c b_MacroExpandModel_delimiter 5 s ([.ref a0, .int i1, .int i2, .int i3] : List Value).toArray w_MacroExpandModel_delimiter R_MacroExpandModel := ⟨hx, hb, hml, findClass_of_methodNamed B.named, atoms_spec (ws := w_MacroExpandModel_delimiter) B.pre⟩
  have hT : ∀ w ∈ tbl, w ∈ w_MacroExpandModel_delimiter := fun _ q => List.mem_cons_of_mem _ q
  have hS : va_S (hA b0) s.heap s.heap [] := va_S.rf
  have hl := lv_entry ([.ref a0, .int i1, .int i2, .int i3]) (n := 5) (Nat.le_of_ble_eq_true rfl)
  rw [lg_entry_eq]
  generalize (lg_sl ([.ref a0, .int i1, .int i2, .int i3]) ++ List.replicate (5 - (lg_sl ([.ref a0, .int i1, .int i2, .int i3])).length) Slot.unset).toArray = ls at hl ⊢
  have hl : lv_has ls 5 [(0, .ref a0), (1, .int i1), (2, .int i2), (3, .int i3)] := hl
  unfold f_MacroExpandModel_delimiter at hrun
  refine lv_iload_n hx hb d_MacroExpandModel_delimiter_0 rfl (lv_at hl 1 rfl) ?_
  refine lv_iconst (v := (0 : Int32)) hx hb d_MacroExpandModel_delimiter_1 (by decide) ?_
  refine lv_aload_n hx hb d_MacroExpandModel_delimiter_2 rfl (lv_at hl 0 rfl) ?_
  replace hrun := hb_some hrun
  obtain ⟨v3, g3, hrun⟩ := hrun
  refine h_getI S (fun w q => hT w (i_MacroExpandModel w q)) hK (ci := 1) rfl 6 (by decide) (hT _ fl_MacroExpandModel_94) hw g3 d_MacroExpandModel_delimiter_3 ?_
  refine lv_iconst (v := (1 : Int32)) hx hb d_MacroExpandModel_delimiter_6 (by decide) ?_
  refine lv_isub hx hb d_MacroExpandModel_delimiter_7 ?_
  replace hrun := hb_some hrun
  obtain ⟨v8, g8, hrun⟩ := hrun
  refine h_ci (h_runS S (As := [.int i1, .int (0 : Int32), .int (v3 - (1 : Int32))]) (rest := []) (c_MacroExpandModel_in l D dA b0 i1 (0 : Int32) (v3 - (1 : Int32)) nx g8) (va_cwS 3 S.2.2.2.2 (h_good _ (h_in3 ml_MacroExpandModel_83 sm_MacroExpandModel_in it_MacroExpandModel) cd_MacroExpandModel_in) rfl rfl rfl (by decide +kernel) ⟨Nat.le_of_ble_eq_true rfl, Nat.le_of_ble_eq_true rfl⟩) hK hN hw rfl hl.1 (lv_room (Nat.le_of_ble_eq_true rfl)) d_MacroExpandModel_delimiter_8 ⟨Nat.le_refl _, Nat.le_refl _⟩) hS (fun H locs hw hS => ?_)
  refine lv_if_ne (tgt := 16) hx hb d_MacroExpandModel_delimiter_11 (by decide) (fun c11 => ?_) (fun c11 => ?_)
  · rw [if_neg c11] at hrun
    refine lv_iload_n hx hb d_MacroExpandModel_delimiter_16 rfl (lv_at hl 2 rfl) ?_
    refine lv_iconst (v := (0 : Int32)) hx hb d_MacroExpandModel_delimiter_17 (by decide) ?_
    refine lv_aload_n hx hb d_MacroExpandModel_delimiter_18 rfl (lv_at hl 0 rfl) ?_
    replace hrun := hb_some hrun
    obtain ⟨v19, g19, hrun⟩ := hrun
    refine h_getR S (fun w q => hT w (i_MacroExpandModel w q)) hK (ci := 1) rfl 7 (by decide) (hT _ fl_MacroExpandModel_16) hw g19 d_MacroExpandModel_delimiter_19 ?_
    refine lv_iload_n hx hb d_MacroExpandModel_delimiter_22 rfl (lv_at hl 1 rfl) ?_
    replace hrun := hb_some hrun
    obtain ⟨p23, rfl, hrun⟩ := hrun
    replace hrun := hb_some hrun
    obtain ⟨v23, g23, hrun⟩ := hrun
    refine h_iald S hK (kd := 0) rfl hw g23 d_MacroExpandModel_delimiter_23 ?_
    replace hrun := hb_some hrun
    obtain ⟨v24, g24, hrun⟩ := hrun
    refine h_ci (h_runS S (As := [.int i2, .int (0 : Int32), .int v23]) (rest := []) (c_MacroExpandModel_in l D dA b0 i2 (0 : Int32) v23 nx g24) (va_cwS 3 S.2.2.2.2 (h_good _ (h_in3 ml_MacroExpandModel_83 sm_MacroExpandModel_in it_MacroExpandModel) cd_MacroExpandModel_in) rfl rfl rfl (by decide +kernel) ⟨Nat.le_of_ble_eq_true rfl, Nat.le_of_ble_eq_true rfl⟩) hK hN hw rfl hl.1 (lv_room (Nat.le_of_ble_eq_true rfl)) d_MacroExpandModel_delimiter_24 ⟨Nat.le_refl _, Nat.le_refl _⟩) hS (fun H locs hw hS => ?_)
    refine lv_if_eq (tgt := 58) hx hb d_MacroExpandModel_delimiter_27 (by decide) (fun c27 => ?_) (fun c27 => ?_)
    · rw [if_pos c27] at hrun
      refine lv_bipush (v := (-2 : Int32)) hx hb d_MacroExpandModel_delimiter_58 (by decide) ?_
      cases hrun
      exact W.iret hx hb hr (fun t ht hW9 => ⟨⟨_, (), rfl, rfl, by show hW D dA classes b0 _ _ t.heap; rw [ht]; exact hw⟩, hS.F ht⟩) hS.2.2 d_MacroExpandModel_delimiter_60
    · rw [if_neg c27] at hrun
      refine lv_iload_n hx hb d_MacroExpandModel_delimiter_30 rfl (lv_at hl 3 rfl) ?_
      replace hrun := hb_some hrun
      obtain ⟨v31, g31, hrun⟩ := hrun
      refine h_ci (h_runS S (As := [.int i3]) (rest := []) (c_MacroExpandModel_isToken l D dA b0 i3 nx g31) (va_cwS 1 S.2.2.2.2 (h_good _ (h_in3 ml_MacroExpandModel_104 sm_MacroExpandModel_isToken it_MacroExpandModel) cd_MacroExpandModel_isToken) rfl rfl rfl (by decide +kernel) ⟨Nat.le_of_ble_eq_true rfl, Nat.le_of_ble_eq_true rfl⟩) hK hN hw rfl hl.1 (lv_room (Nat.le_of_ble_eq_true rfl)) d_MacroExpandModel_delimiter_31 ⟨Nat.le_refl _, Nat.le_refl _⟩) hS (fun H locs hw hS => ?_)
      refine lv_if_eq (tgt := 58) hx hb d_MacroExpandModel_delimiter_34 (by decide) (fun c34 => ?_) (fun c34 => ?_)
      · rw [if_pos c34] at hrun
        refine lv_bipush (v := (-2 : Int32)) hx hb d_MacroExpandModel_delimiter_58 (by decide) ?_
        cases hrun
        exact W.iret hx hb hr (fun t ht hW9 => ⟨⟨_, (), rfl, rfl, by show hW D dA classes b0 _ _ t.heap; rw [ht]; exact hw⟩, hS.F ht⟩) hS.2.2 d_MacroExpandModel_delimiter_60
      · rw [if_neg c34] at hrun
        refine lv_iload_n hx hb d_MacroExpandModel_delimiter_37 rfl (lv_at hl 3 rfl) ?_
        refine lv_sipush (v := (257 : Int32)) hx hb d_MacroExpandModel_delimiter_38 (by decide) ?_
        refine lv_icmp_eq (tgt := 58) hx hb d_MacroExpandModel_delimiter_41 (by decide) (fun c41 => ?_) (fun c41 => ?_)
        · rw [if_pos c41] at hrun
          refine lv_bipush (v := (-2 : Int32)) hx hb d_MacroExpandModel_delimiter_58 (by decide) ?_
          cases hrun
          exact W.iret hx hb hr (fun t ht hW9 => ⟨⟨_, (), rfl, rfl, by show hW D dA classes b0 _ _ t.heap; rw [ht]; exact hw⟩, hS.F ht⟩) hS.2.2 d_MacroExpandModel_delimiter_60
        · rw [if_neg c41] at hrun
          refine lv_iload_n hx hb d_MacroExpandModel_delimiter_44 rfl (lv_at hl 3 rfl) ?_
          refine lv_sipush (v := (258 : Int32)) hx hb d_MacroExpandModel_delimiter_45 (by decide) ?_
          refine lv_icmp_eq (tgt := 58) hx hb d_MacroExpandModel_delimiter_48 (by decide) (fun c48 => ?_) (fun c48 => ?_)
          · rw [if_pos c48] at hrun
            refine lv_bipush (v := (-2 : Int32)) hx hb d_MacroExpandModel_delimiter_58 (by decide) ?_
            cases hrun
            exact W.iret hx hb hr (fun t ht hW9 => ⟨⟨_, (), rfl, rfl, by show hW D dA classes b0 _ _ t.heap; rw [ht]; exact hw⟩, hS.F ht⟩) hS.2.2 d_MacroExpandModel_delimiter_60
          · rw [if_neg c48] at hrun
            refine lv_iload_n hx hb d_MacroExpandModel_delimiter_51 rfl (lv_at hl 3 rfl) ?_
            replace hrun := hb_some hrun
            obtain ⟨v52, g52, hrun⟩ := hrun
            refine h_ci (h_runS S (As := [.int i3]) (rest := []) (c_MacroExpandModel_isParameter l D dA b0 i3 nx g52) (va_cwS 1 S.2.2.2.2 (h_good _ (h_in3 ml_MacroExpandModel_87 sm_MacroExpandModel_isParameter it_MacroExpandModel) cd_MacroExpandModel_isParameter) rfl rfl rfl (by decide +kernel) ⟨Nat.le_of_ble_eq_true rfl, Nat.le_of_ble_eq_true rfl⟩) hK hN hw rfl hl.1 (lv_room (Nat.le_of_ble_eq_true rfl)) d_MacroExpandModel_delimiter_52 ⟨Nat.le_refl _, Nat.le_refl _⟩) hS (fun H locs hw hS => ?_)
            refine lv_if_eq (tgt := 61) hx hb d_MacroExpandModel_delimiter_55 (by decide) (fun c55 => ?_) (fun c55 => ?_)
            · rw [if_pos c55] at hrun
              refine lv_bipush (v := (10 : Int32)) hx hb d_MacroExpandModel_delimiter_61 (by decide) ?_
              refine lv_iload_n hx hb d_MacroExpandModel_delimiter_63 rfl (lv_at hl 1 rfl) ?_
              refine lv_imul hx hb d_MacroExpandModel_delimiter_64 ?_
              refine lv_iload_n hx hb d_MacroExpandModel_delimiter_65 rfl (lv_at hl 2 rfl) ?_
              refine lv_iadd hx hb d_MacroExpandModel_delimiter_66 ?_
              refine lv_istore (lv' := [(4, .int (((10 : Int32) * i1) + i2)), (0, .ref a0), (1, .int i1), (2, .int i2), (3, .int i3)]) hx hb d_MacroExpandModel_delimiter_67 hl (by decide) rfl (fun ls hl => ?_)
              refine lv_aload_n hx hb d_MacroExpandModel_delimiter_69 rfl (lv_at hl 1 rfl) ?_
              replace hrun := hb_some hrun
              obtain ⟨v70, g70, hrun⟩ := hrun
              refine h_getR S (fun w q => hT w (i_MacroExpandModel w q)) hK (ci := 1) rfl 11 (by decide) (hT _ fl_MacroExpandModel_28) hw g70 d_MacroExpandModel_delimiter_70 ?_
              refine lv_iload hx hb d_MacroExpandModel_delimiter_73 (lv_at hl 0 rfl) ?_
              replace hrun := hb_some hrun
              obtain ⟨p75, rfl, hrun⟩ := hrun
              replace hrun := hb_some hrun
              obtain ⟨v75, g75, hrun⟩ := hrun
              refine h_iald S hK (kd := 0) rfl hw g75 d_MacroExpandModel_delimiter_75 ?_
              refine lv_sipush (v := (200 : Int32)) hx hb d_MacroExpandModel_delimiter_76 (by decide) ?_
              refine lv_icmp_ne (tgt := 85) hx hb d_MacroExpandModel_delimiter_79 (by decide) (fun c79 => ?_) (fun c79 => ?_)
              · rw [if_neg c79] at hrun
                refine lv_aload_n hx hb d_MacroExpandModel_delimiter_85 rfl (lv_at hl 1 rfl) ?_
                replace hrun := hb_some hrun
                obtain ⟨v86, g86, hrun⟩ := hrun
                refine h_getR S (fun w q => hT w (i_MacroExpandModel w q)) hK (ci := 1) rfl 12 (by decide) (hT _ fl_MacroExpandModel_32) hw g86 d_MacroExpandModel_delimiter_86 ?_
                refine lv_sipush (v := (200 : Int32)) hx hb d_MacroExpandModel_delimiter_89 (by decide) ?_
                refine lv_iload hx hb d_MacroExpandModel_delimiter_92 (lv_at hl 0 rfl) ?_
                refine lv_imul hx hb d_MacroExpandModel_delimiter_94 ?_
                refine lv_aload_n hx hb d_MacroExpandModel_delimiter_95 rfl (lv_at hl 1 rfl) ?_
                replace hrun := hb_some hrun
                obtain ⟨v96, g96, hrun⟩ := hrun
                refine h_getR S (fun w q => hT w (i_MacroExpandModel w q)) hK (ci := 1) rfl 11 (by decide) (hT _ fl_MacroExpandModel_28) hw g96 d_MacroExpandModel_delimiter_96 ?_
                refine lv_iload hx hb d_MacroExpandModel_delimiter_99 (lv_at hl 0 rfl) ?_
                replace hrun := hb_some hrun
                obtain ⟨p101, rfl, hrun⟩ := hrun
                replace hrun := hb_some hrun
                obtain ⟨v101, g101, hrun⟩ := hrun
                refine h_iald S hK (kd := 0) rfl hw g101 d_MacroExpandModel_delimiter_101 ?_
                refine lv_iadd hx hb d_MacroExpandModel_delimiter_102 ?_
                refine lv_iload_n hx hb d_MacroExpandModel_delimiter_103 rfl (lv_at hl 4 rfl) ?_
                replace hrun := hb_some hrun
                obtain ⟨p104, rfl, hrun⟩ := hrun
                replace hrun := hb_some hrun
                obtain ⟨h104, g104, hrun⟩ := hrun
                refine h_iast S hK (kd := 0) rfl hw hS g104 d_MacroExpandModel_delimiter_104 (fun H locs hw hS => ?_)
                refine lv_aload_n hx hb d_MacroExpandModel_delimiter_105 rfl (lv_at hl 1 rfl) ?_
                replace hrun := hb_some hrun
                obtain ⟨v106, g106, hrun⟩ := hrun
                refine h_getR S (fun w q => hT w (i_MacroExpandModel w q)) hK (ci := 1) rfl 11 (by decide) (hT _ fl_MacroExpandModel_28) hw g106 d_MacroExpandModel_delimiter_106 ?_
                refine lv_iload hx hb d_MacroExpandModel_delimiter_109 (lv_at hl 0 rfl) ?_
                refine lv_dup2_11 hx hb d_MacroExpandModel_delimiter_111 rfl (h_cat _) ?_
                replace hrun := hb_some hrun
                obtain ⟨p112, rfl, hrun⟩ := hrun
                replace hrun := hb_some hrun
                obtain ⟨v112, g112, hrun⟩ := hrun
                refine h_iald S hK (kd := 0) rfl hw g112 d_MacroExpandModel_delimiter_112 ?_
                refine lv_iconst (v := (1 : Int32)) hx hb d_MacroExpandModel_delimiter_113 (by decide) ?_
                refine lv_iadd hx hb d_MacroExpandModel_delimiter_114 ?_
                replace hrun := hb_some hrun
                obtain ⟨h115, g115, hrun⟩ := hrun
                refine h_iast S hK (kd := 0) rfl hw hS g115 d_MacroExpandModel_delimiter_115 (fun H locs hw hS => ?_)
                refine lv_aload_n hx hb d_MacroExpandModel_delimiter_116 rfl (lv_at hl 1 rfl) ?_
                replace hrun := hb_some hrun
                obtain ⟨v117, g117, hrun⟩ := hrun
                refine h_getR S (fun w q => hT w (i_MacroExpandModel w q)) hK (ci := 1) rfl 11 (by decide) (hT _ fl_MacroExpandModel_28) hw g117 d_MacroExpandModel_delimiter_117 ?_
                refine lv_iload hx hb d_MacroExpandModel_delimiter_120 (lv_at hl 0 rfl) ?_
                replace hrun := hb_some hrun
                obtain ⟨p122, rfl, hrun⟩ := hrun
                replace hrun := hb_some hrun
                obtain ⟨v122, g122, hrun⟩ := hrun
                refine h_iald S hK (kd := 0) rfl hw g122 d_MacroExpandModel_delimiter_122 ?_
                cases hrun
                exact W.iret hx hb hr (fun t ht hW9 => ⟨⟨_, (), rfl, rfl, by show hW D dA classes b0 _ _ t.heap; rw [ht]; exact hw⟩, hS.F ht⟩) hS.2.2 d_MacroExpandModel_delimiter_123
              · rw [if_pos c79] at hrun
                refine lv_bipush (v := (-4 : Int32)) hx hb d_MacroExpandModel_delimiter_82 (by decide) ?_
                cases hrun
                exact W.iret hx hb hr (fun t ht hW9 => ⟨⟨_, (), rfl, rfl, by show hW D dA classes b0 _ _ t.heap; rw [ht]; exact hw⟩, hS.F ht⟩) hS.2.2 d_MacroExpandModel_delimiter_84
            · rw [if_neg c55] at hrun
              refine lv_bipush (v := (-2 : Int32)) hx hb d_MacroExpandModel_delimiter_58 (by decide) ?_
              cases hrun
              exact W.iret hx hb hr (fun t ht hW9 => ⟨⟨_, (), rfl, rfl, by show hW D dA classes b0 _ _ t.heap; rw [ht]; exact hw⟩, hS.F ht⟩) hS.2.2 d_MacroExpandModel_delimiter_60
  · rw [if_pos c11] at hrun
    refine lv_iconst (v := (-1 : Int32)) hx hb d_MacroExpandModel_delimiter_14 (by decide) ?_
    cases hrun
    exact W.iret hx hb hr (fun t ht hW9 => ⟨⟨_, (), rfl, rfl, by show hW D dA classes b0 _ _ t.heap; rw [ht]; exact hw⟩, hS.F ht⟩) hS.2.2 d_MacroExpandModel_delimiter_15
set_option maxHeartbeats 4000000 in
set_option maxRecDepth 100000 in
theorem c_MacroExpandModel_token (l : Launch) (D : va_G) (dA : Nat → ClassId) (b0 : Nat) (a0 : Nat) (i1 : Int32) (nx : Nat) {h h' : hH} {r : Int32} (hrun : f_MacroExpandModel_token a0 i1 h = some (r, h')) : Met l y_MacroExpandModel_token w_MacroExpandModel_token ({ frames := 3, cells := 0, slots := 0, locals := 62 } : Room) (va_Pc [.ref a0, .int i1] (hB D dA b0 nx h)) (va_Qi (fun r' (_ : Unit) => r' = r) (fun (_ : Unit) t => hW D dA classes b0 nx h' t.heap) (hA b0)) 0 0 (hA b0) := by
  refine Met.ofW (cc := b_MacroExpandModel_token) (maxL := 2) (ret := (some .int)) (by decide) rfl ?_
  intro p e s m args below meth c s₁ B hml hv
  obtain ⟨rfl, hw, hK, hN⟩ := hv
  have hx := B.exec
  have hb := B.bytes
  have hr := B.returns
  have hlocks := B.notSynchronized
  have S : CallFix p m c b_MacroExpandModel_token 2 s ([.ref a0, .int i1] : List Value).toArray w_MacroExpandModel_token R_MacroExpandModel := ⟨hx, hb, hml, findClass_of_methodNamed B.named, atoms_spec (ws := w_MacroExpandModel_token) B.pre⟩
  have hT : ∀ w ∈ tbl, w ∈ w_MacroExpandModel_token := fun _ q => List.mem_cons_of_mem _ q
  have hS : va_S (hA b0) s.heap s.heap [] := va_S.rf
  have hl := lv_entry ([.ref a0, .int i1]) (n := 2) (Nat.le_of_ble_eq_true rfl)
  rw [lg_entry_eq]
  generalize (lg_sl ([.ref a0, .int i1]) ++ List.replicate (2 - (lg_sl ([.ref a0, .int i1])).length) Slot.unset).toArray = ls at hl ⊢
  have hl : lv_has ls 2 [(0, .ref a0), (1, .int i1)] := hl
  unfold f_MacroExpandModel_token at hrun
  refine lv_iload_n hx hb d_MacroExpandModel_token_0 rfl (lv_at hl 1 rfl) ?_
  replace hrun := hb_some hrun
  obtain ⟨v1, g1, hrun⟩ := hrun
  refine h_ci (h_runS S (As := [.int i1]) (rest := []) (c_MacroExpandModel_isToken l D dA b0 i1 nx g1) (va_cwS 1 S.2.2.2.2 (h_good _ (h_in3 ml_MacroExpandModel_104 sm_MacroExpandModel_isToken it_MacroExpandModel) cd_MacroExpandModel_isToken) rfl rfl rfl (by decide +kernel) ⟨Nat.le_of_ble_eq_true rfl, Nat.le_of_ble_eq_true rfl⟩) hK hN hw rfl hl.1 (lv_room (Nat.le_of_ble_eq_true rfl)) d_MacroExpandModel_token_1 ⟨Nat.le_refl _, Nat.le_refl _⟩) hS (fun H locs hw hS => ?_)
  refine lv_if_ne (tgt := 10) hx hb d_MacroExpandModel_token_4 (by decide) (fun c4 => ?_) (fun c4 => ?_)
  · rw [if_neg c4] at hrun
    refine lv_aload_n hx hb d_MacroExpandModel_token_10 rfl (lv_at hl 0 rfl) ?_
    replace hrun := hb_some hrun
    obtain ⟨v11, g11, hrun⟩ := hrun
    refine h_getI S (fun w q => hT w (i_MacroExpandModel w q)) hK (ci := 1) rfl 3 (by decide) (hT _ fl_MacroExpandModel_107) hw g11 d_MacroExpandModel_token_11 ?_
    refine lv_sipush (v := (3000 : Int32)) hx hb d_MacroExpandModel_token_14 (by decide) ?_
    refine lv_icmp_ne (tgt := 23) hx hb d_MacroExpandModel_token_17 (by decide) (fun c17 => ?_) (fun c17 => ?_)
    · rw [if_neg c17] at hrun
      refine lv_aload_n hx hb d_MacroExpandModel_token_23 rfl (lv_at hl 0 rfl) ?_
      replace hrun := hb_some hrun
      obtain ⟨v24, g24, hrun⟩ := hrun
      refine h_getR S (fun w q => hT w (i_MacroExpandModel w q)) hK (ci := 1) rfl 1 (by decide) (hT _ fl_MacroExpandModel_7) hw g24 d_MacroExpandModel_token_24 ?_
      refine lv_aload_n hx hb d_MacroExpandModel_token_27 rfl (lv_at hl 0 rfl) ?_
      replace hrun := hb_some hrun
      obtain ⟨v28, g28, hrun⟩ := hrun
      refine h_getI S (fun w q => hT w (i_MacroExpandModel w q)) hK (ci := 1) rfl 2 (by decide) (hT _ fl_MacroExpandModel_110) hw g28 d_MacroExpandModel_token_28 ?_
      refine lv_aload_n hx hb d_MacroExpandModel_token_31 rfl (lv_at hl 0 rfl) ?_
      replace hrun := hb_some hrun
      obtain ⟨v32, g32, hrun⟩ := hrun
      refine h_getI S (fun w q => hT w (i_MacroExpandModel w q)) hK (ci := 1) rfl 3 (by decide) (hT _ fl_MacroExpandModel_107) hw g32 d_MacroExpandModel_token_32 ?_
      refine lv_iadd hx hb d_MacroExpandModel_token_35 ?_
      refine lv_sipush (v := (4095 : Int32)) hx hb d_MacroExpandModel_token_36 (by decide) ?_
      refine lv_iand hx hb d_MacroExpandModel_token_39 ?_
      refine lv_iload_n hx hb d_MacroExpandModel_token_40 rfl (lv_at hl 1 rfl) ?_
      replace hrun := hb_some hrun
      obtain ⟨p41, rfl, hrun⟩ := hrun
      replace hrun := hb_some hrun
      obtain ⟨h41, g41, hrun⟩ := hrun
      refine h_iast S hK (kd := 0) rfl hw hS g41 d_MacroExpandModel_token_41 (fun H locs hw hS => ?_)
      refine lv_aload_n hx hb d_MacroExpandModel_token_42 rfl (lv_at hl 0 rfl) ?_
      refine lv_dup hx hb d_MacroExpandModel_token_43 rfl ?_
      replace hrun := hb_some hrun
      obtain ⟨v44, g44, hrun⟩ := hrun
      refine h_getI S (fun w q => hT w (i_MacroExpandModel w q)) hK (ci := 1) rfl 3 (by decide) (hT _ fl_MacroExpandModel_107) hw g44 d_MacroExpandModel_token_44 ?_
      refine lv_iconst (v := (1 : Int32)) hx hb d_MacroExpandModel_token_47 (by decide) ?_
      refine lv_iadd hx hb d_MacroExpandModel_token_48 ?_
      replace hrun := hb_some hrun
      obtain ⟨h49, g49, hrun⟩ := hrun
      refine h_put S (fun w q => hT w (i_MacroExpandModel w q)) t_MacroExpandModel t_MacroExpandModel_ok n_MacroExpandModel hK (ci := 1) rfl 3 (by decide) (hT _ fl_MacroExpandModel_107) rfl rfl rfl hw hS g49 d_MacroExpandModel_token_49 (fun H locs hw hS => ?_)
      refine lv_aload_n hx hb d_MacroExpandModel_token_52 rfl (lv_at hl 0 rfl) ?_
      replace hrun := hb_some hrun
      obtain ⟨v53, g53, hrun⟩ := hrun
      refine h_getI S (fun w q => hT w (i_MacroExpandModel w q)) hK (ci := 1) rfl 3 (by decide) (hT _ fl_MacroExpandModel_107) hw g53 d_MacroExpandModel_token_53 ?_
      cases hrun
      exact W.iret hx hb hr (fun t ht hW9 => ⟨⟨_, (), rfl, rfl, by show hW D dA classes b0 _ _ t.heap; rw [ht]; exact hw⟩, hS.F ht⟩) hS.2.2 d_MacroExpandModel_token_56
    · rw [if_pos c17] at hrun
      refine lv_bipush (v := (-4 : Int32)) hx hb d_MacroExpandModel_token_20 (by decide) ?_
      cases hrun
      exact W.iret hx hb hr (fun t ht hW9 => ⟨⟨_, (), rfl, rfl, by show hW D dA classes b0 _ _ t.heap; rw [ht]; exact hw⟩, hS.F ht⟩) hS.2.2 d_MacroExpandModel_token_22
  · rw [if_pos c4] at hrun
    refine lv_bipush (v := (-2 : Int32)) hx hb d_MacroExpandModel_token_7 (by decide) ?_
    cases hrun
    exact W.iret hx hb hr (fun t ht hW9 => ⟨⟨_, (), rfl, rfl, by show hW D dA classes b0 _ _ t.heap; rw [ht]; exact hw⟩, hS.F ht⟩) hS.2.2 d_MacroExpandModel_token_9
set_option maxHeartbeats 4000000 in
set_option maxRecDepth 100000 in
theorem c_MacroExpandModel_group (l : Launch) (D : va_G) (dA : Nat → ClassId) (b0 : Nat) (n : Nat) (a0 : Nat) (i1 : Int32) (nx : Nat) {h h' : hH} {r : Int32} (hrun : f_MacroExpandModel_group n a0 i1 h = some (r, h')) : Met l y_MacroExpandModel_group w_MacroExpandModel_group ({ frames := 0, cells := 0, slots := 0, locals := 0 } : Room) (va_Pc [.ref a0, .int i1] (hB D dA b0 nx h)) (va_Qi (fun r' (_ : Unit) => r' = r) (fun (_ : Unit) t => hW D dA classes b0 nx h' t.heap) (hA b0)) 0 0 (hA b0) := by
  refine Met.ofW (cc := b_MacroExpandModel_group) (maxL := 3) (ret := (some .int)) (by decide) rfl ?_
  intro p e s m args below meth c s₁ B hml hv
  obtain ⟨rfl, hw, hK, hN⟩ := hv
  have hx := B.exec
  have hb := B.bytes
  have hr := B.returns
  have hlocks := B.notSynchronized
  have S : CallFix p m c b_MacroExpandModel_group 3 s ([.ref a0, .int i1] : List Value).toArray w_MacroExpandModel_group R_MacroExpandModel := ⟨hx, hb, hml, findClass_of_methodNamed B.named, atoms_spec (ws := w_MacroExpandModel_group) B.pre⟩
  have hT : ∀ w ∈ tbl, w ∈ w_MacroExpandModel_group := fun _ q => List.mem_cons_of_mem _ q
  have hS : va_S (hA b0) s.heap s.heap [] := va_S.rf
  have hl := lv_entry ([.ref a0, .int i1]) (n := 3) (Nat.le_of_ble_eq_true rfl)
  rw [lg_entry_eq]
  generalize (lg_sl ([.ref a0, .int i1]) ++ List.replicate (3 - (lg_sl ([.ref a0, .int i1])).length) Slot.unset).toArray = ls at hl ⊢
  have hl : lv_has ls 3 [(0, .ref a0), (1, .int i1)] := hl
  have l_89 : ∀ (n9 : Nat) (x9 : Int32) (h : hH) (b9 : (Unit)) (h9 : hH) (H : Heap) (locs : List Loc) (ls : Array Slot), hloopW (f_MacroExpandModel_group_b89 n a0) n9 x9 h = some (b9, h9) → hW D dA classes b0 nx h H → va_S (hA b0) s.heap H locs → lv_has ls 3 (match x9 with | x2 => [(0, .ref a0), (2, .int x2)]) → (b9 = () → ∀ (H : Heap) (locs : List Loc) (ls : Array Slot), hW D dA classes b0 nx h9 H → va_S (hA b0) s.heap H locs → lv_has ls 3 [(0, .ref a0)] → W p l e (headSpec w_MacroExpandModel_group ({ frames := 0, cells := 0, slots := 0, locals := 0 } : Room)).room s m ([.ref a0, .int i1] : List Value).toArray below meth c H locs 0 0 (MQ below (va_Qi (fun r' (_ : Unit) => r' = r) (fun (_ : Unit) t => hW D dA classes b0 nx h' t.heap) (hA b0)) ([.ref a0, .int i1] : List Value).toArray s 0 0 (hA b0)) (F0 m 123 ls [])) → W p l e (headSpec w_MacroExpandModel_group ({ frames := 0, cells := 0, slots := 0, locals := 0 } : Room)).room s m ([.ref a0, .int i1] : List Value).toArray below meth c H locs 0 0 (MQ below (va_Qi (fun r' (_ : Unit) => r' = r) (fun (_ : Unit) t => hW D dA classes b0 nx h' t.heap) (hA b0)) ([.ref a0, .int i1] : List Value).toArray s 0 0 (hA b0)) (F0 m 89 ls []) := by
    intro  n9
    induction n9 with
    | zero =>
      intro x9 h b9 h9 H locs ls hrun
      cases hrun
    | succ n9 ih =>
      rintro x2 h b9 h9 H locs ls hrun hw hS hl k0
      have hl : lv_has ls 3 [(0, .ref a0), (2, .int x2)] := hl
      unfold hloopW at hrun
      obtain ⟨q9, h9b, hbody, hrun9⟩ := hbW_some hrun
      have K0 : (∀ (z2 : Int32), q9 = .inl z2 → ∀ (H : Heap) (locs : List Loc) (ls : Array Slot), hW D dA classes b0 nx h9b H → va_S (hA b0) s.heap H locs → lv_has ls 3 [(0, .ref a0), (2, .int z2)] → W p l e (headSpec w_MacroExpandModel_group ({ frames := 0, cells := 0, slots := 0, locals := 0 } : Room)).room s m ([.ref a0, .int i1] : List Value).toArray below meth c H locs 0 0 (MQ below (va_Qi (fun r' (_ : Unit) => r' = r) (fun (_ : Unit) t => hW D dA classes b0 nx h' t.heap) (hA b0)) ([.ref a0, .int i1] : List Value).toArray s 0 0 (hA b0)) (F0 m 89 ls [])) := by
        intro z2 eq9 H locs ls hw hS hl
        subst eq9
        exact ih z2 h9b b9 h9 H locs ls hrun9 hw hS hl k0
      have K1 : (q9 = .inr () → ∀ (H : Heap) (locs : List Loc) (ls : Array Slot), hW D dA classes b0 nx h9b H → va_S (hA b0) s.heap H locs → lv_has ls 3 [(0, .ref a0)] → W p l e (headSpec w_MacroExpandModel_group ({ frames := 0, cells := 0, slots := 0, locals := 0 } : Room)).room s m ([.ref a0, .int i1] : List Value).toArray below meth c H locs 0 0 (MQ below (va_Qi (fun r' (_ : Unit) => r' = r) (fun (_ : Unit) t => hW D dA classes b0 nx h' t.heap) (hA b0)) ([.ref a0, .int i1] : List Value).toArray s 0 0 (hA b0)) (F0 m 123 ls [])) := by
        intro  eq9 H locs ls hw hS hl
        subst eq9
        cases hrun9
        exact k0  rfl H locs ls hw hS hl
      clear hrun hrun9 ih k0
      have hrun := hbody
      clear hbody
      dsimp only [f_MacroExpandModel_group_b89] at hrun
      refine lv_iload_n hx hb d_MacroExpandModel_group_89 rfl (lv_at hl 1 rfl) ?_
      refine lv_sipush (v := (200 : Int32)) hx hb d_MacroExpandModel_group_90 (by decide) ?_
      refine lv_icmp_ge (tgt := 123) hx hb d_MacroExpandModel_group_93 (by decide) (fun c93 => ?_) (fun c93 => ?_)
      · rw [if_pos c93] at hrun
        cases hrun
        exact K1  rfl H locs ls hw hS (lv_sub hl [0] rfl)
      · rw [if_neg c93] at hrun
        refine lv_aload_n hx hb d_MacroExpandModel_group_96 rfl (lv_at hl 0 rfl) ?_
        replace hrun := hb_some hrun
        obtain ⟨v97, g97, hrun⟩ := hrun
        refine h_getR S (fun w q => hT w (i_MacroExpandModel w q)) hK (ci := 1) rfl 13 (by decide) (hT _ fl_MacroExpandModel_35) hw g97 d_MacroExpandModel_group_97 ?_
        refine lv_iload_n hx hb d_MacroExpandModel_group_100 rfl (lv_at hl 1 rfl) ?_
        refine lv_aload_n hx hb d_MacroExpandModel_group_101 rfl (lv_at hl 0 rfl) ?_
        replace hrun := hb_some hrun
        obtain ⟨v102, g102, hrun⟩ := hrun
        refine h_getR S (fun w q => hT w (i_MacroExpandModel w q)) hK (ci := 1) rfl 15 (by decide) (hT _ fl_MacroExpandModel_38) hw g102 d_MacroExpandModel_group_102 ?_
        refine lv_sipush (v := (200 : Int32)) hx hb d_MacroExpandModel_group_105 (by decide) ?_
        refine lv_aload_n hx hb d_MacroExpandModel_group_108 rfl (lv_at hl 0 rfl) ?_
        replace hrun := hb_some hrun
        obtain ⟨v109, g109, hrun⟩ := hrun
        refine h_getI S (fun w q => hT w (i_MacroExpandModel w q)) hK (ci := 1) rfl 14 (by decide) (hT _ fl_MacroExpandModel_97) hw g109 d_MacroExpandModel_group_109 ?_
        refine lv_imul hx hb d_MacroExpandModel_group_112 ?_
        refine lv_iload_n hx hb d_MacroExpandModel_group_113 rfl (lv_at hl 1 rfl) ?_
        refine lv_iadd hx hb d_MacroExpandModel_group_114 ?_
        replace hrun := hb_some hrun
        obtain ⟨p115, rfl, hrun⟩ := hrun
        replace hrun := hb_some hrun
        obtain ⟨v115, g115, hrun⟩ := hrun
        refine h_iald S hK (kd := 0) rfl hw g115 d_MacroExpandModel_group_115 ?_
        replace hrun := hb_some hrun
        obtain ⟨p116, rfl, hrun⟩ := hrun
        replace hrun := hb_some hrun
        obtain ⟨h116, g116, hrun⟩ := hrun
        refine h_iast S hK (kd := 0) rfl hw hS g116 d_MacroExpandModel_group_116 (fun H locs hw hS => ?_)
        refine lv_iinc (v := (x2 + (1 : Int32))) (lv' := [(2, .int (x2 + (1 : Int32))), (0, .ref a0)]) hx hb d_MacroExpandModel_group_117 hl (k := 1) rfl rfl (by decide) rfl (fun ls hl => ?_)
        refine lv_goto (tgt := 89) hx hb d_MacroExpandModel_group_120 (by decide) ?_
        cases hrun
        exact K0 (x2 + (1 : Int32)) rfl H locs ls hw hS (lv_sub hl [1, 0] rfl)
  have l_18 : ∀ (n9 : Nat) (x9 : Int32) (h : hH) (b9 : (Unit)) (h9 : hH) (H : Heap) (locs : List Loc) (ls : Array Slot), hloopW (f_MacroExpandModel_group_b18 n a0) n9 x9 h = some (b9, h9) → hW D dA classes b0 nx h H → va_S (hA b0) s.heap H locs → lv_has ls 3 (match x9 with | x2 => [(0, .ref a0), (2, .int x2)]) → (b9 = () → ∀ (H : Heap) (locs : List Loc) (ls : Array Slot), hW D dA classes b0 nx h9 H → va_S (hA b0) s.heap H locs → lv_has ls 3 [(0, .ref a0)] → W p l e (headSpec w_MacroExpandModel_group ({ frames := 0, cells := 0, slots := 0, locals := 0 } : Room)).room s m ([.ref a0, .int i1] : List Value).toArray below meth c H locs 0 0 (MQ below (va_Qi (fun r' (_ : Unit) => r' = r) (fun (_ : Unit) t => hW D dA classes b0 nx h' t.heap) (hA b0)) ([.ref a0, .int i1] : List Value).toArray s 0 0 (hA b0)) (F0 m 52 ls [])) → W p l e (headSpec w_MacroExpandModel_group ({ frames := 0, cells := 0, slots := 0, locals := 0 } : Room)).room s m ([.ref a0, .int i1] : List Value).toArray below meth c H locs 0 0 (MQ below (va_Qi (fun r' (_ : Unit) => r' = r) (fun (_ : Unit) t => hW D dA classes b0 nx h' t.heap) (hA b0)) ([.ref a0, .int i1] : List Value).toArray s 0 0 (hA b0)) (F0 m 18 ls []) := by
    intro  n9
    induction n9 with
    | zero =>
      intro x9 h b9 h9 H locs ls hrun
      cases hrun
    | succ n9 ih =>
      rintro x2 h b9 h9 H locs ls hrun hw hS hl k0
      have hl : lv_has ls 3 [(0, .ref a0), (2, .int x2)] := hl
      unfold hloopW at hrun
      obtain ⟨q9, h9b, hbody, hrun9⟩ := hbW_some hrun
      have K0 : (∀ (z2 : Int32), q9 = .inl z2 → ∀ (H : Heap) (locs : List Loc) (ls : Array Slot), hW D dA classes b0 nx h9b H → va_S (hA b0) s.heap H locs → lv_has ls 3 [(0, .ref a0), (2, .int z2)] → W p l e (headSpec w_MacroExpandModel_group ({ frames := 0, cells := 0, slots := 0, locals := 0 } : Room)).room s m ([.ref a0, .int i1] : List Value).toArray below meth c H locs 0 0 (MQ below (va_Qi (fun r' (_ : Unit) => r' = r) (fun (_ : Unit) t => hW D dA classes b0 nx h' t.heap) (hA b0)) ([.ref a0, .int i1] : List Value).toArray s 0 0 (hA b0)) (F0 m 18 ls [])) := by
        intro z2 eq9 H locs ls hw hS hl
        subst eq9
        exact ih z2 h9b b9 h9 H locs ls hrun9 hw hS hl k0
      have K1 : (q9 = .inr () → ∀ (H : Heap) (locs : List Loc) (ls : Array Slot), hW D dA classes b0 nx h9b H → va_S (hA b0) s.heap H locs → lv_has ls 3 [(0, .ref a0)] → W p l e (headSpec w_MacroExpandModel_group ({ frames := 0, cells := 0, slots := 0, locals := 0 } : Room)).room s m ([.ref a0, .int i1] : List Value).toArray below meth c H locs 0 0 (MQ below (va_Qi (fun r' (_ : Unit) => r' = r) (fun (_ : Unit) t => hW D dA classes b0 nx h' t.heap) (hA b0)) ([.ref a0, .int i1] : List Value).toArray s 0 0 (hA b0)) (F0 m 52 ls [])) := by
        intro  eq9 H locs ls hw hS hl
        subst eq9
        cases hrun9
        exact k0  rfl H locs ls hw hS hl
      clear hrun hrun9 ih k0
      have hrun := hbody
      clear hbody
      dsimp only [f_MacroExpandModel_group_b18] at hrun
      refine lv_iload_n hx hb d_MacroExpandModel_group_18 rfl (lv_at hl 1 rfl) ?_
      refine lv_sipush (v := (200 : Int32)) hx hb d_MacroExpandModel_group_19 (by decide) ?_
      refine lv_icmp_ge (tgt := 52) hx hb d_MacroExpandModel_group_22 (by decide) (fun c22 => ?_) (fun c22 => ?_)
      · rw [if_pos c22] at hrun
        cases hrun
        exact K1  rfl H locs ls hw hS (lv_sub hl [0] rfl)
      · rw [if_neg c22] at hrun
        refine lv_aload_n hx hb d_MacroExpandModel_group_25 rfl (lv_at hl 0 rfl) ?_
        replace hrun := hb_some hrun
        obtain ⟨v26, g26, hrun⟩ := hrun
        refine h_getR S (fun w q => hT w (i_MacroExpandModel w q)) hK (ci := 1) rfl 15 (by decide) (hT _ fl_MacroExpandModel_38) hw g26 d_MacroExpandModel_group_26 ?_
        refine lv_sipush (v := (200 : Int32)) hx hb d_MacroExpandModel_group_29 (by decide) ?_
        refine lv_aload_n hx hb d_MacroExpandModel_group_32 rfl (lv_at hl 0 rfl) ?_
        replace hrun := hb_some hrun
        obtain ⟨v33, g33, hrun⟩ := hrun
        refine h_getI S (fun w q => hT w (i_MacroExpandModel w q)) hK (ci := 1) rfl 14 (by decide) (hT _ fl_MacroExpandModel_97) hw g33 d_MacroExpandModel_group_33 ?_
        refine lv_imul hx hb d_MacroExpandModel_group_36 ?_
        refine lv_iload_n hx hb d_MacroExpandModel_group_37 rfl (lv_at hl 1 rfl) ?_
        refine lv_iadd hx hb d_MacroExpandModel_group_38 ?_
        refine lv_aload_n hx hb d_MacroExpandModel_group_39 rfl (lv_at hl 0 rfl) ?_
        replace hrun := hb_some hrun
        obtain ⟨v40, g40, hrun⟩ := hrun
        refine h_getR S (fun w q => hT w (i_MacroExpandModel w q)) hK (ci := 1) rfl 13 (by decide) (hT _ fl_MacroExpandModel_35) hw g40 d_MacroExpandModel_group_40 ?_
        refine lv_iload_n hx hb d_MacroExpandModel_group_43 rfl (lv_at hl 1 rfl) ?_
        replace hrun := hb_some hrun
        obtain ⟨p44, rfl, hrun⟩ := hrun
        replace hrun := hb_some hrun
        obtain ⟨v44, g44, hrun⟩ := hrun
        refine h_iald S hK (kd := 0) rfl hw g44 d_MacroExpandModel_group_44 ?_
        replace hrun := hb_some hrun
        obtain ⟨p45, rfl, hrun⟩ := hrun
        replace hrun := hb_some hrun
        obtain ⟨h45, g45, hrun⟩ := hrun
        refine h_iast S hK (kd := 0) rfl hw hS g45 d_MacroExpandModel_group_45 (fun H locs hw hS => ?_)
        refine lv_iinc (v := (x2 + (1 : Int32))) (lv' := [(2, .int (x2 + (1 : Int32))), (0, .ref a0)]) hx hb d_MacroExpandModel_group_46 hl (k := 1) rfl rfl (by decide) rfl (fun ls hl => ?_)
        refine lv_goto (tgt := 18) hx hb d_MacroExpandModel_group_49 (by decide) ?_
        cases hrun
        exact K0 (x2 + (1 : Int32)) rfl H locs ls hw hS (lv_sub hl [1, 0] rfl)
  unfold f_MacroExpandModel_group at hrun
  refine lv_iload_n hx hb d_MacroExpandModel_group_0 rfl (lv_at hl 1 rfl) ?_
  refine lv_if_eq (tgt := 67) hx hb d_MacroExpandModel_group_1 (by decide) (fun c1 => ?_) (fun c1 => ?_)
  · rw [if_pos c1] at hrun
    refine lv_aload_n hx hb d_MacroExpandModel_group_67 rfl (lv_at hl 0 rfl) ?_
    replace hrun := hb_some hrun
    obtain ⟨v68, g68, hrun⟩ := hrun
    refine h_getI S (fun w q => hT w (i_MacroExpandModel w q)) hK (ci := 1) rfl 14 (by decide) (hT _ fl_MacroExpandModel_97) hw g68 d_MacroExpandModel_group_68 ?_
    refine lv_if_ne (tgt := 77) hx hb d_MacroExpandModel_group_71 (by decide) (fun c71 => ?_) (fun c71 => ?_)
    · rw [if_neg c71] at hrun
      refine lv_aload_n hx hb d_MacroExpandModel_group_77 rfl (lv_at hl 0 rfl) ?_
      refine lv_dup hx hb d_MacroExpandModel_group_78 rfl ?_
      replace hrun := hb_some hrun
      obtain ⟨v79, g79, hrun⟩ := hrun
      refine h_getI S (fun w q => hT w (i_MacroExpandModel w q)) hK (ci := 1) rfl 14 (by decide) (hT _ fl_MacroExpandModel_97) hw g79 d_MacroExpandModel_group_79 ?_
      refine lv_iconst (v := (1 : Int32)) hx hb d_MacroExpandModel_group_82 (by decide) ?_
      refine lv_isub hx hb d_MacroExpandModel_group_83 ?_
      replace hrun := hb_some hrun
      obtain ⟨h84, g84, hrun⟩ := hrun
      refine h_put S (fun w q => hT w (i_MacroExpandModel w q)) t_MacroExpandModel t_MacroExpandModel_ok n_MacroExpandModel hK (ci := 1) rfl 14 (by decide) (hT _ fl_MacroExpandModel_97) rfl rfl rfl hw hS g84 d_MacroExpandModel_group_84 (fun H locs hw hS => ?_)
      refine lv_iconst (v := (0 : Int32)) hx hb d_MacroExpandModel_group_87 (by decide) ?_
      refine lv_istore_n (lv' := [(2, .int (0 : Int32)), (0, .ref a0), (1, .int i1)]) hx hb d_MacroExpandModel_group_88 rfl hl (by decide) rfl (fun ls hl => ?_)
      replace hrun := hbW_some hrun
      obtain ⟨b89, h89l, g89, hrun⟩ := hrun
      refine l_89 n (0 : Int32) h84 _ _ _ _ _ g89 hw hS (lv_sub hl [1, 0] rfl) ?_
      · rintro  eq9 H locs ls hw hS hl
        obtain rfl := eq9.symm
        try dsimp only at hrun
        refine lv_aload_n hx hb d_MacroExpandModel_group_123 rfl (lv_at hl 0 rfl) ?_
        replace hrun := hb_some hrun
        obtain ⟨v124, g124, hrun⟩ := hrun
        refine h_getI S (fun w q => hT w (i_MacroExpandModel w q)) hK (ci := 1) rfl 14 (by decide) (hT _ fl_MacroExpandModel_97) hw g124 d_MacroExpandModel_group_124 ?_
        cases hrun
        exact W.iret hx hb hr (fun t ht hW9 => ⟨⟨_, (), rfl, rfl, by show hW D dA classes b0 _ _ t.heap; rw [ht]; exact hw⟩, hS.F ht⟩) hS.2.2 d_MacroExpandModel_group_127
    · rw [if_pos c71] at hrun
      refine lv_bipush (v := (-3 : Int32)) hx hb d_MacroExpandModel_group_74 (by decide) ?_
      cases hrun
      exact W.iret hx hb hr (fun t ht hW9 => ⟨⟨_, (), rfl, rfl, by show hW D dA classes b0 _ _ t.heap; rw [ht]; exact hw⟩, hS.F ht⟩) hS.2.2 d_MacroExpandModel_group_76
  · rw [if_neg c1] at hrun
    refine lv_aload_n hx hb d_MacroExpandModel_group_4 rfl (lv_at hl 0 rfl) ?_
    replace hrun := hb_some hrun
    obtain ⟨v5, g5, hrun⟩ := hrun
    refine h_getI S (fun w q => hT w (i_MacroExpandModel w q)) hK (ci := 1) rfl 14 (by decide) (hT _ fl_MacroExpandModel_97) hw g5 d_MacroExpandModel_group_5 ?_
    refine lv_bipush (v := (20 : Int32)) hx hb d_MacroExpandModel_group_8 (by decide) ?_
    refine lv_icmp_ne (tgt := 16) hx hb d_MacroExpandModel_group_10 (by decide) (fun c10 => ?_) (fun c10 => ?_)
    · rw [if_neg c10] at hrun
      refine lv_iconst (v := (0 : Int32)) hx hb d_MacroExpandModel_group_16 (by decide) ?_
      refine lv_istore_n (lv' := [(2, .int (0 : Int32)), (0, .ref a0), (1, .int i1)]) hx hb d_MacroExpandModel_group_17 rfl hl (by decide) rfl (fun ls hl => ?_)
      replace hrun := hbW_some hrun
      obtain ⟨b18, h18l, g18, hrun⟩ := hrun
      refine l_18 n (0 : Int32) h _ _ _ _ _ g18 hw hS (lv_sub hl [1, 0] rfl) ?_
      · rintro  eq9 H locs ls hw hS hl
        obtain rfl := eq9.symm
        try dsimp only at hrun
        refine lv_aload_n hx hb d_MacroExpandModel_group_52 rfl (lv_at hl 0 rfl) ?_
        refine lv_dup hx hb d_MacroExpandModel_group_53 rfl ?_
        replace hrun := hb_some hrun
        obtain ⟨v54, g54, hrun⟩ := hrun
        refine h_getI S (fun w q => hT w (i_MacroExpandModel w q)) hK (ci := 1) rfl 14 (by decide) (hT _ fl_MacroExpandModel_97) hw g54 d_MacroExpandModel_group_54 ?_
        refine lv_iconst (v := (1 : Int32)) hx hb d_MacroExpandModel_group_57 (by decide) ?_
        refine lv_iadd hx hb d_MacroExpandModel_group_58 ?_
        replace hrun := hb_some hrun
        obtain ⟨h59, g59, hrun⟩ := hrun
        refine h_put S (fun w q => hT w (i_MacroExpandModel w q)) t_MacroExpandModel t_MacroExpandModel_ok n_MacroExpandModel hK (ci := 1) rfl 14 (by decide) (hT _ fl_MacroExpandModel_97) rfl rfl rfl hw hS g59 d_MacroExpandModel_group_59 (fun H locs hw hS => ?_)
        refine lv_aload_n hx hb d_MacroExpandModel_group_62 rfl (lv_at hl 0 rfl) ?_
        replace hrun := hb_some hrun
        obtain ⟨v63, g63, hrun⟩ := hrun
        refine h_getI S (fun w q => hT w (i_MacroExpandModel w q)) hK (ci := 1) rfl 14 (by decide) (hT _ fl_MacroExpandModel_97) hw g63 d_MacroExpandModel_group_63 ?_
        cases hrun
        exact W.iret hx hb hr (fun t ht hW9 => ⟨⟨_, (), rfl, rfl, by show hW D dA classes b0 _ _ t.heap; rw [ht]; exact hw⟩, hS.F ht⟩) hS.2.2 d_MacroExpandModel_group_66
    · rw [if_pos c10] at hrun
      refine lv_bipush (v := (-4 : Int32)) hx hb d_MacroExpandModel_group_13 (by decide) ?_
      cases hrun
      exact W.iret hx hb hr (fun t ht hW9 => ⟨⟨_, (), rfl, rfl, by show hW D dA classes b0 _ _ t.heap; rw [ht]; exact hw⟩, hS.F ht⟩) hS.2.2 d_MacroExpandModel_group_15
set_option maxHeartbeats 4000000 in
set_option maxRecDepth 100000 in
theorem c_MacroExpandModel_get (l : Launch) (D : va_G) (dA : Nat → ClassId) (b0 : Nat) (a0 : Nat) (i1 : Int32) (nx : Nat) {h : hH} {r : Int32} (hrun : f_MacroExpandModel_get a0 i1 h = some r) : Met l y_MacroExpandModel_get w_MacroExpandModel_get ({ frames := 0, cells := 0, slots := 0, locals := 0 } : Room) (va_Pc [.ref a0, .int i1] (hB D dA b0 nx h)) (va_Qi (fun r' (_ : Unit) => r' = r) (fun (_ : Unit) t => hW D dA classes b0 nx h t.heap) (hA b0)) 0 0 (hA b0) := by
  refine Met.ofW (cc := b_MacroExpandModel_get) (maxL := 2) (ret := (some .int)) (by decide) rfl ?_
  intro p e s m args below meth c s₁ B hml hv
  obtain ⟨rfl, hw, hK, hN⟩ := hv
  have hx := B.exec
  have hb := B.bytes
  have hr := B.returns
  have hlocks := B.notSynchronized
  have S : CallFix p m c b_MacroExpandModel_get 2 s ([.ref a0, .int i1] : List Value).toArray w_MacroExpandModel_get R_MacroExpandModel := ⟨hx, hb, hml, findClass_of_methodNamed B.named, atoms_spec (ws := w_MacroExpandModel_get) B.pre⟩
  have hT : ∀ w ∈ tbl, w ∈ w_MacroExpandModel_get := fun _ q => List.mem_cons_of_mem _ q
  have hS : va_S (hA b0) s.heap s.heap [] := va_S.rf
  have hl := lv_entry ([.ref a0, .int i1]) (n := 2) (Nat.le_of_ble_eq_true rfl)
  rw [lg_entry_eq]
  generalize (lg_sl ([.ref a0, .int i1]) ++ List.replicate (2 - (lg_sl ([.ref a0, .int i1])).length) Slot.unset).toArray = ls at hl ⊢
  have hl : lv_has ls 2 [(0, .ref a0), (1, .int i1)] := hl
  unfold f_MacroExpandModel_get at hrun
  refine lv_aload_n hx hb d_MacroExpandModel_get_0 rfl (lv_at hl 0 rfl) ?_
  replace hrun := hb_some hrun
  obtain ⟨v1, g1, hrun⟩ := hrun
  refine h_getR S (fun w q => hT w (i_MacroExpandModel w q)) hK (ci := 1) rfl 1 (by decide) (hT _ fl_MacroExpandModel_7) hw g1 d_MacroExpandModel_get_1 ?_
  refine lv_aload_n hx hb d_MacroExpandModel_get_4 rfl (lv_at hl 0 rfl) ?_
  replace hrun := hb_some hrun
  obtain ⟨v5, g5, hrun⟩ := hrun
  refine h_getI S (fun w q => hT w (i_MacroExpandModel w q)) hK (ci := 1) rfl 2 (by decide) (hT _ fl_MacroExpandModel_110) hw g5 d_MacroExpandModel_get_5 ?_
  refine lv_iload_n hx hb d_MacroExpandModel_get_8 rfl (lv_at hl 1 rfl) ?_
  refine lv_iadd hx hb d_MacroExpandModel_get_9 ?_
  refine lv_sipush (v := (4095 : Int32)) hx hb d_MacroExpandModel_get_10 (by decide) ?_
  refine lv_iand hx hb d_MacroExpandModel_get_13 ?_
  replace hrun := hb_some hrun
  obtain ⟨p14, rfl, hrun⟩ := hrun
  replace hrun := hb_some hrun
  obtain ⟨v14, g14, hrun⟩ := hrun
  refine h_iald S hK (kd := 0) rfl hw g14 d_MacroExpandModel_get_14 ?_
  cases hrun
  exact W.iret hx hb hr (fun t ht hW9 => ⟨⟨_, (), rfl, rfl, by show hW D dA classes b0 _ _ t.heap; rw [ht]; exact hw⟩, hS.F ht⟩) hS.2.2 d_MacroExpandModel_get_15
set_option maxHeartbeats 4000000 in
set_option maxRecDepth 100000 in
theorem c_MacroExpandModel_mark (l : Launch) (D : va_G) (dA : Nat → ClassId) (b0 : Nat) (a0 : Nat) (i1 : Int32) (nx : Nat) {h h' : hH} {r : Unit} (hrun : f_MacroExpandModel_mark a0 i1 h = some (r, h')) : Met l y_MacroExpandModel_mark w_MacroExpandModel_mark ({ frames := 0, cells := 0, slots := 0, locals := 0 } : Room) (va_Pc [.ref a0, .int i1] (hB D dA b0 nx h)) (va_Qv (fun (_ : Unit) => True) (fun (_ : Unit) t => hW D dA classes b0 nx h' t.heap) (hA b0)) 0 0 (hA b0) := by
  refine Met.ofW (cc := b_MacroExpandModel_mark) (maxL := 2) (ret := none) (by decide) rfl ?_
  intro p e s m args below meth c s₁ B hml hv
  obtain ⟨rfl, hw, hK, hN⟩ := hv
  have hx := B.exec
  have hb := B.bytes
  have hr := B.returns
  have hlocks := B.notSynchronized
  have S : CallFix p m c b_MacroExpandModel_mark 2 s ([.ref a0, .int i1] : List Value).toArray w_MacroExpandModel_mark R_MacroExpandModel := ⟨hx, hb, hml, findClass_of_methodNamed B.named, atoms_spec (ws := w_MacroExpandModel_mark) B.pre⟩
  have hT : ∀ w ∈ tbl, w ∈ w_MacroExpandModel_mark := fun _ q => List.mem_cons_of_mem _ q
  have hS : va_S (hA b0) s.heap s.heap [] := va_S.rf
  have hl := lv_entry ([.ref a0, .int i1]) (n := 2) (Nat.le_of_ble_eq_true rfl)
  rw [lg_entry_eq]
  generalize (lg_sl ([.ref a0, .int i1]) ++ List.replicate (2 - (lg_sl ([.ref a0, .int i1])).length) Slot.unset).toArray = ls at hl ⊢
  have hl : lv_has ls 2 [(0, .ref a0), (1, .int i1)] := hl
  have j_16 : ∀  (y0 : Option Nat) (y1 : Int32) (h : hH) (H : Heap) (locs : List Loc) (ls : Array Slot), f_MacroExpandModel_mark_j16 y0 y1 h = some (r, h') → hW D dA classes b0 nx h H → va_S (hA b0) s.heap H locs → lv_has ls 2 [] → W p l e (headSpec w_MacroExpandModel_mark ({ frames := 0, cells := 0, slots := 0, locals := 0 } : Room)).room s m ([.ref a0, .int i1] : List Value).toArray below meth c H locs 0 0 (MQ below (va_Qv (fun (_ : Unit) => True) (fun (_ : Unit) t => hW D dA classes b0 nx h' t.heap) (hA b0)) ([.ref a0, .int i1] : List Value).toArray s 0 0 (hA b0)) (F0 m 16 ls [.int y1, va_rf y0]) := by
    intro y0 y1 h H locs ls hrun hw hS hl
    unfold f_MacroExpandModel_mark_j16 at hrun
    replace hrun := hb_some hrun
    obtain ⟨p16, rfl, hrun⟩ := hrun
    replace hrun := hb_some hrun
    obtain ⟨h16, g16, hrun⟩ := hrun
    refine h_put S (fun w q => hT w (i_MacroExpandModel w q)) t_MacroExpandModel t_MacroExpandModel_ok n_MacroExpandModel hK (ci := 1) rfl 21 (by decide) (hT _ fl_MacroExpandModel_113) rfl rfl rfl hw hS g16 d_MacroExpandModel_mark_16 (fun H locs hw hS => ?_)
    cases hrun
    exact W.vret hx hb hr (fun t ht hW9 => ⟨⟨(), rfl, trivial, by show hW D dA classes b0 _ _ t.heap; rw [ht]; exact hw⟩, hS.F ht⟩) hS.2.2 d_MacroExpandModel_mark_19
  unfold f_MacroExpandModel_mark at hrun
  refine lv_aload_n hx hb d_MacroExpandModel_mark_0 rfl (lv_at hl 0 rfl) ?_
  refine lv_aload_n hx hb d_MacroExpandModel_mark_1 rfl (lv_at hl 0 rfl) ?_
  replace hrun := hb_some hrun
  obtain ⟨v2, g2, hrun⟩ := hrun
  refine h_getI S (fun w q => hT w (i_MacroExpandModel w q)) hK (ci := 1) rfl 21 (by decide) (hT _ fl_MacroExpandModel_113) hw g2 d_MacroExpandModel_mark_2 ?_
  refine lv_if_ne (tgt := 12) hx hb d_MacroExpandModel_mark_5 (by decide) (fun c5 => ?_) (fun c5 => ?_)
  · rw [if_neg c5] at hrun
    refine lv_aload_n hx hb d_MacroExpandModel_mark_12 rfl (lv_at hl 0 rfl) ?_
    replace hrun := hb_some hrun
    obtain ⟨v13, g13, hrun⟩ := hrun
    refine h_getI S (fun w q => hT w (i_MacroExpandModel w q)) hK (ci := 1) rfl 21 (by decide) (hT _ fl_MacroExpandModel_113) hw g13 d_MacroExpandModel_mark_13 ?_
    exact j_16 (some a0) v13 h _ _ _ hrun hw hS (lv_sub hl [] rfl)
  · rw [if_pos c5] at hrun
    refine lv_iload_n hx hb d_MacroExpandModel_mark_8 rfl (lv_at hl 1 rfl) ?_
    refine lv_goto (tgt := 16) hx hb d_MacroExpandModel_mark_9 (by decide) ?_
    exact j_16 (some a0) i1 h _ _ _ hrun hw hS (lv_sub hl [] rfl)
