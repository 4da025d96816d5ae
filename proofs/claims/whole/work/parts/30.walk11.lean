set_option maxHeartbeats 4000000 in
set_option maxRecDepth 100000 in
theorem c_Kind_markOf (l : Launch) (D : va_G) (dA : Nat → ClassId) (b0 : Nat) (i0 : Int32) (nx : Nat) {h : hH} {r : Int32} (hrun : f_Kind_markOf i0 h = some r) : Met l y_Kind_markOf w_Kind_markOf ({ frames := 0, cells := 0, slots := 0, locals := 0 } : Room) (va_Pc [.int i0] (hB D dA b0 nx h)) (va_Qi (fun r' (_ : Unit) => r' = r) (fun (_ : Unit) t => hW D dA classes b0 nx h t.heap) (hA b0)) 0 0 (hA b0) := by
  refine Met.ofW (cc := b_Kind_markOf) (maxL := 1) (ret := (some .int)) (by decide) rfl ?_
  intro p e s m args below meth c s₁ B hml hv
  obtain ⟨rfl, hw, hK, hN⟩ := hv
  have hx := B.exec
  have hb := B.bytes
  have hr := B.returns
  have hlocks := B.notSynchronized
  have S : CallFix p m c b_Kind_markOf 1 s ([.int i0] : List Value).toArray w_Kind_markOf R_Kind := ⟨hx, hb, hml, findClass_of_methodNamed B.named, atoms_spec (ws := w_Kind_markOf) B.pre⟩
  have hT : ∀ w ∈ tbl, w ∈ w_Kind_markOf := fun _ q => List.mem_cons_of_mem _ q
  have hS : va_S (hA b0) s.heap s.heap [] := va_S.rf
  have hl := lv_entry ([.int i0]) (n := 1) (Nat.le_of_ble_eq_true rfl)
  rw [lg_entry_eq]
  generalize (lg_sl ([.int i0]) ++ List.replicate (1 - (lg_sl ([.int i0])).length) Slot.unset).toArray = ls at hl ⊢
  have hl : lv_has ls 1 [(0, .int i0)] := hl
  unfold f_Kind_markOf at hrun
  refine lv_iload_n hx hb d_Kind_markOf_0 rfl (lv_at hl 0 rfl) ?_
  refine lv_sipush (v := (266 : Int32)) hx hb d_Kind_markOf_1 (by decide) ?_
  refine lv_icmp_ne (tgt := 9) hx hb d_Kind_markOf_4 (by decide) (fun c4 => ?_) (fun c4 => ?_)
  · rw [if_neg c4] at hrun
    refine lv_iload_n hx hb d_Kind_markOf_9 rfl (lv_at hl 0 rfl) ?_
    refine lv_sipush (v := (267 : Int32)) hx hb d_Kind_markOf_10 (by decide) ?_
    refine lv_icmp_ne (tgt := 18) hx hb d_Kind_markOf_13 (by decide) (fun c13 => ?_) (fun c13 => ?_)
    · rw [if_neg c13] at hrun
      refine lv_iload_n hx hb d_Kind_markOf_18 rfl (lv_at hl 0 rfl) ?_
      refine lv_sipush (v := (268 : Int32)) hx hb d_Kind_markOf_19 (by decide) ?_
      refine lv_icmp_ne (tgt := 29) hx hb d_Kind_markOf_22 (by decide) (fun c22 => ?_) (fun c22 => ?_)
      · rw [if_neg c22] at hrun
        refine lv_iconst (v := (0 : Int32)) hx hb d_Kind_markOf_29 (by decide) ?_
        cases hrun
        exact W.iret hx hb hr (fun t ht hW9 => ⟨⟨_, (), rfl, rfl, by show hW D dA classes b0 _ _ t.heap; rw [ht]; exact hw⟩, hS.F ht⟩) hS.2.2 d_Kind_markOf_30
      · rw [if_pos c22] at hrun
        refine lv_iconst (v := (4 : Int32)) hx hb d_Kind_markOf_25 (by decide) ?_
        refine lv_goto (tgt := 30) hx hb d_Kind_markOf_26 (by decide) ?_
        cases hrun
        exact W.iret hx hb hr (fun t ht hW9 => ⟨⟨_, (), rfl, rfl, by show hW D dA classes b0 _ _ t.heap; rw [ht]; exact hw⟩, hS.F ht⟩) hS.2.2 d_Kind_markOf_30
    · rw [if_pos c13] at hrun
      refine lv_iconst (v := (2 : Int32)) hx hb d_Kind_markOf_16 (by decide) ?_
      cases hrun
      exact W.iret hx hb hr (fun t ht hW9 => ⟨⟨_, (), rfl, rfl, by show hW D dA classes b0 _ _ t.heap; rw [ht]; exact hw⟩, hS.F ht⟩) hS.2.2 d_Kind_markOf_17
  · rw [if_pos c4] at hrun
    refine lv_iconst (v := (1 : Int32)) hx hb d_Kind_markOf_7 (by decide) ?_
    cases hrun
    exact W.iret hx hb hr (fun t ht hW9 => ⟨⟨_, (), rfl, rfl, by show hW D dA classes b0 _ _ t.heap; rw [ht]; exact hw⟩, hS.F ht⟩) hS.2.2 d_Kind_markOf_8
set_option maxHeartbeats 4000000 in
set_option maxRecDepth 100000 in
theorem c_Definition_begin (l : Launch) (D : va_G) (dA : Nat → ClassId) (b0 : Nat) (n : Nat) (a0 : Nat) (i1 : Int32) (nx : Nat) {h h' : hH} {r : Unit} (hrun : f_Definition_begin n a0 i1 h = some (r, h')) : Met l y_Definition_begin w_Definition_begin ({ frames := 1, cells := 0, slots := 0, locals := 20 } : Room) (va_Pc [.ref a0, .int i1] (hB D dA b0 nx h)) (va_Qv (fun (_ : Unit) => True) (fun (_ : Unit) t => hW D dA classes b0 nx h' t.heap) (hA b0)) 0 0 (hA b0) := by
  refine Met.ofW (cc := b_Definition_begin) (maxL := 3) (ret := none) (by decide) rfl ?_
  intro p e s m args below meth c s₁ B hml hv
  obtain ⟨rfl, hw, hK, hN⟩ := hv
  have hx := B.exec
  have hb := B.bytes
  have hr := B.returns
  have hlocks := B.notSynchronized
  have S : CallFix p m c b_Definition_begin 3 s ([.ref a0, .int i1] : List Value).toArray w_Definition_begin R_Definition := ⟨hx, hb, hml, findClass_of_methodNamed B.named, atoms_spec (ws := w_Definition_begin) B.pre⟩
  have hT : ∀ w ∈ tbl, w ∈ w_Definition_begin := fun _ q => List.mem_cons_of_mem _ q
  have hS : va_S (hA b0) s.heap s.heap [] := va_S.rf
  have hl := lv_entry ([.ref a0, .int i1]) (n := 3) (Nat.le_of_ble_eq_true rfl)
  rw [lg_entry_eq]
  generalize (lg_sl ([.ref a0, .int i1]) ++ List.replicate (3 - (lg_sl ([.ref a0, .int i1])).length) Slot.unset).toArray = ls at hl ⊢
  have hl : lv_has ls 3 [(0, .ref a0), (1, .int i1)] := hl
  have l_2 : ∀ (x1 : Int32) (n9 : Nat) (x9 : Int32) (h : hH) (b9 : (Unit)) (h9 : hH) (H : Heap) (locs : List Loc) (ls : Array Slot), hloopW (f_Definition_begin_b2 n a0 x1) n9 x9 h = some (b9, h9) → hW D dA classes b0 nx h H → va_S (hA b0) s.heap H locs → lv_has ls 3 (match x9 with | x2 => [(0, .ref a0), (1, .int x1), (2, .int x2)]) → (b9 = () → ∀ (H : Heap) (locs : List Loc) (ls : Array Slot), hW D dA classes b0 nx h9 H → va_S (hA b0) s.heap H locs → lv_has ls 3 [(0, .ref a0), (1, .int x1)] → W p l e (headSpec w_Definition_begin ({ frames := 1, cells := 0, slots := 0, locals := 20 } : Room)).room s m ([.ref a0, .int i1] : List Value).toArray below meth c H locs 0 0 (MQ below (va_Qv (fun (_ : Unit) => True) (fun (_ : Unit) t => hW D dA classes b0 nx h' t.heap) (hA b0)) ([.ref a0, .int i1] : List Value).toArray s 0 0 (hA b0)) (F0 m 26 ls [])) → W p l e (headSpec w_Definition_begin ({ frames := 1, cells := 0, slots := 0, locals := 20 } : Room)).room s m ([.ref a0, .int i1] : List Value).toArray below meth c H locs 0 0 (MQ below (va_Qv (fun (_ : Unit) => True) (fun (_ : Unit) t => hW D dA classes b0 nx h' t.heap) (hA b0)) ([.ref a0, .int i1] : List Value).toArray s 0 0 (hA b0)) (F0 m 2 ls []) := by
    intro x1 n9
    induction n9 with
    | zero =>
      intro x9 h b9 h9 H locs ls hrun
      cases hrun
    | succ n9 ih =>
      rintro x2 h b9 h9 H locs ls hrun hw hS hl k0
      have hl : lv_has ls 3 [(0, .ref a0), (1, .int x1), (2, .int x2)] := hl
      unfold hloopW at hrun
      obtain ⟨q9, h9b, hbody, hrun9⟩ := hbW_some hrun
      have K0 : (∀ (z2 : Int32), q9 = .inl z2 → ∀ (H : Heap) (locs : List Loc) (ls : Array Slot), hW D dA classes b0 nx h9b H → va_S (hA b0) s.heap H locs → lv_has ls 3 [(0, .ref a0), (1, .int x1), (2, .int z2)] → W p l e (headSpec w_Definition_begin ({ frames := 1, cells := 0, slots := 0, locals := 20 } : Room)).room s m ([.ref a0, .int i1] : List Value).toArray below meth c H locs 0 0 (MQ below (va_Qv (fun (_ : Unit) => True) (fun (_ : Unit) t => hW D dA classes b0 nx h' t.heap) (hA b0)) ([.ref a0, .int i1] : List Value).toArray s 0 0 (hA b0)) (F0 m 2 ls [])) := by
        intro z2 eq9 H locs ls hw hS hl
        subst eq9
        exact ih z2 h9b b9 h9 H locs ls hrun9 hw hS hl k0
      have K1 : (q9 = .inr () → ∀ (H : Heap) (locs : List Loc) (ls : Array Slot), hW D dA classes b0 nx h9b H → va_S (hA b0) s.heap H locs → lv_has ls 3 [(0, .ref a0), (1, .int x1)] → W p l e (headSpec w_Definition_begin ({ frames := 1, cells := 0, slots := 0, locals := 20 } : Room)).room s m ([.ref a0, .int i1] : List Value).toArray below meth c H locs 0 0 (MQ below (va_Qv (fun (_ : Unit) => True) (fun (_ : Unit) t => hW D dA classes b0 nx h' t.heap) (hA b0)) ([.ref a0, .int i1] : List Value).toArray s 0 0 (hA b0)) (F0 m 26 ls [])) := by
        intro  eq9 H locs ls hw hS hl
        subst eq9
        cases hrun9
        exact k0  rfl H locs ls hw hS hl
      clear hrun hrun9 ih k0
      have hrun := hbody
      clear hbody
      dsimp only [f_Definition_begin_b2] at hrun
      refine lv_iload_n hx hb d_Definition_begin_2 rfl (lv_at hl 2 rfl) ?_
      refine lv_aload_n hx hb d_Definition_begin_3 rfl (lv_at hl 0 rfl) ?_
      replace hrun := hb_some hrun
      obtain ⟨v4, g4, hrun⟩ := hrun
      refine h_getR S (fun w q => hT w (i_Definition w q)) hK (ci := 4) rfl 0 (by decide) (hT _ fl_Definition_11) hw g4 d_Definition_begin_4 ?_
      replace hrun := hb_some hrun
      obtain ⟨p7, rfl, hrun⟩ := hrun
      replace hrun := hb_some hrun
      obtain ⟨v7, g7, hrun⟩ := hrun
      refine h_alen S hK (kd := 3) rfl hw g7 d_Definition_begin_7 ?_
      refine lv_icmp_ge (tgt := 26) hx hb d_Definition_begin_8 (by decide) (fun c8 => ?_) (fun c8 => ?_)
      · rw [if_pos c8] at hrun
        cases hrun
        exact K1  rfl H locs ls hw hS (lv_sub hl [0, 1] rfl)
      · rw [if_neg c8] at hrun
        refine lv_aload_n hx hb d_Definition_begin_11 rfl (lv_at hl 0 rfl) ?_
        replace hrun := hb_some hrun
        obtain ⟨v12, g12, hrun⟩ := hrun
        refine h_getR S (fun w q => hT w (i_Definition w q)) hK (ci := 4) rfl 0 (by decide) (hT _ fl_Definition_11) hw g12 d_Definition_begin_12 ?_
        refine lv_iload_n hx hb d_Definition_begin_15 rfl (lv_at hl 2 rfl) ?_
        replace hrun := hb_some hrun
        obtain ⟨p16, rfl, hrun⟩ := hrun
        replace hrun := hb_some hrun
        obtain ⟨v16, g16, hrun⟩ := hrun
        refine h_aald S hK (kd := 3) rfl hw g16 d_Definition_begin_16 ?_
        replace hrun := hb_some hrun
        obtain ⟨p17, rfl, hrun⟩ := hrun
        replace hrun := hb_some hrun
        obtain ⟨c17, k17, hrun⟩ := hrun
        replace hrun := hbW_some hrun
        obtain ⟨_u17, h17, g17, hrun⟩ := hrun
        refine h_cv (h_runV S (As := []) (rest := []) (c_Row_clear l D dA b0 p17 nx g17) (cwV 0 S.2.2.2.2 (h_good _ (h_in4 ml_Definition_28 im_Row_clear se_Row_clear it_Row) cd_Row_clear) rfl rfl rfl (by decide +kernel) ⟨Nat.le_of_ble_eq_true rfl, Nat.le_of_ble_eq_true rfl⟩) hK hN hw (ci := 8) rfl k17 rfl hl.1 (lv_room (Nat.le_of_ble_eq_true rfl)) d_Definition_begin_17 ⟨Nat.le_refl _, Nat.le_refl _⟩) hS (fun H locs hw hS => ?_)
        refine lv_iinc (v := (x2 + (1 : Int32))) (lv' := [(2, .int (x2 + (1 : Int32))), (0, .ref a0), (1, .int x1)]) hx hb d_Definition_begin_20 hl (k := 2) rfl rfl (by decide) rfl (fun ls hl => ?_)
        refine lv_goto (tgt := 2) hx hb d_Definition_begin_23 (by decide) ?_
        cases hrun
        exact K0 (x2 + (1 : Int32)) rfl H locs ls hw hS (lv_sub hl [1, 2, 0] rfl)
  unfold f_Definition_begin at hrun
  refine lv_iconst (v := (0 : Int32)) hx hb d_Definition_begin_0 (by decide) ?_
  refine lv_istore_n (lv' := [(2, .int (0 : Int32)), (0, .ref a0), (1, .int i1)]) hx hb d_Definition_begin_1 rfl hl (by decide) rfl (fun ls hl => ?_)
  replace hrun := hbW_some hrun
  obtain ⟨b2, h2l, g2, hrun⟩ := hrun
  refine l_2 i1 n (0 : Int32) h _ _ _ _ _ g2 hw hS (lv_sub hl [1, 2, 0] rfl) ?_
  · rintro  eq9 H locs ls hw hS hl
    obtain rfl := eq9.symm
    try dsimp only at hrun
    refine lv_aload_n hx hb d_Definition_begin_26 rfl (lv_at hl 0 rfl) ?_
    replace hrun := hb_some hrun
    obtain ⟨v27, g27, hrun⟩ := hrun
    refine h_getR S (fun w q => hT w (i_Definition w q)) hK (ci := 4) rfl 1 (by decide) (hT _ fl_Definition_20) hw g27 d_Definition_begin_27 ?_
    replace hrun := hb_some hrun
    obtain ⟨p30, rfl, hrun⟩ := hrun
    replace hrun := hb_some hrun
    obtain ⟨c30, k30, hrun⟩ := hrun
    replace hrun := hbW_some hrun
    obtain ⟨_u30, h30, g30, hrun⟩ := hrun
    refine h_cv (h_runV S (As := []) (rest := []) (c_Row_clear l D dA b0 p30 nx g30) (cwV 0 S.2.2.2.2 (h_good _ (h_in4 ml_Definition_28 im_Row_clear se_Row_clear it_Row) cd_Row_clear) rfl rfl rfl (by decide +kernel) ⟨Nat.le_of_ble_eq_true rfl, Nat.le_of_ble_eq_true rfl⟩) hK hN hw (ci := 8) rfl k30 rfl hl.1 (lv_room (Nat.le_of_ble_eq_true rfl)) d_Definition_begin_30 ⟨Nat.le_refl _, Nat.le_refl _⟩) hS (fun H locs hw hS => ?_)
    refine lv_aload_n hx hb d_Definition_begin_33 rfl (lv_at hl 0 rfl) ?_
    refine lv_iconst (v := (1 : Int32)) hx hb d_Definition_begin_34 (by decide) ?_
    replace hrun := hb_some hrun
    obtain ⟨h35, g35, hrun⟩ := hrun
    refine h_put S (fun w q => hT w (i_Definition w q)) t_Definition t_Definition_ok n_Definition hK (ci := 4) rfl 2 (by decide) (hT _ fl_Definition_24) rfl rfl rfl hw hS g35 d_Definition_begin_35 (fun H locs hw hS => ?_)
    refine lv_aload_n hx hb d_Definition_begin_38 rfl (lv_at hl 0 rfl) ?_
    refine lv_iload_n hx hb d_Definition_begin_39 rfl (lv_at hl 1 rfl) ?_
    replace hrun := hb_some hrun
    obtain ⟨h40, g40, hrun⟩ := hrun
    obtain ⟨n40, f40, g40⟩ := hpZ_spec g40
    refine h_put S (fun w q => hT w (i_Definition w q)) t_Definition t_Definition_ok n_Definition hK (ci := 4) rfl 3 (by decide) (hT _ fl_Definition_31) rfl n40 f40 hw hS g40 d_Definition_begin_40 (fun H locs hw hS => ?_)
    refine lv_aload_n hx hb d_Definition_begin_43 rfl (lv_at hl 0 rfl) ?_
    refine lv_iconst (v := (0 : Int32)) hx hb d_Definition_begin_44 (by decide) ?_
    replace hrun := hb_some hrun
    obtain ⟨h45, g45, hrun⟩ := hrun
    refine h_put S (fun w q => hT w (i_Definition w q)) t_Definition t_Definition_ok n_Definition hK (ci := 4) rfl 4 (by decide) (hT _ fl_Definition_35) rfl rfl rfl hw hS g45 d_Definition_begin_45 (fun H locs hw hS => ?_)
    refine lv_aload_n hx hb d_Definition_begin_48 rfl (lv_at hl 0 rfl) ?_
    refine lv_iconst (v := (0 : Int32)) hx hb d_Definition_begin_49 (by decide) ?_
    replace hrun := hb_some hrun
    obtain ⟨h50, g50, hrun⟩ := hrun
    refine h_put S (fun w q => hT w (i_Definition w q)) t_Definition t_Definition_ok n_Definition hK (ci := 4) rfl 5 (by decide) (hT _ fl_Definition_38) rfl rfl rfl hw hS g50 d_Definition_begin_50 (fun H locs hw hS => ?_)
    refine lv_aload_n hx hb d_Definition_begin_53 rfl (lv_at hl 0 rfl) ?_
    refine lv_iconst (v := (1 : Int32)) hx hb d_Definition_begin_54 (by decide) ?_
    replace hrun := hb_some hrun
    obtain ⟨h55, g55, hrun⟩ := hrun
    refine h_put S (fun w q => hT w (i_Definition w q)) t_Definition t_Definition_ok n_Definition hK (ci := 4) rfl 6 (by decide) (hT _ fl_Definition_41) rfl rfl rfl hw hS g55 d_Definition_begin_55 (fun H locs hw hS => ?_)
    cases hrun
    exact W.vret hx hb hr (fun t ht hW9 => ⟨⟨(), rfl, trivial, by show hW D dA classes b0 _ _ t.heap; rw [ht]; exact hw⟩, hS.F ht⟩) hS.2.2 d_Definition_begin_58
set_option maxHeartbeats 4000000 in
set_option maxRecDepth 100000 in
theorem c_Whole_takeLater (l : Launch) (D : va_G) (dA : Nat → ClassId) (b0 : Nat) (a0 : Nat) (nx : Nat) {h h' : hH} {r : Int32} (hrun : f_Whole_takeLater a0 h = some (r, h')) : Met l y_Whole_takeLater w_Whole_takeLater ({ frames := 1, cells := 0, slots := 0, locals := 20 } : Room) (va_Pc [.ref a0] (hB D dA b0 nx h)) (va_Qi (fun r' (_ : Unit) => r' = r) (fun (_ : Unit) t => hW D dA classes b0 nx h' t.heap) (hA b0)) 0 0 (hA b0) := by
  refine Met.ofW (cc := b_Whole_takeLater) (maxL := 1) (ret := (some .int)) (by decide) rfl ?_
  intro p e s m args below meth c s₁ B hml hv
  obtain ⟨rfl, hw, hK, hN⟩ := hv
  have hx := B.exec
  have hb := B.bytes
  have hr := B.returns
  have hlocks := B.notSynchronized
  have S : CallFix p m c b_Whole_takeLater 1 s ([.ref a0] : List Value).toArray w_Whole_takeLater R_Whole := ⟨hx, hb, hml, findClass_of_methodNamed B.named, atoms_spec (ws := w_Whole_takeLater) B.pre⟩
  have hT : ∀ w ∈ tbl, w ∈ w_Whole_takeLater := fun _ q => List.mem_cons_of_mem _ q
  have hS : va_S (hA b0) s.heap s.heap [] := va_S.rf
  have hl := lv_entry ([.ref a0]) (n := 1) (Nat.le_of_ble_eq_true rfl)
  rw [lg_entry_eq]
  generalize (lg_sl ([.ref a0]) ++ List.replicate (1 - (lg_sl ([.ref a0])).length) Slot.unset).toArray = ls at hl ⊢
  have hl : lv_has ls 1 [(0, .ref a0)] := hl
  unfold f_Whole_takeLater at hrun
  refine lv_aload_n hx hb d_Whole_takeLater_0 rfl (lv_at hl 0 rfl) ?_
  replace hrun := hb_some hrun
  obtain ⟨v1, g1, hrun⟩ := hrun
  refine h_getR S (fun w q => hT w (i_Whole w q)) hK (ci := 11) rfl 0 (by decide) (hT _ fl_Whole_9) hw g1 d_Whole_takeLater_1 ?_
  replace hrun := hb_some hrun
  obtain ⟨p4, rfl, hrun⟩ := hrun
  replace hrun := hb_some hrun
  obtain ⟨c4, k4, hrun⟩ := hrun
  replace hrun := hb_some hrun
  obtain ⟨v4, g4, hrun⟩ := hrun
  refine h_ci (h_runV S (As := []) (rest := []) (c_Input_isEmpty l D dA b0 p4 nx g4) (cwV 0 S.2.2.2.2 (h_good _ (h_in4 ml_Whole_53 im_Input_isEmpty se_Input_isEmpty it_Input) cd_Input_isEmpty) rfl rfl rfl (by decide +kernel) ⟨Nat.le_of_ble_eq_true rfl, Nat.le_of_ble_eq_true rfl⟩) hK hN hw (ci := 6) rfl k4 rfl hl.1 (lv_room (Nat.le_of_ble_eq_true rfl)) d_Whole_takeLater_4 ⟨Nat.le_refl _, Nat.le_refl _⟩) hS (fun H locs hw hS => ?_)
  refine lv_if_eq (tgt := 12) hx hb d_Whole_takeLater_7 (by decide) (fun c7 => ?_) (fun c7 => ?_)
  · rw [if_pos c7] at hrun
    refine lv_aload_n hx hb d_Whole_takeLater_12 rfl (lv_at hl 0 rfl) ?_
    refine lv_aload_n hx hb d_Whole_takeLater_13 rfl (lv_at hl 0 rfl) ?_
    replace hrun := hb_some hrun
    obtain ⟨v14, g14, hrun⟩ := hrun
    refine h_getR S (fun w q => hT w (i_Whole w q)) hK (ci := 11) rfl 0 (by decide) (hT _ fl_Whole_9) hw g14 d_Whole_takeLater_14 ?_
    replace hrun := hb_some hrun
    obtain ⟨p17, rfl, hrun⟩ := hrun
    replace hrun := hb_some hrun
    obtain ⟨c17, k17, hrun⟩ := hrun
    replace hrun := hbW_some hrun
    obtain ⟨v17, h17, g17, hrun⟩ := hrun
    refine h_ci (h_runV S (As := []) (rest := [.ref a0]) (c_Input_take l D dA b0 p17 nx g17) (cwV 0 S.2.2.2.2 (h_good _ (h_in4 ml_Whole_102 im_Input_take se_Input_take it_Input) cd_Input_take) rfl rfl rfl (by decide +kernel) ⟨Nat.le_of_ble_eq_true rfl, Nat.le_of_ble_eq_true rfl⟩) hK hN hw (ci := 6) rfl k17 rfl hl.1 (lv_room (Nat.le_of_ble_eq_true rfl)) d_Whole_takeLater_17 ⟨Nat.le_refl _, Nat.le_refl _⟩) hS (fun H locs hw hS => ?_)
    replace hrun := hb_some hrun
    obtain ⟨h20, g20, hrun⟩ := hrun
    refine h_put S (fun w q => hT w (i_Whole w q)) t_Whole t_Whole_ok n_Whole hK (ci := 11) rfl 6 (by decide) (hT _ fl_Whole_43) rfl rfl rfl hw hS g20 d_Whole_takeLater_20 (fun H locs hw hS => ?_)
    refine lv_iconst (v := (0 : Int32)) hx hb d_Whole_takeLater_23 (by decide) ?_
    cases hrun
    exact W.iret hx hb hr (fun t ht hW9 => ⟨⟨_, (), rfl, rfl, by show hW D dA classes b0 _ _ t.heap; rw [ht]; exact hw⟩, hS.F ht⟩) hS.2.2 d_Whole_takeLater_24
  · rw [if_neg c7] at hrun
    refine lv_iconst (v := (1 : Int32)) hx hb d_Whole_takeLater_10 (by decide) ?_
    cases hrun
    exact W.iret hx hb hr (fun t ht hW9 => ⟨⟨_, (), rfl, rfl, by show hW D dA classes b0 _ _ t.heap; rw [ht]; exact hw⟩, hS.F ht⟩) hS.2.2 d_Whole_takeLater_11
set_option maxHeartbeats 4000000 in
set_option maxRecDepth 100000 in
theorem c_Whole_carryOut (l : Launch) (D : va_G) (dA : Nat → ClassId) (b0 : Nat) (n : Nat) (a0 : Nat) (i1 : Int32) (nxZ : Nat) {h h' : hH} {r : Int32} {dnZ dsZ : Nat} (hrun : f_Whole_carryOut n a0 i1 nxZ h = some (r, dnZ, dsZ, h')) : Met l y_Whole_carryOut w_Whole_carryOut ({ frames := 3, cells := dnZ, slots := dsZ, locals := 91 } : Room) (va_Pc [.ref a0, .int i1] (hB D dA b0 nxZ h)) (va_Qi (fun r' (_ : Unit) => r' = r) (fun (_ : Unit) t => hW D dA classes b0 (nxZ + dnZ) h' t.heap) (hA b0)) dnZ dsZ (hA b0) := by
  refine Met.ofW (cc := b_Whole_carryOut) (maxL := 3) (ret := (some .int)) (by decide) rfl ?_
  intro p e s m args below meth c s₁ B hml hv
  obtain ⟨rfl, hw, hK, hN⟩ := hv
  have hx := B.exec
  have hb := B.bytes
  have hr := B.returns
  have hlocks := B.notSynchronized
  have S : CallFix p m c b_Whole_carryOut 3 s ([.ref a0, .int i1] : List Value).toArray w_Whole_carryOut R_Whole := ⟨hx, hb, hml, findClass_of_methodNamed B.named, atoms_spec (ws := w_Whole_carryOut) B.pre⟩
  have hT : ∀ w ∈ tbl, w ∈ w_Whole_carryOut := fun _ q => List.mem_cons_of_mem _ q
  have hS : va_S (hA b0) s.heap s.heap [] := va_S.rf
  have hl := lv_entry ([.ref a0, .int i1]) (n := 3) (Nat.le_of_ble_eq_true rfl)
  rw [lg_entry_eq]
  generalize (lg_sl ([.ref a0, .int i1]) ++ List.replicate (3 - (lg_sl ([.ref a0, .int i1])).length) Slot.unset).toArray = ls at hl ⊢
  have hl : lv_has ls 3 [(0, .ref a0), (1, .int i1)] := hl
  obtain ⟨dn, edn⟩ : ∃ z, z = dnZ := ⟨_, rfl⟩
  obtain ⟨ds, eds⟩ : ∃ z, z = dsZ := ⟨_, rfl⟩
  obtain ⟨nx, enx⟩ : ∃ z, z = nxZ := ⟨_, rfl⟩
  rw [← edn, ← eds, ← enx] at hrun
  rw [← enx] at hw
  have hcR : 0 + dn ≤ dnZ := by omega
  have hsR : 0 + ds ≤ dsZ := by omega
  have j_51 : ∀  (y0 : Option Nat) (y1 : Int32) (cells slots dn ds nx : Nat) (h : hH) (H : Heap) (locs : List Loc) (ls : Array Slot), f_Whole_carryOut_j51 n y0 y1 nx h = some (r, dn, ds, h') → cells + dn ≤ dnZ → slots + ds ≤ dsZ → nx + dn = nxZ + dnZ → hW D dA classes b0 nx h H → va_S (hA b0) s.heap H locs → lv_has ls 3 [] → W p l e (headSpec w_Whole_carryOut ({ frames := 3, cells := dnZ, slots := dsZ, locals := 91 } : Room)).room s m ([.ref a0, .int i1] : List Value).toArray below meth c H locs cells slots (MQ below (va_Qi (fun r' (_ : Unit) => r' = r) (fun (_ : Unit) t => hW D dA classes b0 (nxZ + dnZ) h' t.heap) (hA b0)) ([.ref a0, .int i1] : List Value).toArray s dnZ dsZ (hA b0)) (F0 m 51 ls [.int y1, va_rf y0]) := by
    intro y0 y1 cells slots dn ds nx h H locs ls hrun hcR hsR hnR hw hS hl
    unfold f_Whole_carryOut_j51 at hrun
    replace hrun := hb_some hrun
    obtain ⟨p51, rfl, hrun⟩ := hrun
    replace hrun := hb_some hrun
    obtain ⟨c51, k51, hrun⟩ := hrun
    replace hrun := hbW_some hrun
    obtain ⟨_u51, h51, g51, hrun⟩ := hrun
    refine h_cv (h_runV S (As := [.int y1]) (rest := []) (c_Definition_begin l D dA b0 n p51 y1 nx g51) (cwV 1 S.2.2.2.2 (h_good _ (h_in4 ml_Whole_89 im_Definition_begin se_Definition_begin it_Definition) cd_Definition_begin) rfl rfl rfl (by decide +kernel) ⟨Nat.le_of_ble_eq_true rfl, Nat.le_of_ble_eq_true rfl⟩) hK hN hw (ci := 4) rfl k51 rfl hl.1 (lv_room (Nat.le_of_ble_eq_true rfl)) d_Whole_carryOut_51 ⟨show cells + 0 ≤ dnZ by omega, show slots + 0 ≤ dsZ by omega⟩) hS (fun H locs hw hS => ?_)
    refine lv_iconst (v := (0 : Int32)) hx hb d_Whole_carryOut_54 (by decide) ?_
    cases hrun
    refine W.widen (k := dnZ) (n := dsZ) (by omega) (by omega) ?_
    rw [show nx = nxZ + dnZ by omega] at hw
    exact W.iret hx hb hr (fun t ht hW9 => ⟨⟨_, (), rfl, rfl, by show hW D dA classes b0 _ _ t.heap; rw [ht]; exact hw⟩, hS.F ht⟩) hS.2.2 d_Whole_carryOut_55
  have j_35 : ∀  (x1 : Int32) (cells slots dn ds nx : Nat) (h : hH) (H : Heap) (locs : List Loc) (ls : Array Slot), f_Whole_carryOut_j35 n a0 x1 nx h = some (r, dn, ds, h') → cells + dn ≤ dnZ → slots + ds ≤ dsZ → nx + dn = nxZ + dnZ → hW D dA classes b0 nx h H → va_S (hA b0) s.heap H locs → lv_has ls 3 [(0, .ref a0), (1, .int x1)] → W p l e (headSpec w_Whole_carryOut ({ frames := 3, cells := dnZ, slots := dsZ, locals := 91 } : Room)).room s m ([.ref a0, .int i1] : List Value).toArray below meth c H locs cells slots (MQ below (va_Qi (fun r' (_ : Unit) => r' = r) (fun (_ : Unit) t => hW D dA classes b0 (nxZ + dnZ) h' t.heap) (hA b0)) ([.ref a0, .int i1] : List Value).toArray s dnZ dsZ (hA b0)) (F0 m 35 ls []) := by
    intro x1 cells slots dn ds nx h H locs ls hrun hcR hsR hnR hw hS hl
    unfold f_Whole_carryOut_j35 at hrun
    refine lv_aload_n hx hb d_Whole_carryOut_35 rfl (lv_at hl 0 rfl) ?_
    replace hrun := hb_some hrun
    obtain ⟨v36, g36, hrun⟩ := hrun
    refine h_getR S (fun w q => hT w (i_Whole w q)) hK (ci := 11) rfl 3 (by decide) (hT _ fl_Whole_26) hw g36 d_Whole_carryOut_36 ?_
    refine lv_iload_n hx hb d_Whole_carryOut_39 rfl (lv_at hl 1 rfl) ?_
    refine lv_sipush (v := (265 : Int32)) hx hb d_Whole_carryOut_40 (by decide) ?_
    refine lv_icmp_ne (tgt := 50) hx hb d_Whole_carryOut_43 (by decide) (fun c43 => ?_) (fun c43 => ?_)
    · rw [if_neg c43] at hrun
      refine lv_iconst (v := (0 : Int32)) hx hb d_Whole_carryOut_50 (by decide) ?_
      exact j_51 v36 (0 : Int32) cells slots _ _ nx h _ _ _ hrun hcR hsR (by omega) hw hS (lv_sub hl [] rfl)
    · rw [if_pos c43] at hrun
      refine lv_iconst (v := (1 : Int32)) hx hb d_Whole_carryOut_46 (by decide) ?_
      refine lv_goto (tgt := 51) hx hb d_Whole_carryOut_47 (by decide) ?_
      exact j_51 v36 (1 : Int32) cells slots _ _ nx h _ _ _ hrun hcR hsR (by omega) hw hS (lv_sub hl [] rfl)
  unfold f_Whole_carryOut at hrun
  refine lv_iload_n hx hb d_Whole_carryOut_0 rfl (lv_at hl 1 rfl) ?_
  replace hrun := hb_some hrun
  obtain ⟨v1, g1, hrun⟩ := hrun
  refine h_ci (h_runS S (As := [.int i1]) (rest := []) (c_Kind_markOf l D dA b0 i1 nx g1) (va_cwS 1 S.2.2.2.2 (h_good _ (h_in3 ml_Whole_84 sm_Kind_markOf it_Kind) cd_Kind_markOf) rfl rfl rfl (by decide +kernel) ⟨Nat.le_of_ble_eq_true rfl, Nat.le_of_ble_eq_true rfl⟩) hK hN hw rfl hl.1 (lv_room (Nat.le_of_ble_eq_true rfl)) d_Whole_carryOut_1 ⟨show 0 + 0 ≤ dnZ by omega, show 0 + 0 ≤ dsZ by omega⟩) hS (fun H locs hw hS => ?_)
  refine lv_istore_n (lv' := [(2, .int v1), (0, .ref a0), (1, .int i1)]) hx hb d_Whole_carryOut_4 rfl hl (by decide) rfl (fun ls hl => ?_)
  refine lv_iload_n hx hb d_Whole_carryOut_5 rfl (lv_at hl 0 rfl) ?_
  refine lv_if_eq (tgt := 21) hx hb d_Whole_carryOut_6 (by decide) (fun c6 => ?_) (fun c6 => ?_)
  · rw [if_pos c6] at hrun
    refine lv_iload_n hx hb d_Whole_carryOut_21 rfl (lv_at hl 2 rfl) ?_
    refine lv_sipush (v := (264 : Int32)) hx hb d_Whole_carryOut_22 (by decide) ?_
    refine lv_icmp_eq (tgt := 35) hx hb d_Whole_carryOut_25 (by decide) (fun c25 => ?_) (fun c25 => ?_)
    · rw [if_pos c25] at hrun
      exact j_35 i1 0 0 _ _ nx h _ _ _ hrun hcR hsR (by omega) hw hS (lv_sub hl [1, 2] rfl)
    · rw [if_neg c25] at hrun
      refine lv_iload_n hx hb d_Whole_carryOut_28 rfl (lv_at hl 2 rfl) ?_
      refine lv_sipush (v := (265 : Int32)) hx hb d_Whole_carryOut_29 (by decide) ?_
      refine lv_icmp_ne (tgt := 56) hx hb d_Whole_carryOut_32 (by decide) (fun c32 => ?_) (fun c32 => ?_)
      · rw [if_neg c32] at hrun
        refine lv_aload_n hx hb d_Whole_carryOut_56 rfl (lv_at hl 1 rfl) ?_
        replace hrun := hb_some hrun
        obtain ⟨v57, g57, hrun⟩ := hrun
        refine h_getI S (fun w q => hT w (i_Whole w q)) hK (ci := 11) rfl 5 (by decide) (hT _ fl_Whole_39) hw g57 d_Whole_carryOut_57 ?_
        refine lv_if_eq (tgt := 66) hx hb d_Whole_carryOut_60 (by decide) (fun c60 => ?_) (fun c60 => ?_)
        · rw [if_pos c60] at hrun
          refine lv_iload_n hx hb d_Whole_carryOut_66 rfl (lv_at hl 2 rfl) ?_
          refine lv_sipush (v := (269 : Int32)) hx hb d_Whole_carryOut_67 (by decide) ?_
          refine lv_icmp_ne (tgt := 78) hx hb d_Whole_carryOut_70 (by decide) (fun c70 => ?_) (fun c70 => ?_)
          · rw [if_neg c70] at hrun
            refine lv_aload_n hx hb d_Whole_carryOut_78 rfl (lv_at hl 1 rfl) ?_
            replace hrun := hb_some hrun
            obtain ⟨v79, g79, hrun⟩ := hrun
            refine h_getR S (fun w q => hT w (i_Whole w q)) hK (ci := 11) rfl 4 (by decide) (hT _ fl_Whole_35) hw g79 d_Whole_carryOut_79 ?_
            replace hrun := hb_some hrun
            obtain ⟨p82, rfl, hrun⟩ := hrun
            replace hrun := hb_some hrun
            obtain ⟨c82, k82, hrun⟩ := hrun
            replace hrun := hb_some hrun
            obtain ⟨v82, g82, hrun⟩ := hrun
            refine h_ci (h_runV S (As := []) (rest := []) (c_Row_isFull l D dA b0 p82 nx g82) (cwV 0 S.2.2.2.2 (h_good _ (h_in4 ml_Whole_96 im_Row_isFull se_Row_isFull it_Row) cd_Row_isFull) rfl rfl rfl (by decide +kernel) ⟨Nat.le_of_ble_eq_true rfl, Nat.le_of_ble_eq_true rfl⟩) hK hN hw (ci := 8) rfl k82 rfl hl.1 (lv_room (Nat.le_of_ble_eq_true rfl)) d_Whole_carryOut_82 ⟨show 0 + 0 ≤ dnZ by omega, show 0 + 0 ≤ dsZ by omega⟩) hS (fun H locs hw hS => ?_)
            refine lv_if_eq (tgt := 91) hx hb d_Whole_carryOut_85 (by decide) (fun c85 => ?_) (fun c85 => ?_)
            · rw [if_pos c85] at hrun
              refine lv_aload_n hx hb d_Whole_carryOut_91 rfl (lv_at hl 1 rfl) ?_
              replace hrun := hb_some hrun
              obtain ⟨v92, g92, hrun⟩ := hrun
              refine h_getR S (fun w q => hT w (i_Whole w q)) hK (ci := 11) rfl 4 (by decide) (hT _ fl_Whole_35) hw g92 d_Whole_carryOut_92 ?_
              refine lv_iload_n hx hb d_Whole_carryOut_95 rfl (lv_at hl 2 rfl) ?_
              replace hrun := hb_some hrun
              obtain ⟨p96, rfl, hrun⟩ := hrun
              replace hrun := hb_some hrun
              obtain ⟨c96, k96, hrun⟩ := hrun
              replace hrun := hbind_some hrun
              obtain ⟨_u96, d96, s96, h96, dn96, ds96, g96, hrun, en96, es96⟩ := hrun
              refine h_cv (h_runV S (As := [.int i1]) (rest := []) (c_Row_add l D dA b0 p96 i1 nx g96) (cwV 1 S.2.2.2.2 (h_good _ (h_in4 ml_Whole_99 im_Row_add se_Row_add it_Row) cd_Row_add) rfl rfl rfl (by decide +kernel) ⟨Nat.le_of_ble_eq_true rfl, Nat.le_of_ble_eq_true rfl⟩) hK hN hw (ci := 8) rfl k96 rfl hl.1 (lv_room (Nat.le_of_ble_eq_true rfl)) d_Whole_carryOut_96 ⟨show 0 + d96 ≤ dnZ by omega, show 0 + s96 ≤ dsZ by omega⟩) hS (fun H locs hw hS => ?_)
              obtain ⟨nx96, ex96⟩ : ∃ z, z = nx + d96 := ⟨_, rfl⟩
              rw [← ex96] at hw
              try rw [← ex96] at hrun
              have hcR : (0 + d96) + dn96 ≤ dnZ := by omega
              have hsR : (0 + s96) + ds96 ≤ dsZ := by omega
              refine lv_iconst (v := (0 : Int32)) hx hb d_Whole_carryOut_99 (by decide) ?_
              cases hrun
              refine W.widen (k := dnZ) (n := dsZ) (by omega) (by omega) ?_
              rw [show nx96 = nxZ + dnZ by omega] at hw
              exact W.iret hx hb hr (fun t ht hW9 => ⟨⟨_, (), rfl, rfl, by show hW D dA classes b0 _ _ t.heap; rw [ht]; exact hw⟩, hS.F ht⟩) hS.2.2 d_Whole_carryOut_100
            · rw [if_neg c85] at hrun
              refine lv_bipush (v := (8 : Int32)) hx hb d_Whole_carryOut_88 (by decide) ?_
              cases hrun
              refine W.widen (k := dnZ) (n := dsZ) (by omega) (by omega) ?_
              rw [show nx = nxZ + dnZ by omega] at hw
              exact W.iret hx hb hr (fun t ht hW9 => ⟨⟨_, (), rfl, rfl, by show hW D dA classes b0 _ _ t.heap; rw [ht]; exact hw⟩, hS.F ht⟩) hS.2.2 d_Whole_carryOut_90
          · rw [if_pos c70] at hrun
            refine lv_aload_n hx hb d_Whole_carryOut_73 rfl (lv_at hl 1 rfl) ?_
            replace hrun := hb_some hrun
            obtain ⟨c74, k74, hrun⟩ := hrun
            replace hrun := hbW_some hrun
            obtain ⟨v74, h74, g74, hrun⟩ := hrun
            refine h_ci (h_runV S (As := []) (rest := []) (c_Whole_takeLater l D dA b0 a0 nx g74) (cwV 0 S.2.2.2.2 (h_good _ (h_in4 ml_Whole_93 im_Whole_takeLater se_Whole_takeLater it_Whole) cd_Whole_takeLater) rfl rfl rfl (by decide +kernel) ⟨Nat.le_of_ble_eq_true rfl, Nat.le_of_ble_eq_true rfl⟩) hK hN hw (ci := 11) rfl k74 rfl hl.1 (lv_room (Nat.le_of_ble_eq_true rfl)) d_Whole_carryOut_74 ⟨show 0 + 0 ≤ dnZ by omega, show 0 + 0 ≤ dsZ by omega⟩) hS (fun H locs hw hS => ?_)
            cases hrun
            refine W.widen (k := dnZ) (n := dsZ) (by omega) (by omega) ?_
            rw [show nx = nxZ + dnZ by omega] at hw
            exact W.iret hx hb hr (fun t ht hW9 => ⟨⟨_, (), rfl, rfl, by show hW D dA classes b0 _ _ t.heap; rw [ht]; exact hw⟩, hS.F ht⟩) hS.2.2 d_Whole_carryOut_77
        · rw [if_neg c60] at hrun
          refine lv_bipush (v := (6 : Int32)) hx hb d_Whole_carryOut_63 (by decide) ?_
          cases hrun
          refine W.widen (k := dnZ) (n := dsZ) (by omega) (by omega) ?_
          rw [show nx = nxZ + dnZ by omega] at hw
          exact W.iret hx hb hr (fun t ht hW9 => ⟨⟨_, (), rfl, rfl, by show hW D dA classes b0 _ _ t.heap; rw [ht]; exact hw⟩, hS.F ht⟩) hS.2.2 d_Whole_carryOut_65
      · rw [if_pos c32] at hrun
        exact j_35 i1 0 0 _ _ nx h _ _ _ hrun hcR hsR (by omega) hw hS (lv_sub hl [1, 2] rfl)
  · rw [if_neg c6] at hrun
    refine lv_aload_n hx hb d_Whole_carryOut_9 rfl (lv_at hl 1 rfl) ?_
    refine lv_dup hx hb d_Whole_carryOut_10 rfl ?_
    replace hrun := hb_some hrun
    obtain ⟨v11, g11, hrun⟩ := hrun
    refine h_getI S (fun w q => hT w (i_Whole w q)) hK (ci := 11) rfl 5 (by decide) (hT _ fl_Whole_39) hw g11 d_Whole_carryOut_11 ?_
    refine lv_iload_n hx hb d_Whole_carryOut_14 rfl (lv_at hl 0 rfl) ?_
    refine lv_ior hx hb d_Whole_carryOut_15 ?_
    replace hrun := hb_some hrun
    obtain ⟨h16, g16, hrun⟩ := hrun
    refine h_put S (fun w q => hT w (i_Whole w q)) t_Whole t_Whole_ok n_Whole hK (ci := 11) rfl 5 (by decide) (hT _ fl_Whole_39) rfl rfl rfl hw hS g16 d_Whole_carryOut_16 (fun H locs hw hS => ?_)
    refine lv_iconst (v := (0 : Int32)) hx hb d_Whole_carryOut_19 (by decide) ?_
    cases hrun
    refine W.widen (k := dnZ) (n := dsZ) (by omega) (by omega) ?_
    rw [show nx = nxZ + dnZ by omega] at hw
    exact W.iret hx hb hr (fun t ht hW9 => ⟨⟨_, (), rfl, rfl, by show hW D dA classes b0 _ _ t.heap; rw [ht]; exact hw⟩, hS.F ht⟩) hS.2.2 d_Whole_carryOut_20
set_option maxHeartbeats 4000000 in
set_option maxRecDepth 100000 in
theorem c_Whole_run (l : Launch) (D : va_G) (dA : Nat → ClassId) (b0 : Nat) (n : Nat) (a0 : Nat) (nxZ : Nat) {h h' : hH} {r : Int32} {dnZ dsZ : Nat} (hrun : f_Whole_run n a0 nxZ h = some (r, dnZ, dsZ, h')) : Met l y_Whole_run w_Whole_run ({ frames := 7, cells := dnZ, slots := dsZ, locals := 190 } : Room) (va_Pc [.ref a0] (hB D dA b0 nxZ h)) (va_Qi (fun r' (_ : Unit) => r' = r) (fun (_ : Unit) t => hW D dA classes b0 (nxZ + dnZ) h' t.heap) (hA b0)) dnZ dsZ (hA b0) := by
  refine Met.ofW (cc := b_Whole_run) (maxL := 3) (ret := (some .int)) (by decide) rfl ?_
  intro p e s m args below meth c s₁ B hml hv
  obtain ⟨rfl, hw, hK, hN⟩ := hv
  have hx := B.exec
  have hb := B.bytes
  have hr := B.returns
  have hlocks := B.notSynchronized
  have S : CallFix p m c b_Whole_run 3 s ([.ref a0] : List Value).toArray w_Whole_run R_Whole := ⟨hx, hb, hml, findClass_of_methodNamed B.named, atoms_spec (ws := w_Whole_run) B.pre⟩
  have hT : ∀ w ∈ tbl, w ∈ w_Whole_run := fun _ q => List.mem_cons_of_mem _ q
  have hS : va_S (hA b0) s.heap s.heap [] := va_S.rf
  have hl := lv_entry ([.ref a0]) (n := 3) (Nat.le_of_ble_eq_true rfl)
  rw [lg_entry_eq]
  generalize (lg_sl ([.ref a0]) ++ List.replicate (3 - (lg_sl ([.ref a0])).length) Slot.unset).toArray = ls at hl ⊢
  have hl : lv_has ls 3 [(0, .ref a0)] := hl
  obtain ⟨dn, edn⟩ : ∃ z, z = dnZ := ⟨_, rfl⟩
  obtain ⟨ds, eds⟩ : ∃ z, z = dsZ := ⟨_, rfl⟩
  obtain ⟨nx, enx⟩ : ∃ z, z = nxZ := ⟨_, rfl⟩
  rw [← edn, ← eds, ← enx] at hrun
  rw [← enx] at hw
  have hcR : 0 + dn ≤ dnZ := by omega
  have hsR : 0 + ds ≤ dsZ := by omega
  have l_26 : ∀ (n9 : Nat) (x9 : Int32) (cells slots dn ds nx : Nat) (h : hH) (b9 : (Int32) ⊕ (Unit)) (h9 : hH) (H : Heap) (locs : List Loc) (ls : Array Slot), hloopA (f_Whole_run_b26 n a0) n9 x9 nx h = some (b9, dn, ds, h9) → cells + dn ≤ dnZ → slots + ds ≤ dsZ → hW D dA classes b0 nx h H → va_S (hA b0) s.heap H locs → lv_has ls 3 (match x9 with | x1 => [(0, .ref a0), (1, .int x1)]) → (∀ (z2 : Int32), b9 = .inl z2 → ∀ (H : Heap) (locs : List Loc) (ls : Array Slot), hW D dA classes b0 (nx + dn) h9 H → va_S (hA b0) s.heap H locs → lv_has ls 3 [(2, .int z2)] → W p l e (headSpec w_Whole_run ({ frames := 7, cells := dnZ, slots := dsZ, locals := 190 } : Room)).room s m ([.ref a0] : List Value).toArray below meth c H locs (cells + dn) (slots + ds) (MQ below (va_Qi (fun r' (_ : Unit) => r' = r) (fun (_ : Unit) t => hW D dA classes b0 (nxZ + dnZ) h' t.heap) (hA b0)) ([.ref a0] : List Value).toArray s dnZ dsZ (hA b0)) (F0 m 114 ls [])) → (b9 = .inr (()) → ∀ (H : Heap) (locs : List Loc) (ls : Array Slot), hW D dA classes b0 (nx + dn) h9 H → va_S (hA b0) s.heap H locs → lv_has ls 3 [(0, .ref a0)] → W p l e (headSpec w_Whole_run ({ frames := 7, cells := dnZ, slots := dsZ, locals := 190 } : Room)).room s m ([.ref a0] : List Value).toArray below meth c H locs (cells + dn) (slots + ds) (MQ below (va_Qi (fun r' (_ : Unit) => r' = r) (fun (_ : Unit) t => hW D dA classes b0 (nxZ + dnZ) h' t.heap) (hA b0)) ([.ref a0] : List Value).toArray s dnZ dsZ (hA b0)) (F0 m 122 ls [])) → W p l e (headSpec w_Whole_run ({ frames := 7, cells := dnZ, slots := dsZ, locals := 190 } : Room)).room s m ([.ref a0] : List Value).toArray below meth c H locs cells slots (MQ below (va_Qi (fun r' (_ : Unit) => r' = r) (fun (_ : Unit) t => hW D dA classes b0 (nxZ + dnZ) h' t.heap) (hA b0)) ([.ref a0] : List Value).toArray s dnZ dsZ (hA b0)) (F0 m 26 ls []) := by
    intro  n9
    induction n9 with
    | zero =>
      intro x9 cells slots dn ds nx h b9 h9 H locs ls hrun
      cases hrun
    | succ n9 ih =>
      rintro x1 cells slots dn ds nx h b9 h9 H locs ls hrun hcR hsR hw hS hl k0 k1
      have hl : lv_has ls 3 [(0, .ref a0), (1, .int x1)] := hl
      unfold hloopA at hrun
      obtain ⟨q9, dnb, dsb, h9b, dnr, dsr, hbody, hrun9, edn, eds⟩ := hbind_some hrun
      have K0 : (∀ (z1 : Int32), q9 = .inl z1 → ∀ (H : Heap) (locs : List Loc) (ls : Array Slot), hW D dA classes b0 (nx + dnb) h9b H → va_S (hA b0) s.heap H locs → lv_has ls 3 [(0, .ref a0), (1, .int z1)] → W p l e (headSpec w_Whole_run ({ frames := 7, cells := dnZ, slots := dsZ, locals := 190 } : Room)).room s m ([.ref a0] : List Value).toArray below meth c H locs (cells + dnb) (slots + dsb) (MQ below (va_Qi (fun r' (_ : Unit) => r' = r) (fun (_ : Unit) t => hW D dA classes b0 (nxZ + dnZ) h' t.heap) (hA b0)) ([.ref a0] : List Value).toArray s dnZ dsZ (hA b0)) (F0 m 26 ls [])) := by
        intro z1 eq9 H locs ls hw hS hl
        subst eq9
        exact ih z1 (cells + dnb) (slots + dsb) dnr dsr (nx + dnb) h9b b9 h9 H locs ls hrun9 (by omega) (by omega) hw hS hl (by have q := k0; rw [show nx + dn = nx + dnb + dnr by omega, show cells + dn = cells + dnb + dnr by omega, show slots + ds = slots + dsb + dsr by omega] at q; exact q) (by have q := k1; rw [show nx + dn = nx + dnb + dnr by omega, show cells + dn = cells + dnb + dnr by omega, show slots + ds = slots + dsb + dsr by omega] at q; exact q)
      have K1 : (∀ (z2 : Int32), q9 = .inr (.inl z2) → ∀ (H : Heap) (locs : List Loc) (ls : Array Slot), hW D dA classes b0 (nx + dnb) h9b H → va_S (hA b0) s.heap H locs → lv_has ls 3 [(2, .int z2)] → W p l e (headSpec w_Whole_run ({ frames := 7, cells := dnZ, slots := dsZ, locals := 190 } : Room)).room s m ([.ref a0] : List Value).toArray below meth c H locs (cells + dnb) (slots + dsb) (MQ below (va_Qi (fun r' (_ : Unit) => r' = r) (fun (_ : Unit) t => hW D dA classes b0 (nxZ + dnZ) h' t.heap) (hA b0)) ([.ref a0] : List Value).toArray s dnZ dsZ (hA b0)) (F0 m 114 ls [])) := by
        intro z2 eq9 H locs ls hw hS hl
        subst eq9
        cases hrun9
        subst edn; subst eds
        exact k0 _ rfl H locs ls hw hS hl
      have K2 : (q9 = .inr (.inr (())) → ∀ (H : Heap) (locs : List Loc) (ls : Array Slot), hW D dA classes b0 (nx + dnb) h9b H → va_S (hA b0) s.heap H locs → lv_has ls 3 [(0, .ref a0)] → W p l e (headSpec w_Whole_run ({ frames := 7, cells := dnZ, slots := dsZ, locals := 190 } : Room)).room s m ([.ref a0] : List Value).toArray below meth c H locs (cells + dnb) (slots + dsb) (MQ below (va_Qi (fun r' (_ : Unit) => r' = r) (fun (_ : Unit) t => hW D dA classes b0 (nxZ + dnZ) h' t.heap) (hA b0)) ([.ref a0] : List Value).toArray s dnZ dsZ (hA b0)) (F0 m 122 ls [])) := by
        intro  eq9 H locs ls hw hS hl
        subst eq9
        cases hrun9
        subst edn; subst eds
        exact k1  rfl H locs ls hw hS hl
      clear hrun hrun9 ih k0 k1
      have hrun := hbody
      clear hbody
      have hcR : cells + dnb ≤ dnZ := by omega
      have hsR : slots + dsb ≤ dsZ := by omega
      clear edn eds
      have j_110 : ∀  (x1 : Int32) (x2 : Int32) (q9 : (Int32) ⊕ ((Int32) ⊕ (Unit))) (h9 : hH) (cells slots dn ds nx : Nat) (h : hH) (H : Heap) (locs : List Loc) (ls : Array Slot), f_Whole_run_j110 n a0 x1 x2 nx h = some (q9, dn, ds, h9) → cells + dn ≤ dnZ → slots + ds ≤ dsZ → hW D dA classes b0 nx h H → va_S (hA b0) s.heap H locs → lv_has ls 3 [(0, .ref a0), (1, .int x1), (2, .int x2)] → (∀ (z1 : Int32), q9 = .inl z1 → ∀ (H : Heap) (locs : List Loc) (ls : Array Slot), hW D dA classes b0 (nx + dn) h9 H → va_S (hA b0) s.heap H locs → lv_has ls 3 [(0, .ref a0), (1, .int z1)] → W p l e (headSpec w_Whole_run ({ frames := 7, cells := dnZ, slots := dsZ, locals := 190 } : Room)).room s m ([.ref a0] : List Value).toArray below meth c H locs (cells + dn) (slots + ds) (MQ below (va_Qi (fun r' (_ : Unit) => r' = r) (fun (_ : Unit) t => hW D dA classes b0 (nxZ + dnZ) h' t.heap) (hA b0)) ([.ref a0] : List Value).toArray s dnZ dsZ (hA b0)) (F0 m 26 ls [])) → (∀ (z2 : Int32), q9 = .inr (.inl z2) → ∀ (H : Heap) (locs : List Loc) (ls : Array Slot), hW D dA classes b0 (nx + dn) h9 H → va_S (hA b0) s.heap H locs → lv_has ls 3 [(2, .int z2)] → W p l e (headSpec w_Whole_run ({ frames := 7, cells := dnZ, slots := dsZ, locals := 190 } : Room)).room s m ([.ref a0] : List Value).toArray below meth c H locs (cells + dn) (slots + ds) (MQ below (va_Qi (fun r' (_ : Unit) => r' = r) (fun (_ : Unit) t => hW D dA classes b0 (nxZ + dnZ) h' t.heap) (hA b0)) ([.ref a0] : List Value).toArray s dnZ dsZ (hA b0)) (F0 m 114 ls [])) → (q9 = .inr (.inr (())) → ∀ (H : Heap) (locs : List Loc) (ls : Array Slot), hW D dA classes b0 (nx + dn) h9 H → va_S (hA b0) s.heap H locs → lv_has ls 3 [(0, .ref a0)] → W p l e (headSpec w_Whole_run ({ frames := 7, cells := dnZ, slots := dsZ, locals := 190 } : Room)).room s m ([.ref a0] : List Value).toArray below meth c H locs (cells + dn) (slots + ds) (MQ below (va_Qi (fun r' (_ : Unit) => r' = r) (fun (_ : Unit) t => hW D dA classes b0 (nxZ + dnZ) h' t.heap) (hA b0)) ([.ref a0] : List Value).toArray s dnZ dsZ (hA b0)) (F0 m 122 ls [])) → W p l e (headSpec w_Whole_run ({ frames := 7, cells := dnZ, slots := dsZ, locals := 190 } : Room)).room s m ([.ref a0] : List Value).toArray below meth c H locs cells slots (MQ below (va_Qi (fun r' (_ : Unit) => r' = r) (fun (_ : Unit) t => hW D dA classes b0 (nxZ + dnZ) h' t.heap) (hA b0)) ([.ref a0] : List Value).toArray s dnZ dsZ (hA b0)) (F0 m 110 ls []) := by
        intro x1 x2 q9 h9 cells slots dn ds nx h H locs ls hrun hcR hsR hw hS hl k0 k1 k2
        unfold f_Whole_run_j110 at hrun
        refine lv_iload_n hx hb d_Whole_run_110 rfl (lv_at hl 2 rfl) ?_
        refine lv_if_eq (tgt := 116) hx hb d_Whole_run_111 (by decide) (fun c111 => ?_) (fun c111 => ?_)
        · rw [if_pos c111] at hrun
          refine lv_iinc (v := (x1 + (1 : Int32))) (lv' := [(1, .int (x1 + (1 : Int32))), (0, .ref a0), (2, .int x2)]) hx hb d_Whole_run_116 hl (k := 1) rfl rfl (by decide) rfl (fun ls hl => ?_)
          refine lv_goto (tgt := 26) hx hb d_Whole_run_119 (by decide) ?_
          cases hrun
          exact W.widen (by omega) (by omega) (k0 (x1 + (1 : Int32)) rfl H locs ls hw hS (lv_sub hl [1, 0] rfl))
        · rw [if_neg c111] at hrun
          cases hrun
          exact W.widen (by omega) (by omega) (k1 x2 rfl H locs ls hw hS (lv_sub hl [2] rfl))
      have j_73 : ∀  (x1 : Int32) (q9 : (Int32) ⊕ ((Int32) ⊕ (Unit))) (h9 : hH) (cells slots dn ds nx : Nat) (h : hH) (H : Heap) (locs : List Loc) (ls : Array Slot), f_Whole_run_j73 n a0 x1 nx h = some (q9, dn, ds, h9) → cells + dn ≤ dnZ → slots + ds ≤ dsZ → hW D dA classes b0 nx h H → va_S (hA b0) s.heap H locs → lv_has ls 3 [(0, .ref a0), (1, .int x1)] → (∀ (z1 : Int32), q9 = .inl z1 → ∀ (H : Heap) (locs : List Loc) (ls : Array Slot), hW D dA classes b0 (nx + dn) h9 H → va_S (hA b0) s.heap H locs → lv_has ls 3 [(0, .ref a0), (1, .int z1)] → W p l e (headSpec w_Whole_run ({ frames := 7, cells := dnZ, slots := dsZ, locals := 190 } : Room)).room s m ([.ref a0] : List Value).toArray below meth c H locs (cells + dn) (slots + ds) (MQ below (va_Qi (fun r' (_ : Unit) => r' = r) (fun (_ : Unit) t => hW D dA classes b0 (nxZ + dnZ) h' t.heap) (hA b0)) ([.ref a0] : List Value).toArray s dnZ dsZ (hA b0)) (F0 m 26 ls [])) → (∀ (z2 : Int32), q9 = .inr (.inl z2) → ∀ (H : Heap) (locs : List Loc) (ls : Array Slot), hW D dA classes b0 (nx + dn) h9 H → va_S (hA b0) s.heap H locs → lv_has ls 3 [(2, .int z2)] → W p l e (headSpec w_Whole_run ({ frames := 7, cells := dnZ, slots := dsZ, locals := 190 } : Room)).room s m ([.ref a0] : List Value).toArray below meth c H locs (cells + dn) (slots + ds) (MQ below (va_Qi (fun r' (_ : Unit) => r' = r) (fun (_ : Unit) t => hW D dA classes b0 (nxZ + dnZ) h' t.heap) (hA b0)) ([.ref a0] : List Value).toArray s dnZ dsZ (hA b0)) (F0 m 114 ls [])) → (q9 = .inr (.inr (())) → ∀ (H : Heap) (locs : List Loc) (ls : Array Slot), hW D dA classes b0 (nx + dn) h9 H → va_S (hA b0) s.heap H locs → lv_has ls 3 [(0, .ref a0)] → W p l e (headSpec w_Whole_run ({ frames := 7, cells := dnZ, slots := dsZ, locals := 190 } : Room)).room s m ([.ref a0] : List Value).toArray below meth c H locs (cells + dn) (slots + ds) (MQ below (va_Qi (fun r' (_ : Unit) => r' = r) (fun (_ : Unit) t => hW D dA classes b0 (nxZ + dnZ) h' t.heap) (hA b0)) ([.ref a0] : List Value).toArray s dnZ dsZ (hA b0)) (F0 m 122 ls [])) → W p l e (headSpec w_Whole_run ({ frames := 7, cells := dnZ, slots := dsZ, locals := 190 } : Room)).room s m ([.ref a0] : List Value).toArray below meth c H locs cells slots (MQ below (va_Qi (fun r' (_ : Unit) => r' = r) (fun (_ : Unit) t => hW D dA classes b0 (nxZ + dnZ) h' t.heap) (hA b0)) ([.ref a0] : List Value).toArray s dnZ dsZ (hA b0)) (F0 m 73 ls []) := by
        intro x1 q9 h9 cells slots dn ds nx h H locs ls hrun hcR hsR hw hS hl k0 k1 k2
        unfold f_Whole_run_j73 at hrun
        refine lv_aload_n hx hb d_Whole_run_73 rfl (lv_at hl 0 rfl) ?_
        replace hrun := hb_some hrun
        obtain ⟨v74, g74, hrun⟩ := hrun
        refine h_getR S (fun w q => hT w (i_Whole w q)) hK (ci := 11) rfl 3 (by decide) (hT _ fl_Whole_26) hw g74 d_Whole_run_74 ?_
        replace hrun := hb_some hrun
        obtain ⟨p77, rfl, hrun⟩ := hrun
        replace hrun := hb_some hrun
        obtain ⟨c77, k77, hrun⟩ := hrun
        replace hrun := hb_some hrun
        obtain ⟨v77, g77, hrun⟩ := hrun
        refine h_ci (h_runV S (As := []) (rest := []) (c_Definition_isUnderWay l D dA b0 p77 nx g77) (cwV 0 S.2.2.2.2 (h_good _ (h_in4 ml_Whole_71 im_Definition_isUnderWay se_Definition_isUnderWay it_Definition) cd_Definition_isUnderWay) rfl rfl rfl (by decide +kernel) ⟨Nat.le_of_ble_eq_true rfl, Nat.le_of_ble_eq_true rfl⟩) hK hN hw (ci := 4) rfl k77 rfl hl.1 (lv_room (Nat.le_of_ble_eq_true rfl)) d_Whole_run_77 ⟨show cells + 0 ≤ dnZ by omega, show slots + 0 ≤ dsZ by omega⟩) hS (fun H locs hw hS => ?_)
        refine lv_if_eq (tgt := 98) hx hb d_Whole_run_80 (by decide) (fun c80 => ?_) (fun c80 => ?_)
        · rw [if_pos c80] at hrun
          refine lv_aload_n hx hb d_Whole_run_98 rfl (lv_at hl 0 rfl) ?_
          refine lv_aload_n hx hb d_Whole_run_99 rfl (lv_at hl 0 rfl) ?_
          replace hrun := hb_some hrun
          obtain ⟨v100, g100, hrun⟩ := hrun
          refine h_getR S (fun w q => hT w (i_Whole w q)) hK (ci := 11) rfl 2 (by decide) (hT _ fl_Whole_19) hw g100 d_Whole_run_100 ?_
          replace hrun := hb_some hrun
          obtain ⟨p103, rfl, hrun⟩ := hrun
          replace hrun := hb_some hrun
          obtain ⟨c103, k103, hrun⟩ := hrun
          replace hrun := hbW_some hrun
          obtain ⟨v103, h103, g103, hrun⟩ := hrun
          refine h_ci (h_runV S (As := []) (rest := [.ref a0]) (c_Expander_takeFirst l D dA b0 p103 nx g103) (cwV 0 S.2.2.2.2 (h_good _ (h_in4 ml_Whole_74 im_Expander_takeFirst se_Expander_takeFirst it_Expander) cd_Expander_takeFirst) rfl rfl rfl (by decide +kernel) ⟨Nat.le_of_ble_eq_true rfl, Nat.le_of_ble_eq_true rfl⟩) hK hN hw (ci := 5) rfl k103 rfl hl.1 (lv_room (Nat.le_of_ble_eq_true rfl)) d_Whole_run_103 ⟨show cells + 0 ≤ dnZ by omega, show slots + 0 ≤ dsZ by omega⟩) hS (fun H locs hw hS => ?_)
          replace hrun := hb_some hrun
          obtain ⟨c106, k106, hrun⟩ := hrun
          replace hrun := hbind_some hrun
          obtain ⟨v106, d106, s106, h106, dn106, ds106, g106, hrun, en106, es106⟩ := hrun
          refine h_ci (h_runV S (As := [.int v103]) (rest := []) (c_Whole_carryOut l D dA b0 n a0 v103 nx g106) (cwV 1 S.2.2.2.2 (h_good _ (h_in4 ml_Whole_81 im_Whole_carryOut se_Whole_carryOut it_Whole) cd_Whole_carryOut) rfl rfl rfl (by decide +kernel) ⟨Nat.le_of_ble_eq_true rfl, Nat.le_of_ble_eq_true rfl⟩) hK hN hw (ci := 11) rfl k106 rfl hl.1 (lv_room (Nat.le_of_ble_eq_true rfl)) d_Whole_run_106 ⟨show cells + d106 ≤ dnZ by omega, show slots + s106 ≤ dsZ by omega⟩) hS (fun H locs hw hS => ?_)
          obtain ⟨nx106, ex106⟩ : ∃ z, z = nx + d106 := ⟨_, rfl⟩
          rw [← ex106] at hw
          try rw [← ex106] at hrun
          have hcR : (cells + d106) + dn106 ≤ dnZ := by omega
          have hsR : (slots + s106) + ds106 ≤ dsZ := by omega
          refine lv_istore_n (lv' := [(2, .int v106), (0, .ref a0), (1, .int x1)]) hx hb d_Whole_run_109 rfl hl (by decide) rfl (fun ls hl => ?_)
          exact j_110 x1 v106 _ _ (cells + d106) (slots + s106) _ _ nx106 h106 _ _ _ hrun hcR hsR hw hS (lv_sub hl [1, 2, 0] rfl) (by have q := k0; rw [show nx + dn = nx106 + dn106 by omega, show cells + dn = (cells + d106) + dn106 by omega, show slots + ds = (slots + s106) + ds106 by omega] at q; exact q) (by have q := k1; rw [show nx + dn = nx106 + dn106 by omega, show cells + dn = (cells + d106) + dn106 by omega, show slots + ds = (slots + s106) + ds106 by omega] at q; exact q) (by have q := k2; rw [show nx + dn = nx106 + dn106 by omega, show cells + dn = (cells + d106) + dn106 by omega, show slots + ds = (slots + s106) + ds106 by omega] at q; exact q)
        · rw [if_neg c80] at hrun
          refine lv_aload_n hx hb d_Whole_run_83 rfl (lv_at hl 0 rfl) ?_
          refine lv_aload_n hx hb d_Whole_run_84 rfl (lv_at hl 0 rfl) ?_
          replace hrun := hb_some hrun
          obtain ⟨v85, g85, hrun⟩ := hrun
          refine h_getR S (fun w q => hT w (i_Whole w q)) hK (ci := 11) rfl 2 (by decide) (hT _ fl_Whole_19) hw g85 d_Whole_run_85 ?_
          replace hrun := hb_some hrun
          obtain ⟨p88, rfl, hrun⟩ := hrun
          replace hrun := hb_some hrun
          obtain ⟨c88, k88, hrun⟩ := hrun
          replace hrun := hbW_some hrun
          obtain ⟨v88, h88, g88, hrun⟩ := hrun
          refine h_ci (h_runV S (As := []) (rest := [.ref a0]) (c_Expander_takeFirst l D dA b0 p88 nx g88) (cwV 0 S.2.2.2.2 (h_good _ (h_in4 ml_Whole_74 im_Expander_takeFirst se_Expander_takeFirst it_Expander) cd_Expander_takeFirst) rfl rfl rfl (by decide +kernel) ⟨Nat.le_of_ble_eq_true rfl, Nat.le_of_ble_eq_true rfl⟩) hK hN hw (ci := 5) rfl k88 rfl hl.1 (lv_room (Nat.le_of_ble_eq_true rfl)) d_Whole_run_88 ⟨show cells + 0 ≤ dnZ by omega, show slots + 0 ≤ dsZ by omega⟩) hS (fun H locs hw hS => ?_)
          replace hrun := hb_some hrun
          obtain ⟨c91, k91, hrun⟩ := hrun
          replace hrun := hbind_some hrun
          obtain ⟨v91, d91, s91, h91, dn91, ds91, g91, hrun, en91, es91⟩ := hrun
          refine h_ci (h_runV S (As := [.int v88]) (rest := []) (c_Whole_goOnDefining l D dA b0 n a0 v88 nx g91) (cwV 1 S.2.2.2.2 (h_good _ (h_in4 ml_Whole_77 im_Whole_goOnDefining se_Whole_goOnDefining it_Whole) cd_Whole_goOnDefining) rfl rfl rfl (by decide +kernel) ⟨Nat.le_of_ble_eq_true rfl, Nat.le_of_ble_eq_true rfl⟩) hK hN hw (ci := 11) rfl k91 rfl hl.1 (lv_room (Nat.le_of_ble_eq_true rfl)) d_Whole_run_91 ⟨show cells + d91 ≤ dnZ by omega, show slots + s91 ≤ dsZ by omega⟩) hS (fun H locs hw hS => ?_)
          obtain ⟨nx91, ex91⟩ : ∃ z, z = nx + d91 := ⟨_, rfl⟩
          rw [← ex91] at hw
          try rw [← ex91] at hrun
          have hcR : (cells + d91) + dn91 ≤ dnZ := by omega
          have hsR : (slots + s91) + ds91 ≤ dsZ := by omega
          refine lv_istore_n (lv' := [(2, .int v91), (0, .ref a0), (1, .int x1)]) hx hb d_Whole_run_94 rfl hl (by decide) rfl (fun ls hl => ?_)
          refine lv_goto (tgt := 110) hx hb d_Whole_run_95 (by decide) ?_
          exact j_110 x1 v91 _ _ (cells + d91) (slots + s91) _ _ nx91 h91 _ _ _ hrun hcR hsR hw hS (lv_sub hl [1, 2, 0] rfl) (by have q := k0; rw [show nx + dn = nx91 + dn91 by omega, show cells + dn = (cells + d91) + dn91 by omega, show slots + ds = (slots + s91) + ds91 by omega] at q; exact q) (by have q := k1; rw [show nx + dn = nx91 + dn91 by omega, show cells + dn = (cells + d91) + dn91 by omega, show slots + ds = (slots + s91) + ds91 by omega] at q; exact q) (by have q := k2; rw [show nx + dn = nx91 + dn91 by omega, show cells + dn = (cells + d91) + dn91 by omega, show slots + ds = (slots + s91) + ds91 by omega] at q; exact q)
      dsimp only [f_Whole_run_b26] at hrun
      refine lv_iload_n hx hb d_Whole_run_26 rfl (lv_at hl 1 rfl) ?_
      refine lv_ldc hx hb S.2.2.2.1 (S.2.2.2.2 _ (hT _ ct_Whole_52)) d_Whole_run_27 ?_
      refine lv_icmp_ge (tgt := 122) hx hb d_Whole_run_29 (by decide) (fun c29 => ?_) (fun c29 => ?_)
      · rw [if_pos c29] at hrun
        cases hrun
        exact W.widen (by omega) (by omega) (K2  rfl H locs ls hw hS (lv_sub hl [0] rfl))
      · rw [if_neg c29] at hrun
        refine lv_aload_n hx hb d_Whole_run_32 rfl (lv_at hl 0 rfl) ?_
        replace hrun := hb_some hrun
        obtain ⟨v33, g33, hrun⟩ := hrun
        refine h_getR S (fun w q => hT w (i_Whole w q)) hK (ci := 11) rfl 0 (by decide) (hT _ fl_Whole_9) hw g33 d_Whole_run_33 ?_
        replace hrun := hb_some hrun
        obtain ⟨p36, rfl, hrun⟩ := hrun
        replace hrun := hb_some hrun
        obtain ⟨c36, k36, hrun⟩ := hrun
        replace hrun := hb_some hrun
        obtain ⟨v36, g36, hrun⟩ := hrun
        refine h_ci (h_runV S (As := []) (rest := []) (c_Input_isEmpty l D dA b0 p36 nx g36) (cwV 0 S.2.2.2.2 (h_good _ (h_in4 ml_Whole_53 im_Input_isEmpty se_Input_isEmpty it_Input) cd_Input_isEmpty) rfl rfl rfl (by decide +kernel) ⟨Nat.le_of_ble_eq_true rfl, Nat.le_of_ble_eq_true rfl⟩) hK hN hw (ci := 6) rfl k36 rfl hl.1 (lv_room (Nat.le_of_ble_eq_true rfl)) d_Whole_run_36 ⟨show cells + 0 ≤ dnZ by omega, show slots + 0 ≤ dsZ by omega⟩) hS (fun H locs hw hS => ?_)
        refine lv_if_ne (tgt := 122) hx hb d_Whole_run_39 (by decide) (fun c39 => ?_) (fun c39 => ?_)
        · rw [if_neg c39] at hrun
          cases hrun
          exact W.widen (by omega) (by omega) (K2  rfl H locs ls hw hS (lv_sub hl [0] rfl))
        · rw [if_pos c39] at hrun
          refine lv_aload_n hx hb d_Whole_run_42 rfl (lv_at hl 0 rfl) ?_
          replace hrun := hb_some hrun
          obtain ⟨v43, g43, hrun⟩ := hrun
          refine h_getR S (fun w q => hT w (i_Whole w q)) hK (ci := 11) rfl 3 (by decide) (hT _ fl_Whole_26) hw g43 d_Whole_run_43 ?_
          replace hrun := hb_some hrun
          obtain ⟨p46, rfl, hrun⟩ := hrun
          replace hrun := hb_some hrun
          obtain ⟨c46, k46, hrun⟩ := hrun
          replace hrun := hb_some hrun
          obtain ⟨v46, g46, hrun⟩ := hrun
          refine h_ci (h_runV S (As := []) (rest := []) (c_Definition_takesTokensAsTheyAre l D dA b0 p46 nx g46) (cwV 0 S.2.2.2.2 (h_good _ (h_in4 ml_Whole_59 im_Definition_takesTokensAsTheyAre se_Definition_takesTokensAsTheyAre it_Definition) cd_Definition_takesTokensAsTheyAre) rfl rfl rfl (by decide +kernel) ⟨Nat.le_of_ble_eq_true rfl, Nat.le_of_ble_eq_true rfl⟩) hK hN hw (ci := 4) rfl k46 rfl hl.1 (lv_room (Nat.le_of_ble_eq_true rfl)) d_Whole_run_46 ⟨show cells + 0 ≤ dnZ by omega, show slots + 0 ≤ dsZ by omega⟩) hS (fun H locs hw hS => ?_)
          refine lv_if_ne (tgt := 73) hx hb d_Whole_run_49 (by decide) (fun c49 => ?_) (fun c49 => ?_)
          · rw [if_neg c49] at hrun
            exact j_73 x1 _ _ cells slots _ _ nx h _ _ _ hrun hcR hsR hw hS (lv_sub hl [0, 1] rfl) K0 K1 K2
          · rw [if_pos c49] at hrun
            refine lv_aload_n hx hb d_Whole_run_52 rfl (lv_at hl 0 rfl) ?_
            replace hrun := hb_some hrun
            obtain ⟨v53, g53, hrun⟩ := hrun
            refine h_getR S (fun w q => hT w (i_Whole w q)) hK (ci := 11) rfl 2 (by decide) (hT _ fl_Whole_19) hw g53 d_Whole_run_53 ?_
            replace hrun := hb_some hrun
            obtain ⟨p56, rfl, hrun⟩ := hrun
            replace hrun := hb_some hrun
            obtain ⟨c56, k56, hrun⟩ := hrun
            replace hrun := hb_some hrun
            obtain ⟨v56, g56, hrun⟩ := hrun
            refine h_ci (h_runV S (As := []) (rest := []) (c_Expander_canExpand l D dA b0 p56 nx g56) (cwV 0 S.2.2.2.2 (h_good _ (h_in4 ml_Whole_62 im_Expander_canExpand se_Expander_canExpand it_Expander) cd_Expander_canExpand) rfl rfl rfl (by decide +kernel) ⟨Nat.le_of_ble_eq_true rfl, Nat.le_of_ble_eq_true rfl⟩) hK hN hw (ci := 5) rfl k56 rfl hl.1 (lv_room (Nat.le_of_ble_eq_true rfl)) d_Whole_run_56 ⟨show cells + 0 ≤ dnZ by omega, show slots + 0 ≤ dsZ by omega⟩) hS (fun H locs hw hS => ?_)
            refine lv_if_eq (tgt := 73) hx hb d_Whole_run_59 (by decide) (fun c59 => ?_) (fun c59 => ?_)
            · rw [if_pos c59] at hrun
              exact j_73 x1 _ _ cells slots _ _ nx h _ _ _ hrun hcR hsR hw hS (lv_sub hl [0, 1] rfl) K0 K1 K2
            · rw [if_neg c59] at hrun
              refine lv_aload_n hx hb d_Whole_run_62 rfl (lv_at hl 0 rfl) ?_
              replace hrun := hb_some hrun
              obtain ⟨v63, g63, hrun⟩ := hrun
              refine h_getR S (fun w q => hT w (i_Whole w q)) hK (ci := 11) rfl 2 (by decide) (hT _ fl_Whole_19) hw g63 d_Whole_run_63 ?_
              replace hrun := hb_some hrun
              obtain ⟨p66, rfl, hrun⟩ := hrun
              replace hrun := hb_some hrun
              obtain ⟨c66, k66, hrun⟩ := hrun
              replace hrun := hbind_some hrun
              obtain ⟨v66, d66, s66, h66, dn66, ds66, g66, hrun, en66, es66⟩ := hrun
              refine h_ci (h_runV S (As := []) (rest := []) (c_Expander_expandOnce l D dA b0 n p66 nx g66) (cwV 0 S.2.2.2.2 (h_good _ (h_in4 ml_Whole_67 im_Expander_expandOnce se_Expander_expandOnce it_Expander) cd_Expander_expandOnce) rfl rfl rfl (by decide +kernel) ⟨Nat.le_of_ble_eq_true rfl, Nat.le_of_ble_eq_true rfl⟩) hK hN hw (ci := 5) rfl k66 rfl hl.1 (lv_room (Nat.le_of_ble_eq_true rfl)) d_Whole_run_66 ⟨show cells + d66 ≤ dnZ by omega, show slots + s66 ≤ dsZ by omega⟩) hS (fun H locs hw hS => ?_)
              obtain ⟨nx66, ex66⟩ : ∃ z, z = nx + d66 := ⟨_, rfl⟩
              rw [← ex66] at hw
              try rw [← ex66] at hrun
              have hcR : (cells + d66) + dn66 ≤ dnZ := by omega
              have hsR : (slots + s66) + ds66 ≤ dsZ := by omega
              refine lv_istore_n (lv' := [(2, .int v66), (0, .ref a0), (1, .int x1)]) hx hb d_Whole_run_69 rfl hl (by decide) rfl (fun ls hl => ?_)
              refine lv_goto (tgt := 110) hx hb d_Whole_run_70 (by decide) ?_
              exact j_110 x1 v66 _ _ (cells + d66) (slots + s66) _ _ nx66 h66 _ _ _ hrun hcR hsR hw hS (lv_sub hl [1, 2, 0] rfl) (by have q := K0; rw [show nx + dnb = nx66 + dn66 by omega, show cells + dnb = (cells + d66) + dn66 by omega, show slots + dsb = (slots + s66) + ds66 by omega] at q; exact q) (by have q := K1; rw [show nx + dnb = nx66 + dn66 by omega, show cells + dnb = (cells + d66) + dn66 by omega, show slots + dsb = (slots + s66) + ds66 by omega] at q; exact q) (by have q := K2; rw [show nx + dnb = nx66 + dn66 by omega, show cells + dnb = (cells + d66) + dn66 by omega, show slots + dsb = (slots + s66) + ds66 by omega] at q; exact q)
  unfold f_Whole_run at hrun
  refine lv_aload_n hx hb d_Whole_run_0 rfl (lv_at hl 0 rfl) ?_
  replace hrun := hb_some hrun
  obtain ⟨v1, g1, hrun⟩ := hrun
  refine h_getR S (fun w q => hT w (i_Whole w q)) hK (ci := 11) rfl 4 (by decide) (hT _ fl_Whole_35) hw g1 d_Whole_run_1 ?_
  replace hrun := hb_some hrun
  obtain ⟨p4, rfl, hrun⟩ := hrun
  replace hrun := hb_some hrun
  obtain ⟨c4, k4, hrun⟩ := hrun
  replace hrun := hbW_some hrun
  obtain ⟨_u4, h4, g4, hrun⟩ := hrun
  refine h_cv (h_runV S (As := []) (rest := []) (c_Row_clear l D dA b0 p4 nx g4) (cwV 0 S.2.2.2.2 (h_good _ (h_in4 ml_Whole_46 im_Row_clear se_Row_clear it_Row) cd_Row_clear) rfl rfl rfl (by decide +kernel) ⟨Nat.le_of_ble_eq_true rfl, Nat.le_of_ble_eq_true rfl⟩) hK hN hw (ci := 8) rfl k4 rfl hl.1 (lv_room (Nat.le_of_ble_eq_true rfl)) d_Whole_run_4 ⟨show 0 + 0 ≤ dnZ by omega, show 0 + 0 ≤ dsZ by omega⟩) hS (fun H locs hw hS => ?_)
  refine lv_aload_n hx hb d_Whole_run_7 rfl (lv_at hl 0 rfl) ?_
  replace hrun := hb_some hrun
  obtain ⟨v8, g8, hrun⟩ := hrun
  refine h_getR S (fun w q => hT w (i_Whole w q)) hK (ci := 11) rfl 3 (by decide) (hT _ fl_Whole_26) hw g8 d_Whole_run_8 ?_
  replace hrun := hb_some hrun
  obtain ⟨p11, rfl, hrun⟩ := hrun
  replace hrun := hb_some hrun
  obtain ⟨c11, k11, hrun⟩ := hrun
  replace hrun := hbW_some hrun
  obtain ⟨_u11, h11, g11, hrun⟩ := hrun
  refine h_cv (h_runV S (As := []) (rest := []) (c_Definition_leave l D dA b0 p11 nx g11) (cwV 0 S.2.2.2.2 (h_good _ (h_in4 ml_Whole_49 im_Definition_leave se_Definition_leave it_Definition) cd_Definition_leave) rfl rfl rfl (by decide +kernel) ⟨Nat.le_of_ble_eq_true rfl, Nat.le_of_ble_eq_true rfl⟩) hK hN hw (ci := 4) rfl k11 rfl hl.1 (lv_room (Nat.le_of_ble_eq_true rfl)) d_Whole_run_11 ⟨show 0 + 0 ≤ dnZ by omega, show 0 + 0 ≤ dsZ by omega⟩) hS (fun H locs hw hS => ?_)
  refine lv_aload_n hx hb d_Whole_run_14 rfl (lv_at hl 0 rfl) ?_
  refine lv_iconst (v := (0 : Int32)) hx hb d_Whole_run_15 (by decide) ?_
  replace hrun := hb_some hrun
  obtain ⟨h16, g16, hrun⟩ := hrun
  refine h_put S (fun w q => hT w (i_Whole w q)) t_Whole t_Whole_ok n_Whole hK (ci := 11) rfl 5 (by decide) (hT _ fl_Whole_39) rfl rfl rfl hw hS g16 d_Whole_run_16 (fun H locs hw hS => ?_)
  refine lv_aload_n hx hb d_Whole_run_19 rfl (lv_at hl 0 rfl) ?_
  refine lv_iconst (v := (-1 : Int32)) hx hb d_Whole_run_20 (by decide) ?_
  replace hrun := hb_some hrun
  obtain ⟨h21, g21, hrun⟩ := hrun
  refine h_put S (fun w q => hT w (i_Whole w q)) t_Whole t_Whole_ok n_Whole hK (ci := 11) rfl 6 (by decide) (hT _ fl_Whole_43) rfl rfl rfl hw hS g21 d_Whole_run_21 (fun H locs hw hS => ?_)
  refine lv_iconst (v := (0 : Int32)) hx hb d_Whole_run_24 (by decide) ?_
  refine lv_istore_n (lv' := [(1, .int (0 : Int32)), (0, .ref a0)]) hx hb d_Whole_run_25 rfl hl (by decide) rfl (fun ls hl => ?_)
  replace hrun := hbind_some hrun
  obtain ⟨b26, d26, s26, h26l, dn26, ds26, g26, hrun, en26, es26⟩ := hrun
  refine l_26 n (0 : Int32) 0 0 _ _ nx h21 _ _ _ _ _ g26 (by omega) (by omega) hw hS (lv_sub hl [1, 0] rfl) ?_ ?_
  · rintro x2_26 eq9 H locs ls hw hS hl
    obtain rfl := eq9.symm
    obtain ⟨nx26l, ex26⟩ : ∃ z, z = nx + d26 := ⟨_, rfl⟩
    rw [← ex26] at hw
    try rw [← ex26] at hrun
    have hcR : (0 + d26) + dn26 ≤ dnZ := by omega
    have hsR : (0 + s26) + ds26 ≤ dsZ := by omega
    try dsimp only at hrun
    refine lv_iload_n hx hb d_Whole_run_114 rfl (lv_at hl 0 rfl) ?_
    cases hrun
    refine W.widen (k := dnZ) (n := dsZ) (by omega) (by omega) ?_
    rw [show nx26l = nxZ + dnZ by omega] at hw
    exact W.iret hx hb hr (fun t ht hW9 => ⟨⟨_, (), rfl, rfl, by show hW D dA classes b0 _ _ t.heap; rw [ht]; exact hw⟩, hS.F ht⟩) hS.2.2 d_Whole_run_115
  · rintro  eq9 H locs ls hw hS hl
    obtain rfl := eq9.symm
    obtain ⟨nx26l, ex26⟩ : ∃ z, z = nx + d26 := ⟨_, rfl⟩
    rw [← ex26] at hw
    try rw [← ex26] at hrun
    have hcR : (0 + d26) + dn26 ≤ dnZ := by omega
    have hsR : (0 + s26) + ds26 ≤ dsZ := by omega
    try dsimp only at hrun
    refine lv_aload_n hx hb d_Whole_run_122 rfl (lv_at hl 0 rfl) ?_
    replace hrun := hb_some hrun
    obtain ⟨v123, g123, hrun⟩ := hrun
    refine h_getI S (fun w q => hT w (i_Whole w q)) hK (ci := 11) rfl 5 (by decide) (hT _ fl_Whole_39) hw g123 d_Whole_run_123 ?_
    refine lv_if_ne (tgt := 139) hx hb d_Whole_run_126 (by decide) (fun c126 => ?_) (fun c126 => ?_)
    · rw [if_neg c126] at hrun
      refine lv_iconst (v := (1 : Int32)) hx hb d_Whole_run_139 (by decide) ?_
      refine lv_goto (tgt := 144) hx hb d_Whole_run_140 (by decide) ?_
      cases hrun
      refine W.widen (k := dnZ) (n := dsZ) (by omega) (by omega) ?_
      rw [show nx26l = nxZ + dnZ by omega] at hw
      exact W.iret hx hb hr (fun t ht hW9 => ⟨⟨_, (), rfl, rfl, by show hW D dA classes b0 _ _ t.heap; rw [ht]; exact hw⟩, hS.F ht⟩) hS.2.2 d_Whole_run_144
    · rw [if_pos c126] at hrun
      refine lv_aload_n hx hb d_Whole_run_129 rfl (lv_at hl 0 rfl) ?_
      replace hrun := hb_some hrun
      obtain ⟨v130, g130, hrun⟩ := hrun
      refine h_getR S (fun w q => hT w (i_Whole w q)) hK (ci := 11) rfl 3 (by decide) (hT _ fl_Whole_26) hw g130 d_Whole_run_130 ?_
      replace hrun := hb_some hrun
      obtain ⟨p133, rfl, hrun⟩ := hrun
      replace hrun := hb_some hrun
      obtain ⟨c133, k133, hrun⟩ := hrun
      replace hrun := hb_some hrun
      obtain ⟨v133, g133, hrun⟩ := hrun
      refine h_ci (h_runV S (As := []) (rest := []) (c_Definition_isUnderWay l D dA b0 p133 nx26l g133) (cwV 0 S.2.2.2.2 (h_good _ (h_in4 ml_Whole_71 im_Definition_isUnderWay se_Definition_isUnderWay it_Definition) cd_Definition_isUnderWay) rfl rfl rfl (by decide +kernel) ⟨Nat.le_of_ble_eq_true rfl, Nat.le_of_ble_eq_true rfl⟩) hK hN hw (ci := 4) rfl k133 rfl hl.1 (lv_room (Nat.le_of_ble_eq_true rfl)) d_Whole_run_133 ⟨show (0 + d26) + 0 ≤ dnZ by omega, show (0 + s26) + 0 ≤ dsZ by omega⟩) hS (fun H locs hw hS => ?_)
      refine lv_if_eq (tgt := 143) hx hb d_Whole_run_136 (by decide) (fun c136 => ?_) (fun c136 => ?_)
      · rw [if_pos c136] at hrun
        refine lv_iconst (v := (0 : Int32)) hx hb d_Whole_run_143 (by decide) ?_
        cases hrun
        refine W.widen (k := dnZ) (n := dsZ) (by omega) (by omega) ?_
        rw [show nx26l = nxZ + dnZ by omega] at hw
        exact W.iret hx hb hr (fun t ht hW9 => ⟨⟨_, (), rfl, rfl, by show hW D dA classes b0 _ _ t.heap; rw [ht]; exact hw⟩, hS.F ht⟩) hS.2.2 d_Whole_run_144
      · rw [if_neg c136] at hrun
        refine lv_iconst (v := (1 : Int32)) hx hb d_Whole_run_139 (by decide) ?_
        refine lv_goto (tgt := 144) hx hb d_Whole_run_140 (by decide) ?_
        cases hrun
        refine W.widen (k := dnZ) (n := dsZ) (by omega) (by omega) ?_
        rw [show nx26l = nxZ + dnZ by omega] at hw
        exact W.iret hx hb hr (fun t ht hW9 => ⟨⟨_, (), rfl, rfl, by show hW D dA classes b0 _ _ t.heap; rw [ht]; exact hw⟩, hS.F ht⟩) hS.2.2 d_Whole_run_144
set_option maxHeartbeats 4000000 in
set_option maxRecDepth 100000 in
theorem c_Input_clear (l : Launch) (D : va_G) (dA : Nat → ClassId) (b0 : Nat) (a0 : Nat) (nx : Nat) {h h' : hH} {r : Unit} (hrun : f_Input_clear a0 h = some (r, h')) : Met l y_Input_clear w_Input_clear ({ frames := 0, cells := 0, slots := 0, locals := 0 } : Room) (va_Pc [.ref a0] (hB D dA b0 nx h)) (va_Qv (fun (_ : Unit) => True) (fun (_ : Unit) t => hW D dA classes b0 nx h' t.heap) (hA b0)) 0 0 (hA b0) := by
  refine Met.ofW (cc := b_Input_clear) (maxL := 1) (ret := none) (by decide) rfl ?_
  intro p e s m args below meth c s₁ B hml hv
  obtain ⟨rfl, hw, hK, hN⟩ := hv
  have hx := B.exec
  have hb := B.bytes
  have hr := B.returns
  have hlocks := B.notSynchronized
  have S : CallFix p m c b_Input_clear 1 s ([.ref a0] : List Value).toArray w_Input_clear R_Input := ⟨hx, hb, hml, findClass_of_methodNamed B.named, atoms_spec (ws := w_Input_clear) B.pre⟩
  have hT : ∀ w ∈ tbl, w ∈ w_Input_clear := fun _ q => List.mem_cons_of_mem _ q
  have hS : va_S (hA b0) s.heap s.heap [] := va_S.rf
  have hl := lv_entry ([.ref a0]) (n := 1) (Nat.le_of_ble_eq_true rfl)
  rw [lg_entry_eq]
  generalize (lg_sl ([.ref a0]) ++ List.replicate (1 - (lg_sl ([.ref a0])).length) Slot.unset).toArray = ls at hl ⊢
  have hl : lv_has ls 1 [(0, .ref a0)] := hl
  unfold f_Input_clear at hrun
  refine lv_aload_n hx hb d_Input_clear_0 rfl (lv_at hl 0 rfl) ?_
  refine lv_iconst (v := (0 : Int32)) hx hb d_Input_clear_1 (by decide) ?_
  replace hrun := hb_some hrun
  obtain ⟨h2, g2, hrun⟩ := hrun
  refine h_put S (fun w q => hT w (i_Input w q)) t_Input t_Input_ok n_Input hK (ci := 6) rfl 1 (by decide) (hT _ fl_Input_15) rfl rfl rfl hw hS g2 d_Input_clear_2 (fun H locs hw hS => ?_)
  cases hrun
  exact W.vret hx hb hr (fun t ht hW9 => ⟨⟨(), rfl, trivial, by show hW D dA classes b0 _ _ t.heap; rw [ht]; exact hw⟩, hS.F ht⟩) hS.2.2 d_Input_clear_5
