set_option maxHeartbeats 4000000 in
set_option maxRecDepth 100000 in
theorem c_MacroExpandModel_take (l : Launch) (D : va_G) (dA : Nat → ClassId) (b0 : Nat) (n : Nat) (a0 : Nat) (i1 : Int32) (i2 : Int32) (nx : Nat) {h h' : hH} {r : Unit} (hrun : f_MacroExpandModel_take n a0 i1 i2 h = some (r, h')) : Met l y_MacroExpandModel_take w_MacroExpandModel_take ({ frames := 1, cells := 0, slots := 0, locals := 21 } : Room) (va_Pc [.ref a0, .int i1, .int i2] (hB D dA b0 nx h)) (va_Qv (fun (_ : Unit) => True) (fun (_ : Unit) t => hW D dA classes b0 nx h' t.heap) (hA b0)) 0 0 (hA b0) := by
  refine Met.ofW (cc := b_MacroExpandModel_take) (maxL := 4) (ret := none) (by decide) rfl ?_
  intro p e s m args below meth c s₁ B hml hv
  obtain ⟨rfl, hw, hK, hN⟩ := hv
  have hx := B.exec
  have hb := B.bytes
  have hr := B.returns
  have hlocks := B.notSynchronized
  have S : CallFix p m c b_MacroExpandModel_take 4 s ([.ref a0, .int i1, .int i2] : List Value).toArray w_MacroExpandModel_take R_MacroExpandModel := ⟨hx, hb, hml, findClass_of_methodNamed B.named, atoms_spec (ws := w_MacroExpandModel_take) B.pre⟩
  have hT : ∀ w ∈ tbl, w ∈ w_MacroExpandModel_take := fun _ q => List.mem_cons_of_mem _ q
  have hS : va_S (hA b0) s.heap s.heap [] := va_S.rf
  have hl := lv_entry ([.ref a0, .int i1, .int i2]) (n := 4) (Nat.le_of_ble_eq_true rfl)
  rw [lg_entry_eq]
  generalize (lg_sl ([.ref a0, .int i1, .int i2]) ++ List.replicate (4 - (lg_sl ([.ref a0, .int i1, .int i2])).length) Slot.unset).toArray = ls at hl ⊢
  have hl : lv_has ls 4 [(0, .ref a0), (1, .int i1), (2, .int i2)] := hl
  have l_4 : ∀ (x2 : Int32) (n9 : Nat) (x9 : Int32) (h : hH) (b9 : (Unit)) (h9 : hH) (H : Heap) (locs : List Loc) (ls : Array Slot), hloopW (f_MacroExpandModel_take_b4 n a0 x2) n9 x9 h = some (b9, h9) → hW D dA classes b0 nx h H → va_S (hA b0) s.heap H locs → lv_has ls 4 (match x9 with | x3 => [(0, .ref a0), (2, .int x2), (3, .int x3)]) → (b9 = () → ∀ (H : Heap) (locs : List Loc) (ls : Array Slot), hW D dA classes b0 nx h9 H → va_S (hA b0) s.heap H locs → lv_has ls 4 [(0, .ref a0), (2, .int x2)] → W p l e (headSpec w_MacroExpandModel_take ({ frames := 1, cells := 0, slots := 0, locals := 21 } : Room)).room s m ([.ref a0, .int i1, .int i2] : List Value).toArray below meth c H locs 0 0 (MQ below (va_Qv (fun (_ : Unit) => True) (fun (_ : Unit) t => hW D dA classes b0 nx h' t.heap) (hA b0)) ([.ref a0, .int i1, .int i2] : List Value).toArray s 0 0 (hA b0)) (F0 m 36 ls [])) → W p l e (headSpec w_MacroExpandModel_take ({ frames := 1, cells := 0, slots := 0, locals := 21 } : Room)).room s m ([.ref a0, .int i1, .int i2] : List Value).toArray below meth c H locs 0 0 (MQ below (va_Qv (fun (_ : Unit) => True) (fun (_ : Unit) t => hW D dA classes b0 nx h' t.heap) (hA b0)) ([.ref a0, .int i1, .int i2] : List Value).toArray s 0 0 (hA b0)) (F0 m 4 ls []) := by
    intro x2 n9
    induction n9 with
    | zero =>
      intro x9 h b9 h9 H locs ls hrun
      cases hrun
    | succ n9 ih =>
      rintro x3 h b9 h9 H locs ls hrun hw hS hl k0
      have hl : lv_has ls 4 [(0, .ref a0), (2, .int x2), (3, .int x3)] := hl
      unfold hloopW at hrun
      obtain ⟨q9, h9b, hbody, hrun9⟩ := hbW_some hrun
      have K0 : (∀ (z3 : Int32), q9 = .inl z3 → ∀ (H : Heap) (locs : List Loc) (ls : Array Slot), hW D dA classes b0 nx h9b H → va_S (hA b0) s.heap H locs → lv_has ls 4 [(0, .ref a0), (2, .int x2), (3, .int z3)] → W p l e (headSpec w_MacroExpandModel_take ({ frames := 1, cells := 0, slots := 0, locals := 21 } : Room)).room s m ([.ref a0, .int i1, .int i2] : List Value).toArray below meth c H locs 0 0 (MQ below (va_Qv (fun (_ : Unit) => True) (fun (_ : Unit) t => hW D dA classes b0 nx h' t.heap) (hA b0)) ([.ref a0, .int i1, .int i2] : List Value).toArray s 0 0 (hA b0)) (F0 m 4 ls [])) := by
        intro z3 eq9 H locs ls hw hS hl
        subst eq9
        exact ih z3 h9b b9 h9 H locs ls hrun9 hw hS hl k0
      have K1 : (q9 = .inr () → ∀ (H : Heap) (locs : List Loc) (ls : Array Slot), hW D dA classes b0 nx h9b H → va_S (hA b0) s.heap H locs → lv_has ls 4 [(0, .ref a0), (2, .int x2)] → W p l e (headSpec w_MacroExpandModel_take ({ frames := 1, cells := 0, slots := 0, locals := 21 } : Room)).room s m ([.ref a0, .int i1, .int i2] : List Value).toArray below meth c H locs 0 0 (MQ below (va_Qv (fun (_ : Unit) => True) (fun (_ : Unit) t => hW D dA classes b0 nx h' t.heap) (hA b0)) ([.ref a0, .int i1, .int i2] : List Value).toArray s 0 0 (hA b0)) (F0 m 36 ls [])) := by
        intro  eq9 H locs ls hw hS hl
        subst eq9
        cases hrun9
        exact k0  rfl H locs ls hw hS hl
      clear hrun hrun9 ih k0
      have hrun := hbody
      clear hbody
      dsimp only [f_MacroExpandModel_take_b4] at hrun
      refine lv_iload_n hx hb d_MacroExpandModel_take_4 rfl (lv_at hl 2 rfl) ?_
      refine lv_if_lt (tgt := 36) hx hb d_MacroExpandModel_take_5 (by decide) (fun c5 => ?_) (fun c5 => ?_)
      · rw [if_pos c5] at hrun
        cases hrun
        exact K1  rfl H locs ls hw hS (lv_sub hl [0, 1] rfl)
      · rw [if_neg c5] at hrun
        refine lv_aload_n hx hb d_MacroExpandModel_take_8 rfl (lv_at hl 0 rfl) ?_
        replace hrun := hb_some hrun
        obtain ⟨v9, g9, hrun⟩ := hrun
        refine h_getR S (fun w q => hT w (i_MacroExpandModel w q)) hK (ci := 1) rfl 1 (by decide) (hT _ fl_MacroExpandModel_7) hw g9 d_MacroExpandModel_take_9 ?_
        refine lv_aload_n hx hb d_MacroExpandModel_take_12 rfl (lv_at hl 0 rfl) ?_
        replace hrun := hb_some hrun
        obtain ⟨v13, g13, hrun⟩ := hrun
        refine h_getI S (fun w q => hT w (i_MacroExpandModel w q)) hK (ci := 1) rfl 2 (by decide) (hT _ fl_MacroExpandModel_110) hw g13 d_MacroExpandModel_take_13 ?_
        refine lv_iload_n hx hb d_MacroExpandModel_take_16 rfl (lv_at hl 2 rfl) ?_
        refine lv_iadd hx hb d_MacroExpandModel_take_17 ?_
        refine lv_iload_n hx hb d_MacroExpandModel_take_18 rfl (lv_at hl 1 rfl) ?_
        refine lv_iadd hx hb d_MacroExpandModel_take_19 ?_
        refine lv_sipush (v := (4095 : Int32)) hx hb d_MacroExpandModel_take_20 (by decide) ?_
        refine lv_iand hx hb d_MacroExpandModel_take_23 ?_
        refine lv_aload_n hx hb d_MacroExpandModel_take_24 rfl (lv_at hl 0 rfl) ?_
        refine lv_iload_n hx hb d_MacroExpandModel_take_25 rfl (lv_at hl 2 rfl) ?_
        replace hrun := hb_some hrun
        obtain ⟨c26, k26, hrun⟩ := hrun
        replace hrun := hb_some hrun
        obtain ⟨v26, g26, hrun⟩ := hrun
        refine h_ci (h_runV S (As := [.int x3]) (rest := [.int (((v13 + x3) + x2) &&& (4095 : Int32)), va_rf v9]) (c_MacroExpandModel_get l D dA b0 a0 x3 nx g26) (cwV 1 S.2.2.2.2 (h_good _ (h_in4 ml_MacroExpandModel_116 im_MacroExpandModel_get se_MacroExpandModel_get it_MacroExpandModel) cd_MacroExpandModel_get) rfl rfl rfl (by decide +kernel) ⟨Nat.le_of_ble_eq_true rfl, Nat.le_of_ble_eq_true rfl⟩) hK hN hw (ci := 1) rfl k26 rfl hl.1 (lv_room (by simp only [List.map, List.sum_cons, List.sum_nil, h_cat]; exact Nat.le_of_ble_eq_true rfl)) d_MacroExpandModel_take_26 ⟨Nat.le_refl _, Nat.le_refl _⟩) hS (fun H locs hw hS => ?_)
        replace hrun := hb_some hrun
        obtain ⟨p29, rfl, hrun⟩ := hrun
        replace hrun := hb_some hrun
        obtain ⟨h29, g29, hrun⟩ := hrun
        refine h_iast S hK (kd := 0) rfl hw hS g29 d_MacroExpandModel_take_29 (fun H locs hw hS => ?_)
        refine lv_iinc (v := (x3 + (-1 : Int32))) (lv' := [(3, .int (x3 + (-1 : Int32))), (0, .ref a0), (2, .int x2)]) hx hb d_MacroExpandModel_take_30 hl (k := 2) rfl rfl (by decide) rfl (fun ls hl => ?_)
        refine lv_goto (tgt := 4) hx hb d_MacroExpandModel_take_33 (by decide) ?_
        cases hrun
        exact K0 (x3 + (-1 : Int32)) rfl H locs ls hw hS (lv_sub hl [1, 2, 0] rfl)
  unfold f_MacroExpandModel_take at hrun
  refine lv_iload_n hx hb d_MacroExpandModel_take_0 rfl (lv_at hl 1 rfl) ?_
  refine lv_iconst (v := (1 : Int32)) hx hb d_MacroExpandModel_take_1 (by decide) ?_
  refine lv_isub hx hb d_MacroExpandModel_take_2 ?_
  refine lv_istore_n (lv' := [(3, .int (i1 - (1 : Int32))), (0, .ref a0), (1, .int i1), (2, .int i2)]) hx hb d_MacroExpandModel_take_3 rfl hl (by decide) rfl (fun ls hl => ?_)
  replace hrun := hbW_some hrun
  obtain ⟨b4, h4l, g4, hrun⟩ := hrun
  refine l_4 i2 n (i1 - (1 : Int32)) h _ _ _ _ _ g4 hw hS (lv_sub hl [1, 3, 0] rfl) ?_
  · rintro  eq9 H locs ls hw hS hl
    obtain rfl := eq9.symm
    try dsimp only at hrun
    refine lv_aload_n hx hb d_MacroExpandModel_take_36 rfl (lv_at hl 0 rfl) ?_
    refine lv_aload_n hx hb d_MacroExpandModel_take_37 rfl (lv_at hl 0 rfl) ?_
    replace hrun := hb_some hrun
    obtain ⟨v38, g38, hrun⟩ := hrun
    refine h_getI S (fun w q => hT w (i_MacroExpandModel w q)) hK (ci := 1) rfl 2 (by decide) (hT _ fl_MacroExpandModel_110) hw g38 d_MacroExpandModel_take_38 ?_
    refine lv_iload_n hx hb d_MacroExpandModel_take_41 rfl (lv_at hl 1 rfl) ?_
    refine lv_iadd hx hb d_MacroExpandModel_take_42 ?_
    refine lv_sipush (v := (4095 : Int32)) hx hb d_MacroExpandModel_take_43 (by decide) ?_
    refine lv_iand hx hb d_MacroExpandModel_take_46 ?_
    replace hrun := hb_some hrun
    obtain ⟨h47, g47, hrun⟩ := hrun
    refine h_put S (fun w q => hT w (i_MacroExpandModel w q)) t_MacroExpandModel t_MacroExpandModel_ok n_MacroExpandModel hK (ci := 1) rfl 2 (by decide) (hT _ fl_MacroExpandModel_110) rfl rfl rfl hw hS g47 d_MacroExpandModel_take_47 (fun H locs hw hS => ?_)
    refine lv_aload_n hx hb d_MacroExpandModel_take_50 rfl (lv_at hl 0 rfl) ?_
    refine lv_dup hx hb d_MacroExpandModel_take_51 rfl ?_
    replace hrun := hb_some hrun
    obtain ⟨v52, g52, hrun⟩ := hrun
    refine h_getI S (fun w q => hT w (i_MacroExpandModel w q)) hK (ci := 1) rfl 3 (by decide) (hT _ fl_MacroExpandModel_107) hw g52 d_MacroExpandModel_take_52 ?_
    refine lv_iload_n hx hb d_MacroExpandModel_take_55 rfl (lv_at hl 1 rfl) ?_
    refine lv_isub hx hb d_MacroExpandModel_take_56 ?_
    replace hrun := hb_some hrun
    obtain ⟨h57, g57, hrun⟩ := hrun
    refine h_put S (fun w q => hT w (i_MacroExpandModel w q)) t_MacroExpandModel t_MacroExpandModel_ok n_MacroExpandModel hK (ci := 1) rfl 3 (by decide) (hT _ fl_MacroExpandModel_107) rfl rfl rfl hw hS g57 d_MacroExpandModel_take_57 (fun H locs hw hS => ?_)
    cases hrun
    exact W.vret hx hb hr (fun t ht hW9 => ⟨⟨(), rfl, trivial, by show hW D dA classes b0 _ _ t.heap; rw [ht]; exact hw⟩, hS.F ht⟩) hS.2.2 d_MacroExpandModel_take_60
set_option maxHeartbeats 4000000 in
set_option maxRecDepth 100000 in
theorem c_MacroExpandModel_spread (l : Launch) (D : va_G) (dA : Nat → ClassId) (b0 : Nat) (n : Nat) (a0 : Nat) (i1 : Int32) (i2 : Int32) (nx : Nat) {h h' : hH} {r : Unit} (hrun : f_MacroExpandModel_spread n a0 i1 i2 h = some (r, h')) : Met l y_MacroExpandModel_spread w_MacroExpandModel_spread ({ frames := 1, cells := 0, slots := 0, locals := 21 } : Room) (va_Pc [.ref a0, .int i1, .int i2] (hB D dA b0 nx h)) (va_Qv (fun (_ : Unit) => True) (fun (_ : Unit) t => hW D dA classes b0 nx h' t.heap) (hA b0)) 0 0 (hA b0) := by
  refine Met.ofW (cc := b_MacroExpandModel_spread) (maxL := 4) (ret := none) (by decide) rfl ?_
  intro p e s m args below meth c s₁ B hml hv
  obtain ⟨rfl, hw, hK, hN⟩ := hv
  have hx := B.exec
  have hb := B.bytes
  have hr := B.returns
  have hlocks := B.notSynchronized
  have S : CallFix p m c b_MacroExpandModel_spread 4 s ([.ref a0, .int i1, .int i2] : List Value).toArray w_MacroExpandModel_spread R_MacroExpandModel := ⟨hx, hb, hml, findClass_of_methodNamed B.named, atoms_spec (ws := w_MacroExpandModel_spread) B.pre⟩
  have hT : ∀ w ∈ tbl, w ∈ w_MacroExpandModel_spread := fun _ q => List.mem_cons_of_mem _ q
  have hS : va_S (hA b0) s.heap s.heap [] := va_S.rf
  have hl := lv_entry ([.ref a0, .int i1, .int i2]) (n := 4) (Nat.le_of_ble_eq_true rfl)
  rw [lg_entry_eq]
  generalize (lg_sl ([.ref a0, .int i1, .int i2]) ++ List.replicate (4 - (lg_sl ([.ref a0, .int i1, .int i2])).length) Slot.unset).toArray = ls at hl ⊢
  have hl : lv_has ls 4 [(0, .ref a0), (1, .int i1), (2, .int i2)] := hl
  have l_26 : ∀ (x1 : Int32) (x2 : Int32) (n9 : Nat) (x9 : Int32) (h : hH) (b9 : (Unit)) (h9 : hH) (H : Heap) (locs : List Loc) (ls : Array Slot), hloopW (f_MacroExpandModel_spread_b26 n a0 x1 x2) n9 x9 h = some (b9, h9) → hW D dA classes b0 nx h H → va_S (hA b0) s.heap H locs → lv_has ls 4 (match x9 with | x3 => [(0, .ref a0), (1, .int x1), (2, .int x2), (3, .int x3)]) → (b9 = () → ∀ (H : Heap) (locs : List Loc) (ls : Array Slot), hW D dA classes b0 nx h9 H → va_S (hA b0) s.heap H locs → lv_has ls 4 [] → W p l e (headSpec w_MacroExpandModel_spread ({ frames := 1, cells := 0, slots := 0, locals := 21 } : Room)).room s m ([.ref a0, .int i1, .int i2] : List Value).toArray below meth c H locs 0 0 (MQ below (va_Qv (fun (_ : Unit) => True) (fun (_ : Unit) t => hW D dA classes b0 nx h' t.heap) (hA b0)) ([.ref a0, .int i1, .int i2] : List Value).toArray s 0 0 (hA b0)) (F0 m 59 ls [])) → W p l e (headSpec w_MacroExpandModel_spread ({ frames := 1, cells := 0, slots := 0, locals := 21 } : Room)).room s m ([.ref a0, .int i1, .int i2] : List Value).toArray below meth c H locs 0 0 (MQ below (va_Qv (fun (_ : Unit) => True) (fun (_ : Unit) t => hW D dA classes b0 nx h' t.heap) (hA b0)) ([.ref a0, .int i1, .int i2] : List Value).toArray s 0 0 (hA b0)) (F0 m 26 ls []) := by
    intro x1 x2 n9
    induction n9 with
    | zero =>
      intro x9 h b9 h9 H locs ls hrun
      cases hrun
    | succ n9 ih =>
      rintro x3 h b9 h9 H locs ls hrun hw hS hl k0
      have hl : lv_has ls 4 [(0, .ref a0), (1, .int x1), (2, .int x2), (3, .int x3)] := hl
      unfold hloopW at hrun
      obtain ⟨q9, h9b, hbody, hrun9⟩ := hbW_some hrun
      have K0 : (∀ (z3 : Int32), q9 = .inl z3 → ∀ (H : Heap) (locs : List Loc) (ls : Array Slot), hW D dA classes b0 nx h9b H → va_S (hA b0) s.heap H locs → lv_has ls 4 [(0, .ref a0), (1, .int x1), (2, .int x2), (3, .int z3)] → W p l e (headSpec w_MacroExpandModel_spread ({ frames := 1, cells := 0, slots := 0, locals := 21 } : Room)).room s m ([.ref a0, .int i1, .int i2] : List Value).toArray below meth c H locs 0 0 (MQ below (va_Qv (fun (_ : Unit) => True) (fun (_ : Unit) t => hW D dA classes b0 nx h' t.heap) (hA b0)) ([.ref a0, .int i1, .int i2] : List Value).toArray s 0 0 (hA b0)) (F0 m 26 ls [])) := by
        intro z3 eq9 H locs ls hw hS hl
        subst eq9
        exact ih z3 h9b b9 h9 H locs ls hrun9 hw hS hl k0
      have K1 : (q9 = .inr () → ∀ (H : Heap) (locs : List Loc) (ls : Array Slot), hW D dA classes b0 nx h9b H → va_S (hA b0) s.heap H locs → lv_has ls 4 [] → W p l e (headSpec w_MacroExpandModel_spread ({ frames := 1, cells := 0, slots := 0, locals := 21 } : Room)).room s m ([.ref a0, .int i1, .int i2] : List Value).toArray below meth c H locs 0 0 (MQ below (va_Qv (fun (_ : Unit) => True) (fun (_ : Unit) t => hW D dA classes b0 nx h' t.heap) (hA b0)) ([.ref a0, .int i1, .int i2] : List Value).toArray s 0 0 (hA b0)) (F0 m 59 ls [])) := by
        intro  eq9 H locs ls hw hS hl
        subst eq9
        cases hrun9
        exact k0  rfl H locs ls hw hS hl
      clear hrun hrun9 ih k0
      have hrun := hbody
      clear hbody
      dsimp only [f_MacroExpandModel_spread_b26] at hrun
      refine lv_iload_n hx hb d_MacroExpandModel_spread_26 rfl (lv_at hl 3 rfl) ?_
      refine lv_iload_n hx hb d_MacroExpandModel_spread_27 rfl (lv_at hl 1 rfl) ?_
      refine lv_icmp_ge (tgt := 59) hx hb d_MacroExpandModel_spread_28 (by decide) (fun c28 => ?_) (fun c28 => ?_)
      · rw [if_pos c28] at hrun
        cases hrun
        exact K1  rfl H locs ls hw hS (lv_sub hl [] rfl)
      · rw [if_neg c28] at hrun
        refine lv_aload_n hx hb d_MacroExpandModel_spread_31 rfl (lv_at hl 0 rfl) ?_
        replace hrun := hb_some hrun
        obtain ⟨v32, g32, hrun⟩ := hrun
        refine h_getR S (fun w q => hT w (i_MacroExpandModel w q)) hK (ci := 1) rfl 1 (by decide) (hT _ fl_MacroExpandModel_7) hw g32 d_MacroExpandModel_spread_32 ?_
        refine lv_aload_n hx hb d_MacroExpandModel_spread_35 rfl (lv_at hl 0 rfl) ?_
        replace hrun := hb_some hrun
        obtain ⟨v36, g36, hrun⟩ := hrun
        refine h_getI S (fun w q => hT w (i_MacroExpandModel w q)) hK (ci := 1) rfl 2 (by decide) (hT _ fl_MacroExpandModel_110) hw g36 d_MacroExpandModel_spread_36 ?_
        refine lv_iload_n hx hb d_MacroExpandModel_spread_39 rfl (lv_at hl 3 rfl) ?_
        refine lv_iadd hx hb d_MacroExpandModel_spread_40 ?_
        refine lv_sipush (v := (4095 : Int32)) hx hb d_MacroExpandModel_spread_41 (by decide) ?_
        refine lv_iand hx hb d_MacroExpandModel_spread_44 ?_
        refine lv_aload_n hx hb d_MacroExpandModel_spread_45 rfl (lv_at hl 0 rfl) ?_
        refine lv_iload_n hx hb d_MacroExpandModel_spread_46 rfl (lv_at hl 3 rfl) ?_
        refine lv_iload_n hx hb d_MacroExpandModel_spread_47 rfl (lv_at hl 2 rfl) ?_
        refine lv_iadd hx hb d_MacroExpandModel_spread_48 ?_
        replace hrun := hb_some hrun
        obtain ⟨c49, k49, hrun⟩ := hrun
        replace hrun := hb_some hrun
        obtain ⟨v49, g49, hrun⟩ := hrun
        refine h_ci (h_runV S (As := [.int (x3 + x2)]) (rest := [.int ((v36 + x3) &&& (4095 : Int32)), va_rf v32]) (c_MacroExpandModel_get l D dA b0 a0 (x3 + x2) nx g49) (cwV 1 S.2.2.2.2 (h_good _ (h_in4 ml_MacroExpandModel_116 im_MacroExpandModel_get se_MacroExpandModel_get it_MacroExpandModel) cd_MacroExpandModel_get) rfl rfl rfl (by decide +kernel) ⟨Nat.le_of_ble_eq_true rfl, Nat.le_of_ble_eq_true rfl⟩) hK hN hw (ci := 1) rfl k49 rfl hl.1 (lv_room (by simp only [List.map, List.sum_cons, List.sum_nil, h_cat]; exact Nat.le_of_ble_eq_true rfl)) d_MacroExpandModel_spread_49 ⟨Nat.le_refl _, Nat.le_refl _⟩) hS (fun H locs hw hS => ?_)
        replace hrun := hb_some hrun
        obtain ⟨p52, rfl, hrun⟩ := hrun
        replace hrun := hb_some hrun
        obtain ⟨h52, g52, hrun⟩ := hrun
        refine h_iast S hK (kd := 0) rfl hw hS g52 d_MacroExpandModel_spread_52 (fun H locs hw hS => ?_)
        refine lv_iinc (v := (x3 + (1 : Int32))) (lv' := [(3, .int (x3 + (1 : Int32))), (0, .ref a0), (1, .int x1), (2, .int x2)]) hx hb d_MacroExpandModel_spread_53 hl (k := 3) rfl rfl (by decide) rfl (fun ls hl => ?_)
        refine lv_goto (tgt := 26) hx hb d_MacroExpandModel_spread_56 (by decide) ?_
        cases hrun
        exact K0 (x3 + (1 : Int32)) rfl H locs ls hw hS (lv_sub hl [1, 2, 3, 0] rfl)
  unfold f_MacroExpandModel_spread at hrun
  refine lv_aload_n hx hb d_MacroExpandModel_spread_0 rfl (lv_at hl 0 rfl) ?_
  refine lv_aload_n hx hb d_MacroExpandModel_spread_1 rfl (lv_at hl 0 rfl) ?_
  replace hrun := hb_some hrun
  obtain ⟨v2, g2, hrun⟩ := hrun
  refine h_getI S (fun w q => hT w (i_MacroExpandModel w q)) hK (ci := 1) rfl 2 (by decide) (hT _ fl_MacroExpandModel_110) hw g2 d_MacroExpandModel_spread_2 ?_
  refine lv_iload_n hx hb d_MacroExpandModel_spread_5 rfl (lv_at hl 2 rfl) ?_
  refine lv_isub hx hb d_MacroExpandModel_spread_6 ?_
  refine lv_sipush (v := (4095 : Int32)) hx hb d_MacroExpandModel_spread_7 (by decide) ?_
  refine lv_iand hx hb d_MacroExpandModel_spread_10 ?_
  replace hrun := hb_some hrun
  obtain ⟨h11, g11, hrun⟩ := hrun
  refine h_put S (fun w q => hT w (i_MacroExpandModel w q)) t_MacroExpandModel t_MacroExpandModel_ok n_MacroExpandModel hK (ci := 1) rfl 2 (by decide) (hT _ fl_MacroExpandModel_110) rfl rfl rfl hw hS g11 d_MacroExpandModel_spread_11 (fun H locs hw hS => ?_)
  refine lv_aload_n hx hb d_MacroExpandModel_spread_14 rfl (lv_at hl 0 rfl) ?_
  refine lv_dup hx hb d_MacroExpandModel_spread_15 rfl ?_
  replace hrun := hb_some hrun
  obtain ⟨v16, g16, hrun⟩ := hrun
  refine h_getI S (fun w q => hT w (i_MacroExpandModel w q)) hK (ci := 1) rfl 3 (by decide) (hT _ fl_MacroExpandModel_107) hw g16 d_MacroExpandModel_spread_16 ?_
  refine lv_iload_n hx hb d_MacroExpandModel_spread_19 rfl (lv_at hl 2 rfl) ?_
  refine lv_iadd hx hb d_MacroExpandModel_spread_20 ?_
  replace hrun := hb_some hrun
  obtain ⟨h21, g21, hrun⟩ := hrun
  refine h_put S (fun w q => hT w (i_MacroExpandModel w q)) t_MacroExpandModel t_MacroExpandModel_ok n_MacroExpandModel hK (ci := 1) rfl 3 (by decide) (hT _ fl_MacroExpandModel_107) rfl rfl rfl hw hS g21 d_MacroExpandModel_spread_21 (fun H locs hw hS => ?_)
  refine lv_iconst (v := (0 : Int32)) hx hb d_MacroExpandModel_spread_24 (by decide) ?_
  refine lv_istore_n (lv' := [(3, .int (0 : Int32)), (0, .ref a0), (1, .int i1), (2, .int i2)]) hx hb d_MacroExpandModel_spread_25 rfl hl (by decide) rfl (fun ls hl => ?_)
  replace hrun := hbW_some hrun
  obtain ⟨b26, h26l, g26, hrun⟩ := hrun
  refine l_26 i1 i2 n (0 : Int32) h21 _ _ _ _ _ g26 hw hS (lv_sub hl [1, 2, 3, 0] rfl) ?_
  · rintro  eq9 H locs ls hw hS hl
    obtain rfl := eq9.symm
    try dsimp only at hrun
    cases hrun
    exact W.vret hx hb hr (fun t ht hW9 => ⟨⟨(), rfl, trivial, by show hW D dA classes b0 _ _ t.heap; rw [ht]; exact hw⟩, hS.F ht⟩) hS.2.2 d_MacroExpandModel_spread_59
set_option maxHeartbeats 4000000 in
set_option maxRecDepth 100000 in
theorem c_MacroExpandModel_set (l : Launch) (D : va_G) (dA : Nat → ClassId) (b0 : Nat) (a0 : Nat) (i1 : Int32) (i2 : Int32) (nx : Nat) {h h' : hH} {r : Unit} (hrun : f_MacroExpandModel_set a0 i1 i2 h = some (r, h')) : Met l y_MacroExpandModel_set w_MacroExpandModel_set ({ frames := 0, cells := 0, slots := 0, locals := 0 } : Room) (va_Pc [.ref a0, .int i1, .int i2] (hB D dA b0 nx h)) (va_Qv (fun (_ : Unit) => True) (fun (_ : Unit) t => hW D dA classes b0 nx h' t.heap) (hA b0)) 0 0 (hA b0) := by
  refine Met.ofW (cc := b_MacroExpandModel_set) (maxL := 3) (ret := none) (by decide) rfl ?_
  intro p e s m args below meth c s₁ B hml hv
  obtain ⟨rfl, hw, hK, hN⟩ := hv
  have hx := B.exec
  have hb := B.bytes
  have hr := B.returns
  have hlocks := B.notSynchronized
  have S : CallFix p m c b_MacroExpandModel_set 3 s ([.ref a0, .int i1, .int i2] : List Value).toArray w_MacroExpandModel_set R_MacroExpandModel := ⟨hx, hb, hml, findClass_of_methodNamed B.named, atoms_spec (ws := w_MacroExpandModel_set) B.pre⟩
  have hT : ∀ w ∈ tbl, w ∈ w_MacroExpandModel_set := fun _ q => List.mem_cons_of_mem _ q
  have hS : va_S (hA b0) s.heap s.heap [] := va_S.rf
  have hl := lv_entry ([.ref a0, .int i1, .int i2]) (n := 3) (Nat.le_of_ble_eq_true rfl)
  rw [lg_entry_eq]
  generalize (lg_sl ([.ref a0, .int i1, .int i2]) ++ List.replicate (3 - (lg_sl ([.ref a0, .int i1, .int i2])).length) Slot.unset).toArray = ls at hl ⊢
  have hl : lv_has ls 3 [(0, .ref a0), (1, .int i1), (2, .int i2)] := hl
  unfold f_MacroExpandModel_set at hrun
  refine lv_aload_n hx hb d_MacroExpandModel_set_0 rfl (lv_at hl 0 rfl) ?_
  replace hrun := hb_some hrun
  obtain ⟨v1, g1, hrun⟩ := hrun
  refine h_getR S (fun w q => hT w (i_MacroExpandModel w q)) hK (ci := 1) rfl 1 (by decide) (hT _ fl_MacroExpandModel_7) hw g1 d_MacroExpandModel_set_1 ?_
  refine lv_aload_n hx hb d_MacroExpandModel_set_4 rfl (lv_at hl 0 rfl) ?_
  replace hrun := hb_some hrun
  obtain ⟨v5, g5, hrun⟩ := hrun
  refine h_getI S (fun w q => hT w (i_MacroExpandModel w q)) hK (ci := 1) rfl 2 (by decide) (hT _ fl_MacroExpandModel_110) hw g5 d_MacroExpandModel_set_5 ?_
  refine lv_iload_n hx hb d_MacroExpandModel_set_8 rfl (lv_at hl 1 rfl) ?_
  refine lv_iadd hx hb d_MacroExpandModel_set_9 ?_
  refine lv_sipush (v := (4095 : Int32)) hx hb d_MacroExpandModel_set_10 (by decide) ?_
  refine lv_iand hx hb d_MacroExpandModel_set_13 ?_
  refine lv_iload_n hx hb d_MacroExpandModel_set_14 rfl (lv_at hl 2 rfl) ?_
  replace hrun := hb_some hrun
  obtain ⟨p15, rfl, hrun⟩ := hrun
  replace hrun := hb_some hrun
  obtain ⟨h15, g15, hrun⟩ := hrun
  refine h_iast S hK (kd := 0) rfl hw hS g15 d_MacroExpandModel_set_15 (fun H locs hw hS => ?_)
  cases hrun
  exact W.vret hx hb hr (fun t ht hW9 => ⟨⟨(), rfl, trivial, by show hW D dA classes b0 _ _ t.heap; rw [ht]; exact hw⟩, hS.F ht⟩) hS.2.2 d_MacroExpandModel_set_16
set_option maxHeartbeats 4000000 in
set_option maxRecDepth 100000 in
theorem c_MacroExpandModel_macroAt (l : Launch) (D : va_G) (dA : Nat → ClassId) (b0 : Nat) (a0 : Nat) (i1 : Int32) (nx : Nat) {h : hH} {r : Int32} (hrun : f_MacroExpandModel_macroAt a0 i1 h = some r) : Met l y_MacroExpandModel_macroAt w_MacroExpandModel_macroAt ({ frames := 2, cells := 0, slots := 0, locals := 42 } : Room) (va_Pc [.ref a0, .int i1] (hB D dA b0 nx h)) (va_Qi (fun r' (_ : Unit) => r' = r) (fun (_ : Unit) t => hW D dA classes b0 nx h t.heap) (hA b0)) 0 0 (hA b0) := by
  refine Met.ofW (cc := b_MacroExpandModel_macroAt) (maxL := 2) (ret := (some .int)) (by decide) rfl ?_
  intro p e s m args below meth c s₁ B hml hv
  obtain ⟨rfl, hw, hK, hN⟩ := hv
  have hx := B.exec
  have hb := B.bytes
  have hr := B.returns
  have hlocks := B.notSynchronized
  have S : CallFix p m c b_MacroExpandModel_macroAt 2 s ([.ref a0, .int i1] : List Value).toArray w_MacroExpandModel_macroAt R_MacroExpandModel := ⟨hx, hb, hml, findClass_of_methodNamed B.named, atoms_spec (ws := w_MacroExpandModel_macroAt) B.pre⟩
  have hT : ∀ w ∈ tbl, w ∈ w_MacroExpandModel_macroAt := fun _ q => List.mem_cons_of_mem _ q
  have hS : va_S (hA b0) s.heap s.heap [] := va_S.rf
  have hl := lv_entry ([.ref a0, .int i1]) (n := 2) (Nat.le_of_ble_eq_true rfl)
  rw [lg_entry_eq]
  generalize (lg_sl ([.ref a0, .int i1]) ++ List.replicate (2 - (lg_sl ([.ref a0, .int i1])).length) Slot.unset).toArray = ls at hl ⊢
  have hl : lv_has ls 2 [(0, .ref a0), (1, .int i1)] := hl
  unfold f_MacroExpandModel_macroAt at hrun
  refine lv_aload_n hx hb d_MacroExpandModel_macroAt_0 rfl (lv_at hl 0 rfl) ?_
  refine lv_iload_n hx hb d_MacroExpandModel_macroAt_1 rfl (lv_at hl 1 rfl) ?_
  replace hrun := hb_some hrun
  obtain ⟨c2, k2, hrun⟩ := hrun
  replace hrun := hb_some hrun
  obtain ⟨v2, g2, hrun⟩ := hrun
  refine h_ci (h_runV S (As := [.int i1]) (rest := []) (c_MacroExpandModel_get l D dA b0 a0 i1 nx g2) (cwV 1 S.2.2.2.2 (h_good _ (h_in4 ml_MacroExpandModel_116 im_MacroExpandModel_get se_MacroExpandModel_get it_MacroExpandModel) cd_MacroExpandModel_get) rfl rfl rfl (by decide +kernel) ⟨Nat.le_of_ble_eq_true rfl, Nat.le_of_ble_eq_true rfl⟩) hK hN hw (ci := 1) rfl k2 rfl hl.1 (lv_room (Nat.le_of_ble_eq_true rfl)) d_MacroExpandModel_macroAt_2 ⟨Nat.le_refl _, Nat.le_refl _⟩) hS (fun H locs hw hS => ?_)
  replace hrun := hb_some hrun
  obtain ⟨v5, g5, hrun⟩ := hrun
  refine h_ci (h_runS S (As := [.int v2]) (rest := []) (c_MacroExpandModel_isName l D dA b0 v2 nx g5) (va_cwS 1 S.2.2.2.2 (h_good _ (h_in3 ml_MacroExpandModel_91 sm_MacroExpandModel_isName it_MacroExpandModel) cd_MacroExpandModel_isName) rfl rfl rfl (by decide +kernel) ⟨Nat.le_of_ble_eq_true rfl, Nat.le_of_ble_eq_true rfl⟩) hK hN hw rfl hl.1 (lv_room (Nat.le_of_ble_eq_true rfl)) d_MacroExpandModel_macroAt_5 ⟨Nat.le_refl _, Nat.le_refl _⟩) hS (fun H locs hw hS => ?_)
  refine lv_if_eq (tgt := 28) hx hb d_MacroExpandModel_macroAt_8 (by decide) (fun c8 => ?_) (fun c8 => ?_)
  · rw [if_pos c8] at hrun
    refine lv_iconst (v := (-1 : Int32)) hx hb d_MacroExpandModel_macroAt_28 (by decide) ?_
    cases hrun
    exact W.iret hx hb hr (fun t ht hW9 => ⟨⟨_, (), rfl, rfl, by show hW D dA classes b0 _ _ t.heap; rw [ht]; exact hw⟩, hS.F ht⟩) hS.2.2 d_MacroExpandModel_macroAt_29
  · rw [if_neg c8] at hrun
    refine lv_aload_n hx hb d_MacroExpandModel_macroAt_11 rfl (lv_at hl 0 rfl) ?_
    replace hrun := hb_some hrun
    obtain ⟨v12, g12, hrun⟩ := hrun
    refine h_getR S (fun w q => hT w (i_MacroExpandModel w q)) hK (ci := 1) rfl 13 (by decide) (hT _ fl_MacroExpandModel_35) hw g12 d_MacroExpandModel_macroAt_12 ?_
    refine lv_aload_n hx hb d_MacroExpandModel_macroAt_15 rfl (lv_at hl 0 rfl) ?_
    refine lv_iload_n hx hb d_MacroExpandModel_macroAt_16 rfl (lv_at hl 1 rfl) ?_
    replace hrun := hb_some hrun
    obtain ⟨c17, k17, hrun⟩ := hrun
    replace hrun := hb_some hrun
    obtain ⟨v17, g17, hrun⟩ := hrun
    refine h_ci (h_runV S (As := [.int i1]) (rest := [va_rf v12]) (c_MacroExpandModel_get l D dA b0 a0 i1 nx g17) (cwV 1 S.2.2.2.2 (h_good _ (h_in4 ml_MacroExpandModel_116 im_MacroExpandModel_get se_MacroExpandModel_get it_MacroExpandModel) cd_MacroExpandModel_get) rfl rfl rfl (by decide +kernel) ⟨Nat.le_of_ble_eq_true rfl, Nat.le_of_ble_eq_true rfl⟩) hK hN hw (ci := 1) rfl k17 rfl hl.1 (lv_room (by simp only [List.map, List.sum_cons, List.sum_nil, h_cat]; exact Nat.le_of_ble_eq_true rfl)) d_MacroExpandModel_macroAt_17 ⟨Nat.le_refl _, Nat.le_refl _⟩) hS (fun H locs hw hS => ?_)
    refine lv_sipush (v := (1000 : Int32)) hx hb d_MacroExpandModel_macroAt_20 (by decide) ?_
    refine lv_isub hx hb d_MacroExpandModel_macroAt_23 ?_
    replace hrun := hb_some hrun
    obtain ⟨p24, rfl, hrun⟩ := hrun
    replace hrun := hb_some hrun
    obtain ⟨v24, g24, hrun⟩ := hrun
    refine h_iald S hK (kd := 0) rfl hw g24 d_MacroExpandModel_macroAt_24 ?_
    refine lv_goto (tgt := 29) hx hb d_MacroExpandModel_macroAt_25 (by decide) ?_
    cases hrun
    exact W.iret hx hb hr (fun t ht hW9 => ⟨⟨_, (), rfl, rfl, by show hW D dA classes b0 _ _ t.heap; rw [ht]; exact hw⟩, hS.F ht⟩) hS.2.2 d_MacroExpandModel_macroAt_29
set_option maxHeartbeats 4000000 in
set_option maxRecDepth 100000 in
theorem c_MacroExpandModel_canBeExpanded (l : Launch) (D : va_G) (dA : Nat → ClassId) (b0 : Nat) (a0 : Nat) (i1 : Int32) (nx : Nat) {h : hH} {r : Int32} (hrun : f_MacroExpandModel_canBeExpanded a0 i1 h = some r) : Met l y_MacroExpandModel_canBeExpanded w_MacroExpandModel_canBeExpanded ({ frames := 3, cells := 0, slots := 0, locals := 63 } : Room) (va_Pc [.ref a0, .int i1] (hB D dA b0 nx h)) (va_Qi (fun r' (_ : Unit) => r' = r) (fun (_ : Unit) t => hW D dA classes b0 nx h t.heap) (hA b0)) 0 0 (hA b0) := by
  refine Met.ofW (cc := b_MacroExpandModel_canBeExpanded) (maxL := 2) (ret := (some .boolean)) (by decide) rfl ?_
  intro p e s m args below meth c s₁ B hml hv
  obtain ⟨rfl, hw, hK, hN⟩ := hv
  have hx := B.exec
  have hb := B.bytes
  have hr := B.returns
  have hlocks := B.notSynchronized
  have S : CallFix p m c b_MacroExpandModel_canBeExpanded 2 s ([.ref a0, .int i1] : List Value).toArray w_MacroExpandModel_canBeExpanded R_MacroExpandModel := ⟨hx, hb, hml, findClass_of_methodNamed B.named, atoms_spec (ws := w_MacroExpandModel_canBeExpanded) B.pre⟩
  have hT : ∀ w ∈ tbl, w ∈ w_MacroExpandModel_canBeExpanded := fun _ q => List.mem_cons_of_mem _ q
  have hS : va_S (hA b0) s.heap s.heap [] := va_S.rf
  have hl := lv_entry ([.ref a0, .int i1]) (n := 2) (Nat.le_of_ble_eq_true rfl)
  rw [lg_entry_eq]
  generalize (lg_sl ([.ref a0, .int i1]) ++ List.replicate (2 - (lg_sl ([.ref a0, .int i1])).length) Slot.unset).toArray = ls at hl ⊢
  have hl : lv_has ls 2 [(0, .ref a0), (1, .int i1)] := hl
  unfold f_MacroExpandModel_canBeExpanded at hrun
  refine lv_aload_n hx hb d_MacroExpandModel_canBeExpanded_0 rfl (lv_at hl 0 rfl) ?_
  refine lv_iload_n hx hb d_MacroExpandModel_canBeExpanded_1 rfl (lv_at hl 1 rfl) ?_
  replace hrun := hb_some hrun
  obtain ⟨c2, k2, hrun⟩ := hrun
  replace hrun := hb_some hrun
  obtain ⟨v2, g2, hrun⟩ := hrun
  refine h_ci (h_runV S (As := [.int i1]) (rest := []) (c_MacroExpandModel_macroAt l D dA b0 a0 i1 nx g2) (cwV 1 S.2.2.2.2 (h_good _ (h_in4 ml_MacroExpandModel_120 im_MacroExpandModel_macroAt se_MacroExpandModel_macroAt it_MacroExpandModel) cd_MacroExpandModel_macroAt) rfl rfl rfl (by decide +kernel) ⟨Nat.le_of_ble_eq_true rfl, Nat.le_of_ble_eq_true rfl⟩) hK hN hw (ci := 1) rfl k2 rfl hl.1 (lv_room (Nat.le_of_ble_eq_true rfl)) d_MacroExpandModel_canBeExpanded_2 ⟨Nat.le_refl _, Nat.le_refl _⟩) hS (fun H locs hw hS => ?_)
  refine lv_if_ge (tgt := 25) hx hb d_MacroExpandModel_canBeExpanded_5 (by decide) (fun c5 => ?_) (fun c5 => ?_)
  · rw [if_pos c5] at hrun
    refine lv_iconst (v := (1 : Int32)) hx hb d_MacroExpandModel_canBeExpanded_25 (by decide) ?_
    refine lv_goto (tgt := 30) hx hb d_MacroExpandModel_canBeExpanded_26 (by decide) ?_
    cases hrun
    exact W.zret hx hb hr (by decide) (fun t ht hW9 => ⟨⟨_, (), rfl, rfl, by show hW D dA classes b0 _ _ t.heap; rw [ht]; exact hw⟩, hS.F ht⟩) hS.2.2 d_MacroExpandModel_canBeExpanded_30
  · rw [if_neg c5] at hrun
    refine lv_aload_n hx hb d_MacroExpandModel_canBeExpanded_8 rfl (lv_at hl 0 rfl) ?_
    refine lv_iload_n hx hb d_MacroExpandModel_canBeExpanded_9 rfl (lv_at hl 1 rfl) ?_
    replace hrun := hb_some hrun
    obtain ⟨c10, k10, hrun⟩ := hrun
    replace hrun := hb_some hrun
    obtain ⟨v10, g10, hrun⟩ := hrun
    refine h_ci (h_runV S (As := [.int i1]) (rest := []) (c_MacroExpandModel_get l D dA b0 a0 i1 nx g10) (cwV 1 S.2.2.2.2 (h_good _ (h_in4 ml_MacroExpandModel_116 im_MacroExpandModel_get se_MacroExpandModel_get it_MacroExpandModel) cd_MacroExpandModel_get) rfl rfl rfl (by decide +kernel) ⟨Nat.le_of_ble_eq_true rfl, Nat.le_of_ble_eq_true rfl⟩) hK hN hw (ci := 1) rfl k10 rfl hl.1 (lv_room (Nat.le_of_ble_eq_true rfl)) d_MacroExpandModel_canBeExpanded_10 ⟨Nat.le_refl _, Nat.le_refl _⟩) hS (fun H locs hw hS => ?_)
    refine lv_sipush (v := (260 : Int32)) hx hb d_MacroExpandModel_canBeExpanded_13 (by decide) ?_
    refine lv_sipush (v := (262 : Int32)) hx hb d_MacroExpandModel_canBeExpanded_16 (by decide) ?_
    replace hrun := hb_some hrun
    obtain ⟨v19, g19, hrun⟩ := hrun
    refine h_ci (h_runS S (As := [.int v10, .int (260 : Int32), .int (262 : Int32)]) (rest := []) (c_MacroExpandModel_in l D dA b0 v10 (260 : Int32) (262 : Int32) nx g19) (va_cwS 3 S.2.2.2.2 (h_good _ (h_in3 ml_MacroExpandModel_83 sm_MacroExpandModel_in it_MacroExpandModel) cd_MacroExpandModel_in) rfl rfl rfl (by decide +kernel) ⟨Nat.le_of_ble_eq_true rfl, Nat.le_of_ble_eq_true rfl⟩) hK hN hw rfl hl.1 (lv_room (Nat.le_of_ble_eq_true rfl)) d_MacroExpandModel_canBeExpanded_19 ⟨Nat.le_refl _, Nat.le_refl _⟩) hS (fun H locs hw hS => ?_)
    refine lv_if_eq (tgt := 29) hx hb d_MacroExpandModel_canBeExpanded_22 (by decide) (fun c22 => ?_) (fun c22 => ?_)
    · rw [if_pos c22] at hrun
      refine lv_iconst (v := (0 : Int32)) hx hb d_MacroExpandModel_canBeExpanded_29 (by decide) ?_
      cases hrun
      exact W.zret hx hb hr (by decide) (fun t ht hW9 => ⟨⟨_, (), rfl, rfl, by show hW D dA classes b0 _ _ t.heap; rw [ht]; exact hw⟩, hS.F ht⟩) hS.2.2 d_MacroExpandModel_canBeExpanded_30
    · rw [if_neg c22] at hrun
      refine lv_iconst (v := (1 : Int32)) hx hb d_MacroExpandModel_canBeExpanded_25 (by decide) ?_
      refine lv_goto (tgt := 30) hx hb d_MacroExpandModel_canBeExpanded_26 (by decide) ?_
      cases hrun
      exact W.zret hx hb hr (by decide) (fun t ht hW9 => ⟨⟨_, (), rfl, rfl, by show hW D dA classes b0 _ _ t.heap; rw [ht]; exact hw⟩, hS.F ht⟩) hS.2.2 d_MacroExpandModel_canBeExpanded_30
set_option maxHeartbeats 4000000 in
set_option maxRecDepth 100000 in
theorem c_MacroExpandModel_isThere (l : Launch) (D : va_G) (dA : Nat → ClassId) (b0 : Nat) (a0 : Nat) (i1 : Int32) (i2 : Int32) (nx : Nat) {h h' : hH} {r : Int32} (hrun : f_MacroExpandModel_isThere a0 i1 i2 h = some (r, h')) : Met l y_MacroExpandModel_isThere w_MacroExpandModel_isThere ({ frames := 3, cells := 0, slots := 0, locals := 63 } : Room) (va_Pc [.ref a0, .int i1, .int i2] (hB D dA b0 nx h)) (va_Qi (fun r' (_ : Unit) => r' = r) (fun (_ : Unit) t => hW D dA classes b0 nx h' t.heap) (hA b0)) 0 0 (hA b0) := by
  refine Met.ofW (cc := b_MacroExpandModel_isThere) (maxL := 4) (ret := (some .boolean)) (by decide) rfl ?_
  intro p e s m args below meth c s₁ B hml hv
  obtain ⟨rfl, hw, hK, hN⟩ := hv
  have hx := B.exec
  have hb := B.bytes
  have hr := B.returns
  have hlocks := B.notSynchronized
  have S : CallFix p m c b_MacroExpandModel_isThere 4 s ([.ref a0, .int i1, .int i2] : List Value).toArray w_MacroExpandModel_isThere R_MacroExpandModel := ⟨hx, hb, hml, findClass_of_methodNamed B.named, atoms_spec (ws := w_MacroExpandModel_isThere) B.pre⟩
  have hT : ∀ w ∈ tbl, w ∈ w_MacroExpandModel_isThere := fun _ q => List.mem_cons_of_mem _ q
  have hS : va_S (hA b0) s.heap s.heap [] := va_S.rf
  have hl := lv_entry ([.ref a0, .int i1, .int i2]) (n := 4) (Nat.le_of_ble_eq_true rfl)
  rw [lg_entry_eq]
  generalize (lg_sl ([.ref a0, .int i1, .int i2]) ++ List.replicate (4 - (lg_sl ([.ref a0, .int i1, .int i2])).length) Slot.unset).toArray = ls at hl ⊢
  have hl : lv_has ls 4 [(0, .ref a0), (1, .int i1), (2, .int i2)] := hl
  have j_50 : ∀   (h : hH) (H : Heap) (locs : List Loc) (ls : Array Slot), f_MacroExpandModel_isThere_j50 a0 h = some (r, h') → hW D dA classes b0 nx h H → va_S (hA b0) s.heap H locs → lv_has ls 4 [(0, .ref a0)] → W p l e (headSpec w_MacroExpandModel_isThere ({ frames := 3, cells := 0, slots := 0, locals := 63 } : Room)).room s m ([.ref a0, .int i1, .int i2] : List Value).toArray below meth c H locs 0 0 (MQ below (va_Qi (fun r' (_ : Unit) => r' = r) (fun (_ : Unit) t => hW D dA classes b0 nx h' t.heap) (hA b0)) ([.ref a0, .int i1, .int i2] : List Value).toArray s 0 0 (hA b0)) (F0 m 50 ls []) := by
    intro h H locs ls hrun hw hS hl
    unfold f_MacroExpandModel_isThere_j50 at hrun
    refine lv_aload_n hx hb d_MacroExpandModel_isThere_50 rfl (lv_at hl 0 rfl) ?_
    refine lv_iconst (v := (2 : Int32)) hx hb d_MacroExpandModel_isThere_51 (by decide) ?_
    replace hrun := hb_some hrun
    obtain ⟨c52, k52, hrun⟩ := hrun
    replace hrun := hbW_some hrun
    obtain ⟨_u52, h52, g52, hrun⟩ := hrun
    refine h_cv (h_runV S (As := [.int (2 : Int32)]) (rest := []) (c_MacroExpandModel_mark l D dA b0 a0 (2 : Int32) nx g52) (cwV 1 S.2.2.2.2 (h_good _ (h_in4 ml_MacroExpandModel_123 im_MacroExpandModel_mark se_MacroExpandModel_mark it_MacroExpandModel) cd_MacroExpandModel_mark) rfl rfl rfl (by decide +kernel) ⟨Nat.le_of_ble_eq_true rfl, Nat.le_of_ble_eq_true rfl⟩) hK hN hw (ci := 1) rfl k52 rfl hl.1 (lv_room (Nat.le_of_ble_eq_true rfl)) d_MacroExpandModel_isThere_52 ⟨Nat.le_refl _, Nat.le_refl _⟩) hS (fun H locs hw hS => ?_)
    refine lv_iconst (v := (0 : Int32)) hx hb d_MacroExpandModel_isThere_55 (by decide) ?_
    cases hrun
    exact W.zret hx hb hr (by decide) (fun t ht hW9 => ⟨⟨_, (), rfl, rfl, by show hW D dA classes b0 _ _ t.heap; rw [ht]; exact hw⟩, hS.F ht⟩) hS.2.2 d_MacroExpandModel_isThere_56
  have j_36 : ∀  (x1 : Int32) (x2 : Int32) (h : hH) (H : Heap) (locs : List Loc) (ls : Array Slot), f_MacroExpandModel_isThere_j36 a0 x1 x2 h = some (r, h') → hW D dA classes b0 nx h H → va_S (hA b0) s.heap H locs → lv_has ls 4 [(0, .ref a0), (1, .int x1), (2, .int x2)] → W p l e (headSpec w_MacroExpandModel_isThere ({ frames := 3, cells := 0, slots := 0, locals := 63 } : Room)).room s m ([.ref a0, .int i1, .int i2] : List Value).toArray below meth c H locs 0 0 (MQ below (va_Qi (fun r' (_ : Unit) => r' = r) (fun (_ : Unit) t => hW D dA classes b0 nx h' t.heap) (hA b0)) ([.ref a0, .int i1, .int i2] : List Value).toArray s 0 0 (hA b0)) (F0 m 36 ls []) := by
    intro x1 x2 h H locs ls hrun hw hS hl
    unfold f_MacroExpandModel_isThere_j36 at hrun
    refine lv_aload_n hx hb d_MacroExpandModel_isThere_36 rfl (lv_at hl 0 rfl) ?_
    refine lv_iload_n hx hb d_MacroExpandModel_isThere_37 rfl (lv_at hl 1 rfl) ?_
    replace hrun := hb_some hrun
    obtain ⟨c38, k38, hrun⟩ := hrun
    replace hrun := hb_some hrun
    obtain ⟨v38, g38, hrun⟩ := hrun
    refine h_ci (h_runV S (As := [.int x1]) (rest := []) (c_MacroExpandModel_get l D dA b0 a0 x1 nx g38) (cwV 1 S.2.2.2.2 (h_good _ (h_in4 ml_MacroExpandModel_116 im_MacroExpandModel_get se_MacroExpandModel_get it_MacroExpandModel) cd_MacroExpandModel_get) rfl rfl rfl (by decide +kernel) ⟨Nat.le_of_ble_eq_true rfl, Nat.le_of_ble_eq_true rfl⟩) hK hN hw (ci := 1) rfl k38 rfl hl.1 (lv_room (Nat.le_of_ble_eq_true rfl)) d_MacroExpandModel_isThere_38 ⟨Nat.le_refl _, Nat.le_refl _⟩) hS (fun H locs hw hS => ?_)
    refine lv_bipush (v := (10 : Int32)) hx hb d_MacroExpandModel_isThere_41 (by decide) ?_
    refine lv_icmp_ne (tgt := 57) hx hb d_MacroExpandModel_isThere_43 (by decide) (fun c43 => ?_) (fun c43 => ?_)
    · rw [if_neg c43] at hrun
      refine lv_iconst (v := (1 : Int32)) hx hb d_MacroExpandModel_isThere_57 (by decide) ?_
      cases hrun
      exact W.zret hx hb hr (by decide) (fun t ht hW9 => ⟨⟨_, (), rfl, rfl, by show hW D dA classes b0 _ _ t.heap; rw [ht]; exact hw⟩, hS.F ht⟩) hS.2.2 d_MacroExpandModel_isThere_58
    · rw [if_pos c43] at hrun
      refine lv_iload_n hx hb d_MacroExpandModel_isThere_46 rfl (lv_at hl 2 rfl) ?_
      refine lv_if_ne (tgt := 57) hx hb d_MacroExpandModel_isThere_47 (by decide) (fun c47 => ?_) (fun c47 => ?_)
      · rw [if_neg c47] at hrun
        refine lv_iconst (v := (1 : Int32)) hx hb d_MacroExpandModel_isThere_57 (by decide) ?_
        cases hrun
        exact W.zret hx hb hr (by decide) (fun t ht hW9 => ⟨⟨_, (), rfl, rfl, by show hW D dA classes b0 _ _ t.heap; rw [ht]; exact hw⟩, hS.F ht⟩) hS.2.2 d_MacroExpandModel_isThere_58
      · rw [if_pos c47] at hrun
        exact j_50 h _ _ _ hrun hw hS (lv_sub hl [0] rfl)
  unfold f_MacroExpandModel_isThere at hrun
  refine lv_iload_n hx hb d_MacroExpandModel_isThere_0 rfl (lv_at hl 1 rfl) ?_
  refine lv_aload_n hx hb d_MacroExpandModel_isThere_1 rfl (lv_at hl 0 rfl) ?_
  replace hrun := hb_some hrun
  obtain ⟨v2, g2, hrun⟩ := hrun
  refine h_getI S (fun w q => hT w (i_MacroExpandModel w q)) hK (ci := 1) rfl 3 (by decide) (hT _ fl_MacroExpandModel_107) hw g2 d_MacroExpandModel_isThere_2 ?_
  refine lv_icmp_lt (tgt := 15) hx hb d_MacroExpandModel_isThere_5 (by decide) (fun c5 => ?_) (fun c5 => ?_)
  · rw [if_pos c5] at hrun
    refine lv_aload_n hx hb d_MacroExpandModel_isThere_15 rfl (lv_at hl 0 rfl) ?_
    refine lv_iload_n hx hb d_MacroExpandModel_isThere_16 rfl (lv_at hl 1 rfl) ?_
    replace hrun := hb_some hrun
    obtain ⟨c17, k17, hrun⟩ := hrun
    replace hrun := hb_some hrun
    obtain ⟨v17, g17, hrun⟩ := hrun
    refine h_ci (h_runV S (As := [.int i1]) (rest := []) (c_MacroExpandModel_macroAt l D dA b0 a0 i1 nx g17) (cwV 1 S.2.2.2.2 (h_good _ (h_in4 ml_MacroExpandModel_120 im_MacroExpandModel_macroAt se_MacroExpandModel_macroAt it_MacroExpandModel) cd_MacroExpandModel_macroAt) rfl rfl rfl (by decide +kernel) ⟨Nat.le_of_ble_eq_true rfl, Nat.le_of_ble_eq_true rfl⟩) hK hN hw (ci := 1) rfl k17 rfl hl.1 (lv_room (Nat.le_of_ble_eq_true rfl)) d_MacroExpandModel_isThere_17 ⟨Nat.le_refl _, Nat.le_refl _⟩) hS (fun H locs hw hS => ?_)
    refine lv_istore_n (lv' := [(3, .int v17), (0, .ref a0), (1, .int i1), (2, .int i2)]) hx hb d_MacroExpandModel_isThere_20 rfl hl (by decide) rfl (fun ls hl => ?_)
    refine lv_iload_n hx hb d_MacroExpandModel_isThere_21 rfl (lv_at hl 0 rfl) ?_
    refine lv_if_lt (tgt := 36) hx hb d_MacroExpandModel_isThere_22 (by decide) (fun c22 => ?_) (fun c22 => ?_)
    · rw [if_pos c22] at hrun
      exact j_36 i1 i2 h _ _ _ hrun hw hS (lv_sub hl [1, 2, 3] rfl)
    · rw [if_neg c22] at hrun
      refine lv_aload_n hx hb d_MacroExpandModel_isThere_25 rfl (lv_at hl 1 rfl) ?_
      replace hrun := hb_some hrun
      obtain ⟨v26, g26, hrun⟩ := hrun
      refine h_getR S (fun w q => hT w (i_MacroExpandModel w q)) hK (ci := 1) rfl 8 (by decide) (hT _ fl_MacroExpandModel_19) hw g26 d_MacroExpandModel_isThere_26 ?_
      refine lv_iload_n hx hb d_MacroExpandModel_isThere_29 rfl (lv_at hl 0 rfl) ?_
      replace hrun := hb_some hrun
      obtain ⟨p30, rfl, hrun⟩ := hrun
      replace hrun := hb_some hrun
      obtain ⟨v30, g30, hrun⟩ := hrun
      refine h_iald S hK (kd := 0) rfl hw g30 d_MacroExpandModel_isThere_30 ?_
      refine lv_iconst (v := (2 : Int32)) hx hb d_MacroExpandModel_isThere_31 (by decide) ?_
      refine lv_iand hx hb d_MacroExpandModel_isThere_32 ?_
      refine lv_if_ne (tgt := 50) hx hb d_MacroExpandModel_isThere_33 (by decide) (fun c33 => ?_) (fun c33 => ?_)
      · rw [if_neg c33] at hrun
        exact j_50 h _ _ _ hrun hw hS (lv_sub hl [1] rfl)
      · rw [if_pos c33] at hrun
        exact j_36 i1 i2 h _ _ _ hrun hw hS (lv_sub hl [1, 2, 3] rfl)
  · rw [if_neg c5] at hrun
    refine lv_aload_n hx hb d_MacroExpandModel_isThere_8 rfl (lv_at hl 0 rfl) ?_
    refine lv_iconst (v := (1 : Int32)) hx hb d_MacroExpandModel_isThere_9 (by decide) ?_
    replace hrun := hb_some hrun
    obtain ⟨c10, k10, hrun⟩ := hrun
    replace hrun := hbW_some hrun
    obtain ⟨_u10, h10, g10, hrun⟩ := hrun
    refine h_cv (h_runV S (As := [.int (1 : Int32)]) (rest := []) (c_MacroExpandModel_mark l D dA b0 a0 (1 : Int32) nx g10) (cwV 1 S.2.2.2.2 (h_good _ (h_in4 ml_MacroExpandModel_123 im_MacroExpandModel_mark se_MacroExpandModel_mark it_MacroExpandModel) cd_MacroExpandModel_mark) rfl rfl rfl (by decide +kernel) ⟨Nat.le_of_ble_eq_true rfl, Nat.le_of_ble_eq_true rfl⟩) hK hN hw (ci := 1) rfl k10 rfl hl.1 (lv_room (Nat.le_of_ble_eq_true rfl)) d_MacroExpandModel_isThere_10 ⟨Nat.le_refl _, Nat.le_refl _⟩) hS (fun H locs hw hS => ?_)
    refine lv_iconst (v := (0 : Int32)) hx hb d_MacroExpandModel_isThere_13 (by decide) ?_
    cases hrun
    exact W.zret hx hb hr (by decide) (fun t ht hW9 => ⟨⟨_, (), rfl, rfl, by show hW D dA classes b0 _ _ t.heap; rw [ht]; exact hw⟩, hS.F ht⟩) hS.2.2 d_MacroExpandModel_isThere_14
set_option maxHeartbeats 4000000 in
set_option maxRecDepth 100000 in
theorem c_MacroExpandModel_rowComes (l : Launch) (D : va_G) (dA : Nat → ClassId) (b0 : Nat) (n : Nat) (a0 : Nat) (i1 : Int32) (i2 : Int32) (nx : Nat) {h : hH} {r : Int32} (hrun : f_MacroExpandModel_rowComes n a0 i1 i2 h = some r) : Met l y_MacroExpandModel_rowComes w_MacroExpandModel_rowComes ({ frames := 1, cells := 0, slots := 0, locals := 21 } : Room) (va_Pc [.ref a0, .int i1, .int i2] (hB D dA b0 nx h)) (va_Qi (fun r' (_ : Unit) => r' = r) (fun (_ : Unit) t => hW D dA classes b0 nx h t.heap) (hA b0)) 0 0 (hA b0) := by
  refine Met.ofW (cc := b_MacroExpandModel_rowComes) (maxL := 5) (ret := (some .boolean)) (by decide) rfl ?_
  intro p e s m args below meth c s₁ B hml hv
  obtain ⟨rfl, hw, hK, hN⟩ := hv
  have hx := B.exec
  have hb := B.bytes
  have hr := B.returns
  have hlocks := B.notSynchronized
  have S : CallFix p m c b_MacroExpandModel_rowComes 5 s ([.ref a0, .int i1, .int i2] : List Value).toArray w_MacroExpandModel_rowComes R_MacroExpandModel := ⟨hx, hb, hml, findClass_of_methodNamed B.named, atoms_spec (ws := w_MacroExpandModel_rowComes) B.pre⟩
  have hT : ∀ w ∈ tbl, w ∈ w_MacroExpandModel_rowComes := fun _ q => List.mem_cons_of_mem _ q
  have hS : va_S (hA b0) s.heap s.heap [] := va_S.rf
  have hl := lv_entry ([.ref a0, .int i1, .int i2]) (n := 5) (Nat.le_of_ble_eq_true rfl)
  rw [lg_entry_eq]
  generalize (lg_sl ([.ref a0, .int i1, .int i2]) ++ List.replicate (5 - (lg_sl ([.ref a0, .int i1, .int i2])).length) Slot.unset).toArray = ls at hl ⊢
  have hl : lv_has ls 5 [(0, .ref a0), (1, .int i1), (2, .int i2)] := hl
  have l_24 : ∀ (x1 : Int32) (x2 : Int32) (n9 : Nat) (x9 : Int32 × Int32) (b9 : (Int32)) (H : Heap) (locs : List Loc) (ls : Array Slot), hloopR (f_MacroExpandModel_rowComes_b24 n a0 x1 x2 h) n9 x9 = some b9 → hW D dA classes b0 nx h H → va_S (hA b0) s.heap H locs → lv_has ls 5 (match x9 with | (x3, x4) => [(0, .ref a0), (1, .int x1), (2, .int x2), (3, .int x3), (4, .int x4)]) → (∀ (z3 : Int32), b9 = z3 → ∀ (H : Heap) (locs : List Loc) (ls : Array Slot), hW D dA classes b0 nx h H → va_S (hA b0) s.heap H locs → lv_has ls 5 [(3, .int z3)] → W p l e (headSpec w_MacroExpandModel_rowComes ({ frames := 1, cells := 0, slots := 0, locals := 21 } : Room)).room s m ([.ref a0, .int i1, .int i2] : List Value).toArray below meth c H locs 0 0 (MQ below (va_Qi (fun r' (_ : Unit) => r' = r) (fun (_ : Unit) t => hW D dA classes b0 nx h t.heap) (hA b0)) ([.ref a0, .int i1, .int i2] : List Value).toArray s 0 0 (hA b0)) (F0 m 75 ls [])) → W p l e (headSpec w_MacroExpandModel_rowComes ({ frames := 1, cells := 0, slots := 0, locals := 21 } : Room)).room s m ([.ref a0, .int i1, .int i2] : List Value).toArray below meth c H locs 0 0 (MQ below (va_Qi (fun r' (_ : Unit) => r' = r) (fun (_ : Unit) t => hW D dA classes b0 nx h t.heap) (hA b0)) ([.ref a0, .int i1, .int i2] : List Value).toArray s 0 0 (hA b0)) (F0 m 24 ls []) := by
    intro x1 x2 n9
    induction n9 with
    | zero =>
      intro x9 b9 H locs ls hrun
      cases hrun
    | succ n9 ih =>
      rintro ⟨x3, x4⟩ b9 H locs ls hrun hw hS hl k0
      have hl : lv_has ls 5 [(0, .ref a0), (1, .int x1), (2, .int x2), (3, .int x3), (4, .int x4)] := hl
      unfold hloopR at hrun
      obtain ⟨q9, hbody, hrun9⟩ := hb_some hrun
      have K0 : (∀ (z3 : Int32) (z4 : Int32), q9 = .inl (z3, z4) → ∀ (H : Heap) (locs : List Loc) (ls : Array Slot), hW D dA classes b0 nx h H → va_S (hA b0) s.heap H locs → lv_has ls 5 [(0, .ref a0), (1, .int x1), (2, .int x2), (3, .int z3), (4, .int z4)] → W p l e (headSpec w_MacroExpandModel_rowComes ({ frames := 1, cells := 0, slots := 0, locals := 21 } : Room)).room s m ([.ref a0, .int i1, .int i2] : List Value).toArray below meth c H locs 0 0 (MQ below (va_Qi (fun r' (_ : Unit) => r' = r) (fun (_ : Unit) t => hW D dA classes b0 nx h t.heap) (hA b0)) ([.ref a0, .int i1, .int i2] : List Value).toArray s 0 0 (hA b0)) (F0 m 24 ls [])) := by
        intro z3 z4 eq9 H locs ls hw hS hl
        subst eq9
        exact ih (z3, z4) b9 H locs ls hrun9 hw hS hl k0
      have K1 : (∀ (z3 : Int32), q9 = .inr z3 → ∀ (H : Heap) (locs : List Loc) (ls : Array Slot), hW D dA classes b0 nx h H → va_S (hA b0) s.heap H locs → lv_has ls 5 [(3, .int z3)] → W p l e (headSpec w_MacroExpandModel_rowComes ({ frames := 1, cells := 0, slots := 0, locals := 21 } : Room)).room s m ([.ref a0, .int i1, .int i2] : List Value).toArray below meth c H locs 0 0 (MQ below (va_Qi (fun r' (_ : Unit) => r' = r) (fun (_ : Unit) t => hW D dA classes b0 nx h t.heap) (hA b0)) ([.ref a0, .int i1, .int i2] : List Value).toArray s 0 0 (hA b0)) (F0 m 75 ls [])) := by
        intro z3 eq9 H locs ls hw hS hl
        subst eq9
        cases hrun9
        exact k0 _ rfl H locs ls hw hS hl
      clear hrun hrun9 ih k0
      have hrun := hbody
      clear hbody
      have j_68 : ∀  (x1 : Int32) (x2 : Int32) (x4 : Int32) (y0 : Int32) (q9 : (Int32 × Int32) ⊕ ((Int32))) (H : Heap) (locs : List Loc) (ls : Array Slot), f_MacroExpandModel_rowComes_j68 n a0 x1 x2 x4 y0 h = some q9 → hW D dA classes b0 nx h H → va_S (hA b0) s.heap H locs → lv_has ls 5 [(0, .ref a0), (1, .int x1), (2, .int x2), (4, .int x4)] → (∀ (z3 : Int32) (z4 : Int32), q9 = .inl (z3, z4) → ∀ (H : Heap) (locs : List Loc) (ls : Array Slot), hW D dA classes b0 nx h H → va_S (hA b0) s.heap H locs → lv_has ls 5 [(0, .ref a0), (1, .int x1), (2, .int x2), (3, .int z3), (4, .int z4)] → W p l e (headSpec w_MacroExpandModel_rowComes ({ frames := 1, cells := 0, slots := 0, locals := 21 } : Room)).room s m ([.ref a0, .int i1, .int i2] : List Value).toArray below meth c H locs 0 0 (MQ below (va_Qi (fun r' (_ : Unit) => r' = r) (fun (_ : Unit) t => hW D dA classes b0 nx h t.heap) (hA b0)) ([.ref a0, .int i1, .int i2] : List Value).toArray s 0 0 (hA b0)) (F0 m 24 ls [])) → (∀ (z3 : Int32), q9 = .inr z3 → ∀ (H : Heap) (locs : List Loc) (ls : Array Slot), hW D dA classes b0 nx h H → va_S (hA b0) s.heap H locs → lv_has ls 5 [(3, .int z3)] → W p l e (headSpec w_MacroExpandModel_rowComes ({ frames := 1, cells := 0, slots := 0, locals := 21 } : Room)).room s m ([.ref a0, .int i1, .int i2] : List Value).toArray below meth c H locs 0 0 (MQ below (va_Qi (fun r' (_ : Unit) => r' = r) (fun (_ : Unit) t => hW D dA classes b0 nx h t.heap) (hA b0)) ([.ref a0, .int i1, .int i2] : List Value).toArray s 0 0 (hA b0)) (F0 m 75 ls [])) → W p l e (headSpec w_MacroExpandModel_rowComes ({ frames := 1, cells := 0, slots := 0, locals := 21 } : Room)).room s m ([.ref a0, .int i1, .int i2] : List Value).toArray below meth c H locs 0 0 (MQ below (va_Qi (fun r' (_ : Unit) => r' = r) (fun (_ : Unit) t => hW D dA classes b0 nx h t.heap) (hA b0)) ([.ref a0, .int i1, .int i2] : List Value).toArray s 0 0 (hA b0)) (F0 m 68 ls [.int y0]) := by
        intro x1 x2 x4 y0 q9 H locs ls hrun hw hS hl k0 k1
        unfold f_MacroExpandModel_rowComes_j68 at hrun
        refine lv_istore_n (lv' := [(3, .int y0), (0, .ref a0), (1, .int x1), (2, .int x2), (4, .int x4)]) hx hb d_MacroExpandModel_rowComes_68 rfl hl (by decide) rfl (fun ls hl => ?_)
        refine lv_iinc (v := (x4 + (1 : Int32))) (lv' := [(4, .int (x4 + (1 : Int32))), (3, .int y0), (0, .ref a0), (1, .int x1), (2, .int x2)]) hx hb d_MacroExpandModel_rowComes_69 hl (k := 4) rfl rfl (by decide) rfl (fun ls hl => ?_)
        refine lv_goto (tgt := 24) hx hb d_MacroExpandModel_rowComes_72 (by decide) ?_
        cases hrun
        exact k0 y0 (x4 + (1 : Int32)) rfl H locs ls hw hS (lv_sub hl [2, 3, 4, 1, 0] rfl)
      dsimp only [f_MacroExpandModel_rowComes_b24] at hrun
      refine lv_iload hx hb d_MacroExpandModel_rowComes_24 (lv_at hl 4 rfl) ?_
      refine lv_aload_n hx hb d_MacroExpandModel_rowComes_26 rfl (lv_at hl 0 rfl) ?_
      replace hrun := hb_some hrun
      obtain ⟨v27, g27, hrun⟩ := hrun
      refine h_getR S (fun w q => hT w (i_MacroExpandModel w q)) hK (ci := 1) rfl 11 (by decide) (hT _ fl_MacroExpandModel_28) hw g27 d_MacroExpandModel_rowComes_27 ?_
      refine lv_iload_n hx hb d_MacroExpandModel_rowComes_30 rfl (lv_at hl 1 rfl) ?_
      replace hrun := hb_some hrun
      obtain ⟨p31, rfl, hrun⟩ := hrun
      replace hrun := hb_some hrun
      obtain ⟨v31, g31, hrun⟩ := hrun
      refine h_iald S hK (kd := 0) rfl hw g31 d_MacroExpandModel_rowComes_31 ?_
      refine lv_icmp_ge (tgt := 75) hx hb d_MacroExpandModel_rowComes_32 (by decide) (fun c32 => ?_) (fun c32 => ?_)
      · rw [if_pos c32] at hrun
        cases hrun
        exact K1 x3 rfl H locs ls hw hS (lv_sub hl [3] rfl)
      · rw [if_neg c32] at hrun
        refine lv_iload_n hx hb d_MacroExpandModel_rowComes_35 rfl (lv_at hl 3 rfl) ?_
        refine lv_if_eq (tgt := 75) hx hb d_MacroExpandModel_rowComes_36 (by decide) (fun c36 => ?_) (fun c36 => ?_)
        · rw [if_pos c36] at hrun
          cases hrun
          exact K1 x3 rfl H locs ls hw hS (lv_sub hl [3] rfl)
        · rw [if_neg c36] at hrun
          refine lv_aload_n hx hb d_MacroExpandModel_rowComes_39 rfl (lv_at hl 0 rfl) ?_
          refine lv_iload_n hx hb d_MacroExpandModel_rowComes_40 rfl (lv_at hl 2 rfl) ?_
          refine lv_iload hx hb d_MacroExpandModel_rowComes_41 (lv_at hl 4 rfl) ?_
          refine lv_iadd hx hb d_MacroExpandModel_rowComes_43 ?_
          replace hrun := hb_some hrun
          obtain ⟨c44, k44, hrun⟩ := hrun
          replace hrun := hb_some hrun
          obtain ⟨v44, g44, hrun⟩ := hrun
          refine h_ci (h_runV S (As := [.int (x2 + x4)]) (rest := []) (c_MacroExpandModel_get l D dA b0 a0 (x2 + x4) nx g44) (cwV 1 S.2.2.2.2 (h_good _ (h_in4 ml_MacroExpandModel_116 im_MacroExpandModel_get se_MacroExpandModel_get it_MacroExpandModel) cd_MacroExpandModel_get) rfl rfl rfl (by decide +kernel) ⟨Nat.le_of_ble_eq_true rfl, Nat.le_of_ble_eq_true rfl⟩) hK hN hw (ci := 1) rfl k44 rfl hl.1 (lv_room (Nat.le_of_ble_eq_true rfl)) d_MacroExpandModel_rowComes_44 ⟨Nat.le_refl _, Nat.le_refl _⟩) hS (fun H locs hw hS => ?_)
          refine lv_aload_n hx hb d_MacroExpandModel_rowComes_47 rfl (lv_at hl 0 rfl) ?_
          replace hrun := hb_some hrun
          obtain ⟨v48, g48, hrun⟩ := hrun
          refine h_getR S (fun w q => hT w (i_MacroExpandModel w q)) hK (ci := 1) rfl 12 (by decide) (hT _ fl_MacroExpandModel_32) hw g48 d_MacroExpandModel_rowComes_48 ?_
          refine lv_sipush (v := (200 : Int32)) hx hb d_MacroExpandModel_rowComes_51 (by decide) ?_
          refine lv_iload_n hx hb d_MacroExpandModel_rowComes_54 rfl (lv_at hl 1 rfl) ?_
          refine lv_imul hx hb d_MacroExpandModel_rowComes_55 ?_
          refine lv_iload hx hb d_MacroExpandModel_rowComes_56 (lv_at hl 4 rfl) ?_
          refine lv_iadd hx hb d_MacroExpandModel_rowComes_58 ?_
          replace hrun := hb_some hrun
          obtain ⟨p59, rfl, hrun⟩ := hrun
          replace hrun := hb_some hrun
          obtain ⟨v59, g59, hrun⟩ := hrun
          refine h_iald S hK (kd := 0) rfl hw g59 d_MacroExpandModel_rowComes_59 ?_
          refine lv_icmp_ne (tgt := 67) hx hb d_MacroExpandModel_rowComes_60 (by decide) (fun c60 => ?_) (fun c60 => ?_)
          · rw [if_neg c60] at hrun
            refine lv_iconst (v := (0 : Int32)) hx hb d_MacroExpandModel_rowComes_67 (by decide) ?_
            exact j_68 x1 x2 x4 (0 : Int32) _ _ _ _ hrun hw hS (lv_sub hl [0, 1, 2, 4] rfl) K0 K1
          · rw [if_pos c60] at hrun
            refine lv_iconst (v := (1 : Int32)) hx hb d_MacroExpandModel_rowComes_63 (by decide) ?_
            refine lv_goto (tgt := 68) hx hb d_MacroExpandModel_rowComes_64 (by decide) ?_
            exact j_68 x1 x2 x4 (1 : Int32) _ _ _ _ hrun hw hS (lv_sub hl [0, 1, 2, 4] rfl) K0 K1
  have j_20 : ∀  (x1 : Int32) (x2 : Int32) (y0 : Int32) (H : Heap) (locs : List Loc) (ls : Array Slot), f_MacroExpandModel_rowComes_j20 n a0 x1 x2 y0 h = some r → hW D dA classes b0 nx h H → va_S (hA b0) s.heap H locs → lv_has ls 5 [(0, .ref a0), (1, .int x1), (2, .int x2)] → W p l e (headSpec w_MacroExpandModel_rowComes ({ frames := 1, cells := 0, slots := 0, locals := 21 } : Room)).room s m ([.ref a0, .int i1, .int i2] : List Value).toArray below meth c H locs 0 0 (MQ below (va_Qi (fun r' (_ : Unit) => r' = r) (fun (_ : Unit) t => hW D dA classes b0 nx h t.heap) (hA b0)) ([.ref a0, .int i1, .int i2] : List Value).toArray s 0 0 (hA b0)) (F0 m 20 ls [.int y0]) := by
    intro x1 x2 y0 H locs ls hrun hw hS hl
    unfold f_MacroExpandModel_rowComes_j20 at hrun
    refine lv_istore_n (lv' := [(3, .int y0), (0, .ref a0), (1, .int x1), (2, .int x2)]) hx hb d_MacroExpandModel_rowComes_20 rfl hl (by decide) rfl (fun ls hl => ?_)
    refine lv_iconst (v := (0 : Int32)) hx hb d_MacroExpandModel_rowComes_21 (by decide) ?_
    refine lv_istore (lv' := [(4, .int (0 : Int32)), (3, .int y0), (0, .ref a0), (1, .int x1), (2, .int x2)]) hx hb d_MacroExpandModel_rowComes_22 hl (by decide) rfl (fun ls hl => ?_)
    replace hrun := hb_some hrun
    obtain ⟨b24, g24, hrun⟩ := hrun
    refine l_24 x1 x2 n (y0, (0 : Int32)) _ _ _ _ g24 hw hS (lv_sub hl [2, 3, 4, 1, 0] rfl) ?_
    · rintro x3_24 eq9 H locs ls hw hS hl
      obtain rfl := eq9.symm
      try dsimp only at hrun
      refine lv_iload_n hx hb d_MacroExpandModel_rowComes_75 rfl (lv_at hl 0 rfl) ?_
      have zz : x3_24 = 0 ∨ x3_24 = 1 := Classical.byContradiction fun q => by rw [if_neg q] at hrun; cases hrun
      rw [if_pos zz] at hrun
      cases hrun
      exact W.zret hx hb hr (h_narZ zz) (fun t ht hW9 => ⟨⟨_, (), rfl, rfl, by show hW D dA classes b0 _ _ t.heap; rw [ht]; exact hw⟩, hS.F ht⟩) hS.2.2 d_MacroExpandModel_rowComes_76
  unfold f_MacroExpandModel_rowComes at hrun
  refine lv_iload_n hx hb d_MacroExpandModel_rowComes_0 rfl (lv_at hl 2 rfl) ?_
  refine lv_aload_n hx hb d_MacroExpandModel_rowComes_1 rfl (lv_at hl 0 rfl) ?_
  replace hrun := hb_some hrun
  obtain ⟨v2, g2, hrun⟩ := hrun
  refine h_getR S (fun w q => hT w (i_MacroExpandModel w q)) hK (ci := 1) rfl 11 (by decide) (hT _ fl_MacroExpandModel_28) hw g2 d_MacroExpandModel_rowComes_2 ?_
  refine lv_iload_n hx hb d_MacroExpandModel_rowComes_5 rfl (lv_at hl 1 rfl) ?_
  replace hrun := hb_some hrun
  obtain ⟨p6, rfl, hrun⟩ := hrun
  replace hrun := hb_some hrun
  obtain ⟨v6, g6, hrun⟩ := hrun
  refine h_iald S hK (kd := 0) rfl hw g6 d_MacroExpandModel_rowComes_6 ?_
  refine lv_iadd hx hb d_MacroExpandModel_rowComes_7 ?_
  refine lv_aload_n hx hb d_MacroExpandModel_rowComes_8 rfl (lv_at hl 0 rfl) ?_
  replace hrun := hb_some hrun
  obtain ⟨v9, g9, hrun⟩ := hrun
  refine h_getI S (fun w q => hT w (i_MacroExpandModel w q)) hK (ci := 1) rfl 3 (by decide) (hT _ fl_MacroExpandModel_107) hw g9 d_MacroExpandModel_rowComes_9 ?_
  refine lv_icmp_gt (tgt := 19) hx hb d_MacroExpandModel_rowComes_12 (by decide) (fun c12 => ?_) (fun c12 => ?_)
  · rw [if_pos c12] at hrun
    refine lv_iconst (v := (0 : Int32)) hx hb d_MacroExpandModel_rowComes_19 (by decide) ?_
    exact j_20 i1 i2 (0 : Int32) _ _ _ hrun hw hS (lv_sub hl [0, 1, 2] rfl)
  · rw [if_neg c12] at hrun
    refine lv_iconst (v := (1 : Int32)) hx hb d_MacroExpandModel_rowComes_15 (by decide) ?_
    refine lv_goto (tgt := 20) hx hb d_MacroExpandModel_rowComes_16 (by decide) ?_
    exact j_20 i1 i2 (1 : Int32) _ _ _ hrun hw hS (lv_sub hl [0, 1, 2] rfl)
set_option maxHeartbeats 4000000 in
set_option maxRecDepth 100000 in
theorem c_MacroExpandModel_give (l : Launch) (D : va_G) (dA : Nat → ClassId) (b0 : Nat) (a0 : Nat) (i1 : Int32) (i2 : Int32) (nx : Nat) {h h' : hH} {r : Unit} (hrun : f_MacroExpandModel_give a0 i1 i2 h = some (r, h')) : Met l y_MacroExpandModel_give w_MacroExpandModel_give ({ frames := 1, cells := 0, slots := 0, locals := 21 } : Room) (va_Pc [.ref a0, .int i1, .int i2] (hB D dA b0 nx h)) (va_Qv (fun (_ : Unit) => True) (fun (_ : Unit) t => hW D dA classes b0 nx h' t.heap) (hA b0)) 0 0 (hA b0) := by
  refine Met.ofW (cc := b_MacroExpandModel_give) (maxL := 3) (ret := none) (by decide) rfl ?_
  intro p e s m args below meth c s₁ B hml hv
  obtain ⟨rfl, hw, hK, hN⟩ := hv
  have hx := B.exec
  have hb := B.bytes
  have hr := B.returns
  have hlocks := B.notSynchronized
  have S : CallFix p m c b_MacroExpandModel_give 3 s ([.ref a0, .int i1, .int i2] : List Value).toArray w_MacroExpandModel_give R_MacroExpandModel := ⟨hx, hb, hml, findClass_of_methodNamed B.named, atoms_spec (ws := w_MacroExpandModel_give) B.pre⟩
  have hT : ∀ w ∈ tbl, w ∈ w_MacroExpandModel_give := fun _ q => List.mem_cons_of_mem _ q
  have hS : va_S (hA b0) s.heap s.heap [] := va_S.rf
  have hl := lv_entry ([.ref a0, .int i1, .int i2]) (n := 3) (Nat.le_of_ble_eq_true rfl)
  rw [lg_entry_eq]
  generalize (lg_sl ([.ref a0, .int i1, .int i2]) ++ List.replicate (3 - (lg_sl ([.ref a0, .int i1, .int i2])).length) Slot.unset).toArray = ls at hl ⊢
  have hl : lv_has ls 3 [(0, .ref a0), (1, .int i1), (2, .int i2)] := hl
  unfold f_MacroExpandModel_give at hrun
  refine lv_aload_n hx hb d_MacroExpandModel_give_0 rfl (lv_at hl 0 rfl) ?_
  replace hrun := hb_some hrun
  obtain ⟨v1, g1, hrun⟩ := hrun
  refine h_getR S (fun w q => hT w (i_MacroExpandModel w q)) hK (ci := 1) rfl 19 (by decide) (hT _ fl_MacroExpandModel_47) hw g1 d_MacroExpandModel_give_1 ?_
  refine lv_iload_n hx hb d_MacroExpandModel_give_4 rfl (lv_at hl 1 rfl) ?_
  replace hrun := hb_some hrun
  obtain ⟨p5, rfl, hrun⟩ := hrun
  replace hrun := hb_some hrun
  obtain ⟨v5, g5, hrun⟩ := hrun
  refine h_iald S hK (kd := 0) rfl hw g5 d_MacroExpandModel_give_5 ?_
  refine lv_sipush (v := (400 : Int32)) hx hb d_MacroExpandModel_give_6 (by decide) ?_
  refine lv_icmp_ne (tgt := 19) hx hb d_MacroExpandModel_give_9 (by decide) (fun c9 => ?_) (fun c9 => ?_)
  · rw [if_neg c9] at hrun
    refine lv_aload_n hx hb d_MacroExpandModel_give_19 rfl (lv_at hl 0 rfl) ?_
    replace hrun := hb_some hrun
    obtain ⟨v20, g20, hrun⟩ := hrun
    refine h_getR S (fun w q => hT w (i_MacroExpandModel w q)) hK (ci := 1) rfl 20 (by decide) (hT _ fl_MacroExpandModel_50) hw g20 d_MacroExpandModel_give_20 ?_
    refine lv_sipush (v := (400 : Int32)) hx hb d_MacroExpandModel_give_23 (by decide) ?_
    refine lv_iload_n hx hb d_MacroExpandModel_give_26 rfl (lv_at hl 1 rfl) ?_
    refine lv_imul hx hb d_MacroExpandModel_give_27 ?_
    refine lv_aload_n hx hb d_MacroExpandModel_give_28 rfl (lv_at hl 0 rfl) ?_
    replace hrun := hb_some hrun
    obtain ⟨v29, g29, hrun⟩ := hrun
    refine h_getR S (fun w q => hT w (i_MacroExpandModel w q)) hK (ci := 1) rfl 19 (by decide) (hT _ fl_MacroExpandModel_47) hw g29 d_MacroExpandModel_give_29 ?_
    refine lv_iload_n hx hb d_MacroExpandModel_give_32 rfl (lv_at hl 1 rfl) ?_
    replace hrun := hb_some hrun
    obtain ⟨p33, rfl, hrun⟩ := hrun
    replace hrun := hb_some hrun
    obtain ⟨v33, g33, hrun⟩ := hrun
    refine h_iald S hK (kd := 0) rfl hw g33 d_MacroExpandModel_give_33 ?_
    refine lv_iadd hx hb d_MacroExpandModel_give_34 ?_
    refine lv_iload_n hx hb d_MacroExpandModel_give_35 rfl (lv_at hl 2 rfl) ?_
    replace hrun := hb_some hrun
    obtain ⟨p36, rfl, hrun⟩ := hrun
    replace hrun := hb_some hrun
    obtain ⟨h36, g36, hrun⟩ := hrun
    refine h_iast S hK (kd := 0) rfl hw hS g36 d_MacroExpandModel_give_36 (fun H locs hw hS => ?_)
    refine lv_aload_n hx hb d_MacroExpandModel_give_37 rfl (lv_at hl 0 rfl) ?_
    replace hrun := hb_some hrun
    obtain ⟨v38, g38, hrun⟩ := hrun
    refine h_getR S (fun w q => hT w (i_MacroExpandModel w q)) hK (ci := 1) rfl 19 (by decide) (hT _ fl_MacroExpandModel_47) hw g38 d_MacroExpandModel_give_38 ?_
    refine lv_iload_n hx hb d_MacroExpandModel_give_41 rfl (lv_at hl 1 rfl) ?_
    refine lv_dup2_11 hx hb d_MacroExpandModel_give_42 rfl (h_cat _) ?_
    replace hrun := hb_some hrun
    obtain ⟨p43, rfl, hrun⟩ := hrun
    replace hrun := hb_some hrun
    obtain ⟨v43, g43, hrun⟩ := hrun
    refine h_iald S hK (kd := 0) rfl hw g43 d_MacroExpandModel_give_43 ?_
    refine lv_iconst (v := (1 : Int32)) hx hb d_MacroExpandModel_give_44 (by decide) ?_
    refine lv_iadd hx hb d_MacroExpandModel_give_45 ?_
    replace hrun := hb_some hrun
    obtain ⟨h46, g46, hrun⟩ := hrun
    refine h_iast S hK (kd := 0) rfl hw hS g46 d_MacroExpandModel_give_46 (fun H locs hw hS => ?_)
    cases hrun
    exact W.vret hx hb hr (fun t ht hW9 => ⟨⟨(), rfl, trivial, by show hW D dA classes b0 _ _ t.heap; rw [ht]; exact hw⟩, hS.F ht⟩) hS.2.2 d_MacroExpandModel_give_47
  · rw [if_pos c9] at hrun
    refine lv_aload_n hx hb d_MacroExpandModel_give_12 rfl (lv_at hl 0 rfl) ?_
    refine lv_bipush (v := (8 : Int32)) hx hb d_MacroExpandModel_give_13 (by decide) ?_
    replace hrun := hb_some hrun
    obtain ⟨c15, k15, hrun⟩ := hrun
    replace hrun := hbW_some hrun
    obtain ⟨_u15, h15, g15, hrun⟩ := hrun
    refine h_cv (h_runV S (As := [.int (8 : Int32)]) (rest := []) (c_MacroExpandModel_mark l D dA b0 a0 (8 : Int32) nx g15) (cwV 1 S.2.2.2.2 (h_good _ (h_in4 ml_MacroExpandModel_123 im_MacroExpandModel_mark se_MacroExpandModel_mark it_MacroExpandModel) cd_MacroExpandModel_mark) rfl rfl rfl (by decide +kernel) ⟨Nat.le_of_ble_eq_true rfl, Nat.le_of_ble_eq_true rfl⟩) hK hN hw (ci := 1) rfl k15 rfl hl.1 (lv_room (Nat.le_of_ble_eq_true rfl)) d_MacroExpandModel_give_15 ⟨Nat.le_refl _, Nat.le_refl _⟩) hS (fun H locs hw hS => ?_)
    cases hrun
    exact W.vret hx hb hr (fun t ht hW9 => ⟨⟨(), rfl, trivial, by show hW D dA classes b0 _ _ t.heap; rw [ht]; exact hw⟩, hS.F ht⟩) hS.2.2 d_MacroExpandModel_give_18
