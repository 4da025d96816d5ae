set_option maxHeartbeats 4000000 in
set_option maxRecDepth 100000 in
theorem c_Input_put (l : Launch) (D : va_G) (dA : Nat → ClassId) (b0 : Nat) (a0 : Nat) (i1 : Int32) (nx : Nat) {h h' : hH} {r : Unit} (hrun : f_Input_put a0 i1 h = some (r, h')) : Met l y_Input_put w_Input_put ({ frames := 0, cells := 0, slots := 0, locals := 0 } : Room) (va_Pc [.ref a0, .int i1] (hB D dA b0 nx h)) (va_Qv (fun (_ : Unit) => True) (fun (_ : Unit) t => hW D dA classes b0 nx h' t.heap) (hA b0)) 0 0 (hA b0) := by
  refine Met.ofW (cc := b_Input_put) (maxL := 2) (ret := none) (by decide) rfl ?_
  intro p e s m args below meth c s₁ B hml hv
  obtain ⟨rfl, hw, hK, hN⟩ := hv
  have hx := B.exec
  have hb := B.bytes
  have hr := B.returns
  have hlocks := B.notSynchronized
  have S : CallFix p m c b_Input_put 2 s ([.ref a0, .int i1] : List Value).toArray w_Input_put R_Input := ⟨hx, hb, hml, findClass_of_methodNamed B.named, atoms_spec (ws := w_Input_put) B.pre⟩
  have hT : ∀ w ∈ tbl, w ∈ w_Input_put := fun _ q => List.mem_cons_of_mem _ q
  have hS : va_S (hA b0) s.heap s.heap [] := va_S.rf
  have hl := lv_entry ([.ref a0, .int i1]) (n := 2) (Nat.le_of_ble_eq_true rfl)
  rw [lg_entry_eq]
  generalize (lg_sl ([.ref a0, .int i1]) ++ List.replicate (2 - (lg_sl ([.ref a0, .int i1])).length) Slot.unset).toArray = ls at hl ⊢
  have hl : lv_has ls 2 [(0, .ref a0), (1, .int i1)] := hl
  unfold f_Input_put at hrun
  refine lv_aload_n hx hb d_Input_put_0 rfl (lv_at hl 0 rfl) ?_
  replace hrun := hb_some hrun
  obtain ⟨v1, g1, hrun⟩ := hrun
  refine h_getI S (fun w q => hT w (i_Input w q)) hK (ci := 6) rfl 1 (by decide) (hT _ fl_Input_15) hw g1 d_Input_put_1 ?_
  refine lv_sipush (v := (3000 : Int32)) hx hb d_Input_put_4 (by decide) ?_
  refine lv_icmp_ge (tgt := 30) hx hb d_Input_put_7 (by decide) (fun c7 => ?_) (fun c7 => ?_)
  · rw [if_pos c7] at hrun
    cases hrun
    exact W.vret hx hb hr (fun t ht hW9 => ⟨⟨(), rfl, trivial, by show hW D dA classes b0 _ _ t.heap; rw [ht]; exact hw⟩, hS.F ht⟩) hS.2.2 d_Input_put_30
  · rw [if_neg c7] at hrun
    refine lv_aload_n hx hb d_Input_put_10 rfl (lv_at hl 0 rfl) ?_
    replace hrun := hb_some hrun
    obtain ⟨v11, g11, hrun⟩ := hrun
    refine h_getR S (fun w q => hT w (i_Input w q)) hK (ci := 6) rfl 0 (by decide) (hT _ fl_Input_9) hw g11 d_Input_put_11 ?_
    refine lv_aload_n hx hb d_Input_put_14 rfl (lv_at hl 0 rfl) ?_
    replace hrun := hb_some hrun
    obtain ⟨v15, g15, hrun⟩ := hrun
    refine h_getI S (fun w q => hT w (i_Input w q)) hK (ci := 6) rfl 1 (by decide) (hT _ fl_Input_15) hw g15 d_Input_put_15 ?_
    refine lv_iload_n hx hb d_Input_put_18 rfl (lv_at hl 1 rfl) ?_
    replace hrun := hb_some hrun
    obtain ⟨p19, rfl, hrun⟩ := hrun
    replace hrun := hb_some hrun
    obtain ⟨h19, g19, hrun⟩ := hrun
    refine h_iast S hK (kd := 0) rfl hw hS g19 d_Input_put_19 (fun H locs hw hS => ?_)
    refine lv_aload_n hx hb d_Input_put_20 rfl (lv_at hl 0 rfl) ?_
    refine lv_dup hx hb d_Input_put_21 rfl ?_
    replace hrun := hb_some hrun
    obtain ⟨v22, g22, hrun⟩ := hrun
    refine h_getI S (fun w q => hT w (i_Input w q)) hK (ci := 6) rfl 1 (by decide) (hT _ fl_Input_15) hw g22 d_Input_put_22 ?_
    refine lv_iconst (v := (1 : Int32)) hx hb d_Input_put_25 (by decide) ?_
    refine lv_iadd hx hb d_Input_put_26 ?_
    replace hrun := hb_some hrun
    obtain ⟨h27, g27, hrun⟩ := hrun
    refine h_put S (fun w q => hT w (i_Input w q)) t_Input t_Input_ok n_Input hK (ci := 6) rfl 1 (by decide) (hT _ fl_Input_15) rfl rfl rfl hw hS g27 d_Input_put_27 (fun H locs hw hS => ?_)
    cases hrun
    exact W.vret hx hb hr (fun t ht hW9 => ⟨⟨(), rfl, trivial, by show hW D dA classes b0 _ _ t.heap; rw [ht]; exact hw⟩, hS.F ht⟩) hS.2.2 d_Input_put_30
set_option maxHeartbeats 4000000 in
set_option maxRecDepth 100000 in
theorem c_Input_putAll (l : Launch) (D : va_G) (dA : Nat → ClassId) (b0 : Nat) (n : Nat) (a0 : Nat) (a1 : Nat) (nx : Nat) {h h' : hH} {r : Unit} (hrun : f_Input_putAll n a0 a1 h = some (r, h')) : Met l y_Input_putAll w_Input_putAll ({ frames := 1, cells := 0, slots := 0, locals := 21 } : Room) (va_Pc [.ref a0, .ref a1] (hB D dA b0 nx h)) (va_Qv (fun (_ : Unit) => True) (fun (_ : Unit) t => hW D dA classes b0 nx h' t.heap) (hA b0)) 0 0 (hA b0) := by
  refine Met.ofW (cc := b_Input_putAll) (maxL := 3) (ret := none) (by decide) rfl ?_
  intro p e s m args below meth c s₁ B hml hv
  obtain ⟨rfl, hw, hK, hN⟩ := hv
  have hx := B.exec
  have hb := B.bytes
  have hr := B.returns
  have hlocks := B.notSynchronized
  have S : CallFix p m c b_Input_putAll 3 s ([.ref a0, .ref a1] : List Value).toArray w_Input_putAll R_Input := ⟨hx, hb, hml, findClass_of_methodNamed B.named, atoms_spec (ws := w_Input_putAll) B.pre⟩
  have hT : ∀ w ∈ tbl, w ∈ w_Input_putAll := fun _ q => List.mem_cons_of_mem _ q
  have hS : va_S (hA b0) s.heap s.heap [] := va_S.rf
  have hl := lv_entry ([.ref a0, .ref a1]) (n := 3) (Nat.le_of_ble_eq_true rfl)
  rw [lg_entry_eq]
  generalize (lg_sl ([.ref a0, .ref a1]) ++ List.replicate (3 - (lg_sl ([.ref a0, .ref a1])).length) Slot.unset).toArray = ls at hl ⊢
  have hl : lv_has ls 3 [(0, .ref a0), (1, .ref a1)] := hl
  have l_7 : ∀ (n9 : Nat) (x9 : Int32) (h : hH) (b9 : (Unit)) (h9 : hH) (H : Heap) (locs : List Loc) (ls : Array Slot), hloopW (f_Input_putAll_b7 n a0 a1) n9 x9 h = some (b9, h9) → hW D dA classes b0 nx h H → va_S (hA b0) s.heap H locs → lv_has ls 3 (match x9 with | x2 => [(0, .ref a0), (1, .ref a1), (2, .int x2)]) → (b9 = () → ∀ (H : Heap) (locs : List Loc) (ls : Array Slot), hW D dA classes b0 nx h9 H → va_S (hA b0) s.heap H locs → lv_has ls 3 [] → W p l e (headSpec w_Input_putAll ({ frames := 1, cells := 0, slots := 0, locals := 21 } : Room)).room s m ([.ref a0, .ref a1] : List Value).toArray below meth c H locs 0 0 (MQ below (va_Qv (fun (_ : Unit) => True) (fun (_ : Unit) t => hW D dA classes b0 nx h' t.heap) (hA b0)) ([.ref a0, .ref a1] : List Value).toArray s 0 0 (hA b0)) (F0 m 26 ls [])) → W p l e (headSpec w_Input_putAll ({ frames := 1, cells := 0, slots := 0, locals := 21 } : Room)).room s m ([.ref a0, .ref a1] : List Value).toArray below meth c H locs 0 0 (MQ below (va_Qv (fun (_ : Unit) => True) (fun (_ : Unit) t => hW D dA classes b0 nx h' t.heap) (hA b0)) ([.ref a0, .ref a1] : List Value).toArray s 0 0 (hA b0)) (F0 m 7 ls []) := by
    intro  n9
    induction n9 with
    | zero =>
      intro x9 h b9 h9 H locs ls hrun
      cases hrun
    | succ n9 ih =>
      rintro x2 h b9 h9 H locs ls hrun hw hS hl k0
      have hl : lv_has ls 3 [(0, .ref a0), (1, .ref a1), (2, .int x2)] := hl
      unfold hloopW at hrun
      obtain ⟨q9, h9b, hbody, hrun9⟩ := hbW_some hrun
      have K0 : (∀ (z2 : Int32), q9 = .inl z2 → ∀ (H : Heap) (locs : List Loc) (ls : Array Slot), hW D dA classes b0 nx h9b H → va_S (hA b0) s.heap H locs → lv_has ls 3 [(0, .ref a0), (1, .ref a1), (2, .int z2)] → W p l e (headSpec w_Input_putAll ({ frames := 1, cells := 0, slots := 0, locals := 21 } : Room)).room s m ([.ref a0, .ref a1] : List Value).toArray below meth c H locs 0 0 (MQ below (va_Qv (fun (_ : Unit) => True) (fun (_ : Unit) t => hW D dA classes b0 nx h' t.heap) (hA b0)) ([.ref a0, .ref a1] : List Value).toArray s 0 0 (hA b0)) (F0 m 7 ls [])) := by
        intro z2 eq9 H locs ls hw hS hl
        subst eq9
        exact ih z2 h9b b9 h9 H locs ls hrun9 hw hS hl k0
      have K1 : (q9 = .inr () → ∀ (H : Heap) (locs : List Loc) (ls : Array Slot), hW D dA classes b0 nx h9b H → va_S (hA b0) s.heap H locs → lv_has ls 3 [] → W p l e (headSpec w_Input_putAll ({ frames := 1, cells := 0, slots := 0, locals := 21 } : Room)).room s m ([.ref a0, .ref a1] : List Value).toArray below meth c H locs 0 0 (MQ below (va_Qv (fun (_ : Unit) => True) (fun (_ : Unit) t => hW D dA classes b0 nx h' t.heap) (hA b0)) ([.ref a0, .ref a1] : List Value).toArray s 0 0 (hA b0)) (F0 m 26 ls [])) := by
        intro  eq9 H locs ls hw hS hl
        subst eq9
        cases hrun9
        exact k0  rfl H locs ls hw hS hl
      clear hrun hrun9 ih k0
      have hrun := hbody
      clear hbody
      dsimp only [f_Input_putAll_b7] at hrun
      refine lv_iload_n hx hb d_Input_putAll_7 rfl (lv_at hl 2 rfl) ?_
      refine lv_if_lt (tgt := 26) hx hb d_Input_putAll_8 (by decide) (fun c8 => ?_) (fun c8 => ?_)
      · rw [if_pos c8] at hrun
        cases hrun
        exact K1  rfl H locs ls hw hS (lv_sub hl [] rfl)
      · rw [if_neg c8] at hrun
        refine lv_aload_n hx hb d_Input_putAll_11 rfl (lv_at hl 0 rfl) ?_
        refine lv_aload_n hx hb d_Input_putAll_12 rfl (lv_at hl 1 rfl) ?_
        refine lv_iload_n hx hb d_Input_putAll_13 rfl (lv_at hl 2 rfl) ?_
        replace hrun := hb_some hrun
        obtain ⟨c14, k14, hrun⟩ := hrun
        replace hrun := hb_some hrun
        obtain ⟨v14, g14, hrun⟩ := hrun
        refine h_ci (h_runV S (As := [.int x2]) (rest := [.ref a0]) (c_Row_get l D dA b0 a1 x2 nx g14) (cwV 1 S.2.2.2.2 (h_good _ (h_in4 ml_Input_22 im_Row_get se_Row_get it_Row) cd_Row_get) rfl rfl rfl (by decide +kernel) ⟨Nat.le_of_ble_eq_true rfl, Nat.le_of_ble_eq_true rfl⟩) hK hN hw (ci := 8) rfl k14 rfl hl.1 (lv_room (Nat.le_of_ble_eq_true rfl)) d_Input_putAll_14 ⟨Nat.le_refl _, Nat.le_refl _⟩) hS (fun H locs hw hS => ?_)
        replace hrun := hb_some hrun
        obtain ⟨c17, k17, hrun⟩ := hrun
        replace hrun := hbW_some hrun
        obtain ⟨_u17, h17, g17, hrun⟩ := hrun
        refine h_cv (h_runV S (As := [.int v14]) (rest := []) (c_Input_put l D dA b0 a0 v14 nx g17) (cwV 1 S.2.2.2.2 (h_good _ (h_in4 ml_Input_26 im_Input_put se_Input_put it_Input) cd_Input_put) rfl rfl rfl (by decide +kernel) ⟨Nat.le_of_ble_eq_true rfl, Nat.le_of_ble_eq_true rfl⟩) hK hN hw (ci := 6) rfl k17 rfl hl.1 (lv_room (Nat.le_of_ble_eq_true rfl)) d_Input_putAll_17 ⟨Nat.le_refl _, Nat.le_refl _⟩) hS (fun H locs hw hS => ?_)
        refine lv_iinc (v := (x2 + (-1 : Int32))) (lv' := [(2, .int (x2 + (-1 : Int32))), (0, .ref a0), (1, .ref a1)]) hx hb d_Input_putAll_20 hl (k := 2) rfl rfl (by decide) rfl (fun ls hl => ?_)
        refine lv_goto (tgt := 7) hx hb d_Input_putAll_23 (by decide) ?_
        cases hrun
        exact K0 (x2 + (-1 : Int32)) rfl H locs ls hw hS (lv_sub hl [1, 2, 0] rfl)
  unfold f_Input_putAll at hrun
  refine lv_aload_n hx hb d_Input_putAll_0 rfl (lv_at hl 1 rfl) ?_
  replace hrun := hb_some hrun
  obtain ⟨v1, g1, hrun⟩ := hrun
  refine h_getNI S (fun w q => hT w (i_Row w q)) hK (ci := 8) rfl 2 (by decide) (hN.1 _ nf_Input_19) hw g1 d_Input_putAll_1 ?_
  refine lv_iconst (v := (1 : Int32)) hx hb d_Input_putAll_4 (by decide) ?_
  refine lv_isub hx hb d_Input_putAll_5 ?_
  refine lv_istore_n (lv' := [(2, .int (v1 - (1 : Int32))), (0, .ref a0), (1, .ref a1)]) hx hb d_Input_putAll_6 rfl hl (by decide) rfl (fun ls hl => ?_)
  replace hrun := hbW_some hrun
  obtain ⟨b7, h7l, g7, hrun⟩ := hrun
  refine l_7 n (v1 - (1 : Int32)) h _ _ _ _ _ g7 hw hS (lv_sub hl [1, 2, 0] rfl) ?_
  · rintro  eq9 H locs ls hw hS hl
    obtain rfl := eq9.symm
    try dsimp only at hrun
    cases hrun
    exact W.vret hx hb hr (fun t ht hW9 => ⟨⟨(), rfl, trivial, by show hW D dA classes b0 _ _ t.heap; rw [ht]; exact hw⟩, hS.F ht⟩) hS.2.2 d_Input_putAll_26
set_option maxHeartbeats 4000000 in
set_option maxRecDepth 100000 in
theorem c_Expander_putText (l : Launch) (D : va_G) (dA : Nat → ClassId) (b0 : Nat) (n : Nat) (a0 : Nat) (a1 : Nat) (nx : Nat) {h h' : hH} {r : Unit} (hrun : f_Expander_putText n a0 a1 h = some (r, h')) : Met l y_Expander_putText w_Expander_putText ({ frames := 2, cells := 0, slots := 0, locals := 43 } : Room) (va_Pc [.ref a0, .ref a1] (hB D dA b0 nx h)) (va_Qv (fun (_ : Unit) => True) (fun (_ : Unit) t => hW D dA classes b0 nx h' t.heap) (hA b0)) 0 0 (hA b0) := by
  refine Met.ofW (cc := b_Expander_putText) (maxL := 5) (ret := none) (by decide) rfl ?_
  intro p e s m args below meth c s₁ B hml hv
  obtain ⟨rfl, hw, hK, hN⟩ := hv
  have hx := B.exec
  have hb := B.bytes
  have hr := B.returns
  have hlocks := B.notSynchronized
  have S : CallFix p m c b_Expander_putText 5 s ([.ref a0, .ref a1] : List Value).toArray w_Expander_putText R_Expander := ⟨hx, hb, hml, findClass_of_methodNamed B.named, atoms_spec (ws := w_Expander_putText) B.pre⟩
  have hT : ∀ w ∈ tbl, w ∈ w_Expander_putText := fun _ q => List.mem_cons_of_mem _ q
  have hS : va_S (hA b0) s.heap s.heap [] := va_S.rf
  have hl := lv_entry ([.ref a0, .ref a1]) (n := 5) (Nat.le_of_ble_eq_true rfl)
  rw [lg_entry_eq]
  generalize (lg_sl ([.ref a0, .ref a1]) ++ List.replicate (5 - (lg_sl ([.ref a0, .ref a1])).length) Slot.unset).toArray = ls at hl ⊢
  have hl : lv_has ls 5 [(0, .ref a0), (1, .ref a1)] := hl
  have l_10 : ∀ (n9 : Nat) (x9 : Int32) (h : hH) (b9 : (Unit)) (h9 : hH) (H : Heap) (locs : List Loc) (ls : Array Slot), hloopW (f_Expander_putText_b10 n a0 a1) n9 x9 h = some (b9, h9) → hW D dA classes b0 nx h H → va_S (hA b0) s.heap H locs → lv_has ls 5 (match x9 with | x2 => [(0, .ref a0), (1, .ref a1), (2, .int x2)]) → (b9 = () → ∀ (H : Heap) (locs : List Loc) (ls : Array Slot), hW D dA classes b0 nx h9 H → va_S (hA b0) s.heap H locs → lv_has ls 5 [] → W p l e (headSpec w_Expander_putText ({ frames := 2, cells := 0, slots := 0, locals := 43 } : Room)).room s m ([.ref a0, .ref a1] : List Value).toArray below meth c H locs 0 0 (MQ below (va_Qv (fun (_ : Unit) => True) (fun (_ : Unit) t => hW D dA classes b0 nx h' t.heap) (hA b0)) ([.ref a0, .ref a1] : List Value).toArray s 0 0 (hA b0)) (F0 m 90 ls [])) → W p l e (headSpec w_Expander_putText ({ frames := 2, cells := 0, slots := 0, locals := 43 } : Room)).room s m ([.ref a0, .ref a1] : List Value).toArray below meth c H locs 0 0 (MQ below (va_Qv (fun (_ : Unit) => True) (fun (_ : Unit) t => hW D dA classes b0 nx h' t.heap) (hA b0)) ([.ref a0, .ref a1] : List Value).toArray s 0 0 (hA b0)) (F0 m 10 ls []) := by
    intro  n9
    induction n9 with
    | zero =>
      intro x9 h b9 h9 H locs ls hrun
      cases hrun
    | succ n9 ih =>
      rintro x2 h b9 h9 H locs ls hrun hw hS hl k0
      have hl : lv_has ls 5 [(0, .ref a0), (1, .ref a1), (2, .int x2)] := hl
      unfold hloopW at hrun
      obtain ⟨q9, h9b, hbody, hrun9⟩ := hbW_some hrun
      have K0 : (∀ (z2 : Int32), q9 = .inl z2 → ∀ (H : Heap) (locs : List Loc) (ls : Array Slot), hW D dA classes b0 nx h9b H → va_S (hA b0) s.heap H locs → lv_has ls 5 [(0, .ref a0), (1, .ref a1), (2, .int z2)] → W p l e (headSpec w_Expander_putText ({ frames := 2, cells := 0, slots := 0, locals := 43 } : Room)).room s m ([.ref a0, .ref a1] : List Value).toArray below meth c H locs 0 0 (MQ below (va_Qv (fun (_ : Unit) => True) (fun (_ : Unit) t => hW D dA classes b0 nx h' t.heap) (hA b0)) ([.ref a0, .ref a1] : List Value).toArray s 0 0 (hA b0)) (F0 m 10 ls [])) := by
        intro z2 eq9 H locs ls hw hS hl
        subst eq9
        exact ih z2 h9b b9 h9 H locs ls hrun9 hw hS hl k0
      have K1 : (q9 = .inr () → ∀ (H : Heap) (locs : List Loc) (ls : Array Slot), hW D dA classes b0 nx h9b H → va_S (hA b0) s.heap H locs → lv_has ls 5 [] → W p l e (headSpec w_Expander_putText ({ frames := 2, cells := 0, slots := 0, locals := 43 } : Room)).room s m ([.ref a0, .ref a1] : List Value).toArray below meth c H locs 0 0 (MQ below (va_Qv (fun (_ : Unit) => True) (fun (_ : Unit) t => hW D dA classes b0 nx h' t.heap) (hA b0)) ([.ref a0, .ref a1] : List Value).toArray s 0 0 (hA b0)) (F0 m 90 ls [])) := by
        intro  eq9 H locs ls hw hS hl
        subst eq9
        cases hrun9
        exact k0  rfl H locs ls hw hS hl
      clear hrun hrun9 ih k0
      have hrun := hbody
      clear hbody
      have j_84 : ∀  (x2 : Int32) (q9 : (Int32) ⊕ ((Unit))) (h9 : hH) (h : hH) (H : Heap) (locs : List Loc) (ls : Array Slot), f_Expander_putText_j84 n a0 a1 x2 h = some (q9, h9) → hW D dA classes b0 nx h H → va_S (hA b0) s.heap H locs → lv_has ls 5 [(0, .ref a0), (1, .ref a1), (2, .int x2)] → (∀ (z2 : Int32), q9 = .inl z2 → ∀ (H : Heap) (locs : List Loc) (ls : Array Slot), hW D dA classes b0 nx h9 H → va_S (hA b0) s.heap H locs → lv_has ls 5 [(0, .ref a0), (1, .ref a1), (2, .int z2)] → W p l e (headSpec w_Expander_putText ({ frames := 2, cells := 0, slots := 0, locals := 43 } : Room)).room s m ([.ref a0, .ref a1] : List Value).toArray below meth c H locs 0 0 (MQ below (va_Qv (fun (_ : Unit) => True) (fun (_ : Unit) t => hW D dA classes b0 nx h' t.heap) (hA b0)) ([.ref a0, .ref a1] : List Value).toArray s 0 0 (hA b0)) (F0 m 10 ls [])) → (q9 = .inr () → ∀ (H : Heap) (locs : List Loc) (ls : Array Slot), hW D dA classes b0 nx h9 H → va_S (hA b0) s.heap H locs → lv_has ls 5 [] → W p l e (headSpec w_Expander_putText ({ frames := 2, cells := 0, slots := 0, locals := 43 } : Room)).room s m ([.ref a0, .ref a1] : List Value).toArray below meth c H locs 0 0 (MQ below (va_Qv (fun (_ : Unit) => True) (fun (_ : Unit) t => hW D dA classes b0 nx h' t.heap) (hA b0)) ([.ref a0, .ref a1] : List Value).toArray s 0 0 (hA b0)) (F0 m 90 ls [])) → W p l e (headSpec w_Expander_putText ({ frames := 2, cells := 0, slots := 0, locals := 43 } : Room)).room s m ([.ref a0, .ref a1] : List Value).toArray below meth c H locs 0 0 (MQ below (va_Qv (fun (_ : Unit) => True) (fun (_ : Unit) t => hW D dA classes b0 nx h' t.heap) (hA b0)) ([.ref a0, .ref a1] : List Value).toArray s 0 0 (hA b0)) (F0 m 84 ls []) := by
        intro x2 q9 h9 h H locs ls hrun hw hS hl k0 k1
        unfold f_Expander_putText_j84 at hrun
        refine lv_iinc (v := (x2 + (-1 : Int32))) (lv' := [(2, .int (x2 + (-1 : Int32))), (0, .ref a0), (1, .ref a1)]) hx hb d_Expander_putText_84 hl (k := 2) rfl rfl (by decide) rfl (fun ls hl => ?_)
        refine lv_goto (tgt := 10) hx hb d_Expander_putText_87 (by decide) ?_
        cases hrun
        exact k0 (x2 + (-1 : Int32)) rfl H locs ls hw hS (lv_sub hl [1, 2, 0] rfl)
      have j_53 : ∀  (x2 : Int32) (y0 : Option Nat) (y1 : Int32) (q9 : (Int32) ⊕ ((Unit))) (h9 : hH) (h : hH) (H : Heap) (locs : List Loc) (ls : Array Slot), f_Expander_putText_j53 n a0 a1 x2 y0 y1 h = some (q9, h9) → hW D dA classes b0 nx h H → va_S (hA b0) s.heap H locs → lv_has ls 5 [(0, .ref a0), (1, .ref a1), (2, .int x2)] → (∀ (z2 : Int32), q9 = .inl z2 → ∀ (H : Heap) (locs : List Loc) (ls : Array Slot), hW D dA classes b0 nx h9 H → va_S (hA b0) s.heap H locs → lv_has ls 5 [(0, .ref a0), (1, .ref a1), (2, .int z2)] → W p l e (headSpec w_Expander_putText ({ frames := 2, cells := 0, slots := 0, locals := 43 } : Room)).room s m ([.ref a0, .ref a1] : List Value).toArray below meth c H locs 0 0 (MQ below (va_Qv (fun (_ : Unit) => True) (fun (_ : Unit) t => hW D dA classes b0 nx h' t.heap) (hA b0)) ([.ref a0, .ref a1] : List Value).toArray s 0 0 (hA b0)) (F0 m 10 ls [])) → (q9 = .inr () → ∀ (H : Heap) (locs : List Loc) (ls : Array Slot), hW D dA classes b0 nx h9 H → va_S (hA b0) s.heap H locs → lv_has ls 5 [] → W p l e (headSpec w_Expander_putText ({ frames := 2, cells := 0, slots := 0, locals := 43 } : Room)).room s m ([.ref a0, .ref a1] : List Value).toArray below meth c H locs 0 0 (MQ below (va_Qv (fun (_ : Unit) => True) (fun (_ : Unit) t => hW D dA classes b0 nx h' t.heap) (hA b0)) ([.ref a0, .ref a1] : List Value).toArray s 0 0 (hA b0)) (F0 m 90 ls [])) → W p l e (headSpec w_Expander_putText ({ frames := 2, cells := 0, slots := 0, locals := 43 } : Room)).room s m ([.ref a0, .ref a1] : List Value).toArray below meth c H locs 0 0 (MQ below (va_Qv (fun (_ : Unit) => True) (fun (_ : Unit) t => hW D dA classes b0 nx h' t.heap) (hA b0)) ([.ref a0, .ref a1] : List Value).toArray s 0 0 (hA b0)) (F0 m 53 ls [.int y1, va_rf y0]) := by
        intro x2 y0 y1 q9 h9 h H locs ls hrun hw hS hl k0 k1
        unfold f_Expander_putText_j53 at hrun
        replace hrun := hb_some hrun
        obtain ⟨p53, rfl, hrun⟩ := hrun
        replace hrun := hb_some hrun
        obtain ⟨c53, k53, hrun⟩ := hrun
        replace hrun := hbW_some hrun
        obtain ⟨_u53, h53, g53, hrun⟩ := hrun
        refine h_cv (h_runV S (As := [.int y1]) (rest := []) (c_Input_put l D dA b0 p53 y1 nx g53) (cwV 1 S.2.2.2.2 (h_good _ (h_in4 ml_Expander_121 im_Input_put se_Input_put it_Input) cd_Input_put) rfl rfl rfl (by decide +kernel) ⟨Nat.le_of_ble_eq_true rfl, Nat.le_of_ble_eq_true rfl⟩) hK hN hw (ci := 6) rfl k53 rfl hl.1 (lv_room (Nat.le_of_ble_eq_true rfl)) d_Expander_putText_53 ⟨Nat.le_refl _, Nat.le_refl _⟩) hS (fun H locs hw hS => ?_)
        refine lv_goto (tgt := 84) hx hb d_Expander_putText_56 (by decide) ?_
        exact j_84 x2 _ _ h53 _ _ _ hrun hw hS (lv_sub hl [0, 1, 2] rfl) k0 k1
      dsimp only [f_Expander_putText_b10] at hrun
      refine lv_iload_n hx hb d_Expander_putText_10 rfl (lv_at hl 2 rfl) ?_
      refine lv_if_lt (tgt := 90) hx hb d_Expander_putText_11 (by decide) (fun c11 => ?_) (fun c11 => ?_)
      · rw [if_pos c11] at hrun
        cases hrun
        exact K1  rfl H locs ls hw hS (lv_sub hl [] rfl)
      · rw [if_neg c11] at hrun
        refine lv_aload_n hx hb d_Expander_putText_14 rfl (lv_at hl 1 rfl) ?_
        replace hrun := hb_some hrun
        obtain ⟨v15, g15, hrun⟩ := hrun
        refine h_getNR S (fun w q => hT w (i_Macro w q)) hK (ci := 7) rfl 4 (by decide) (hN.1 _ nf_Expander_181) hw g15 d_Expander_putText_15 ?_
        refine lv_iload_n hx hb d_Expander_putText_18 rfl (lv_at hl 2 rfl) ?_
        replace hrun := hb_some hrun
        obtain ⟨p19, rfl, hrun⟩ := hrun
        replace hrun := hb_some hrun
        obtain ⟨c19, k19, hrun⟩ := hrun
        replace hrun := hb_some hrun
        obtain ⟨v19, g19, hrun⟩ := hrun
        refine h_ci (h_runV S (As := [.int x2]) (rest := []) (c_Row_get l D dA b0 p19 x2 nx g19) (cwV 1 S.2.2.2.2 (h_good _ (h_in4 ml_Expander_185 im_Row_get se_Row_get it_Row) cd_Row_get) rfl rfl rfl (by decide +kernel) ⟨Nat.le_of_ble_eq_true rfl, Nat.le_of_ble_eq_true rfl⟩) hK hN hw (ci := 8) rfl k19 rfl hl.1 (lv_room (Nat.le_of_ble_eq_true rfl)) d_Expander_putText_19 ⟨Nat.le_refl _, Nat.le_refl _⟩) hS (fun H locs hw hS => ?_)
        refine lv_istore_n (lv' := [(3, .int v19), (0, .ref a0), (1, .ref a1), (2, .int x2)]) hx hb d_Expander_putText_22 rfl hl (by decide) rfl (fun ls hl => ?_)
        refine lv_iload_n hx hb d_Expander_putText_23 rfl (lv_at hl 0 rfl) ?_
        replace hrun := hb_some hrun
        obtain ⟨v24, g24, hrun⟩ := hrun
        refine h_ci (h_runS S (As := [.int v19]) (rest := []) (c_Kind_argumentOf l D dA b0 v19 nx g24) (va_cwS 1 S.2.2.2.2 (h_good _ (h_in3 ml_Expander_186 sm_Kind_argumentOf it_Kind) cd_Kind_argumentOf) rfl rfl rfl (by decide +kernel) ⟨Nat.le_of_ble_eq_true rfl, Nat.le_of_ble_eq_true rfl⟩) hK hN hw rfl hl.1 (lv_room (Nat.le_of_ble_eq_true rfl)) d_Expander_putText_24 ⟨Nat.le_refl _, Nat.le_refl _⟩) hS (fun H locs hw hS => ?_)
        refine lv_istore (lv' := [(4, .int v24), (3, .int v19), (0, .ref a0), (1, .ref a1), (2, .int x2)]) hx hb d_Expander_putText_27 hl (by decide) rfl (fun ls hl => ?_)
        refine lv_iload hx hb d_Expander_putText_29 (lv_at hl 0 rfl) ?_
        refine lv_if_ne (tgt := 59) hx hb d_Expander_putText_31 (by decide) (fun c31 => ?_) (fun c31 => ?_)
        · rw [if_neg c31] at hrun
          refine lv_iload hx hb d_Expander_putText_59 (lv_at hl 0 rfl) ?_
          refine lv_aload_n hx hb d_Expander_putText_61 rfl (lv_at hl 3 rfl) ?_
          replace hrun := hb_some hrun
          obtain ⟨v62, g62, hrun⟩ := hrun
          refine h_getNI S (fun w q => hT w (i_Macro w q)) hK (ci := 7) rfl 0 (by decide) (hN.1 _ nf_Expander_154) hw g62 d_Expander_putText_62 ?_
          refine lv_icmp_gt (tgt := 84) hx hb d_Expander_putText_65 (by decide) (fun c65 => ?_) (fun c65 => ?_)
          · rw [if_pos c65] at hrun
            exact j_84 x2 _ _ h _ _ _ hrun hw hS (lv_sub hl [2, 3, 4] rfl) K0 K1
          · rw [if_neg c65] at hrun
            refine lv_aload_n hx hb d_Expander_putText_68 rfl (lv_at hl 2 rfl) ?_
            replace hrun := hb_some hrun
            obtain ⟨v69, g69, hrun⟩ := hrun
            refine h_getR S (fun w q => hT w (i_Expander w q)) hK (ci := 5) rfl 1 (by decide) (hT _ fl_Expander_15) hw g69 d_Expander_putText_69 ?_
            refine lv_aload_n hx hb d_Expander_putText_72 rfl (lv_at hl 2 rfl) ?_
            replace hrun := hb_some hrun
            obtain ⟨v73, g73, hrun⟩ := hrun
            refine h_getR S (fun w q => hT w (i_Expander w q)) hK (ci := 5) rfl 5 (by decide) (hT _ fl_Expander_39) hw g73 d_Expander_putText_73 ?_
            refine lv_iload hx hb d_Expander_putText_76 (lv_at hl 0 rfl) ?_
            replace hrun := hb_some hrun
            obtain ⟨p78, rfl, hrun⟩ := hrun
            replace hrun := hb_some hrun
            obtain ⟨c78, k78, hrun⟩ := hrun
            replace hrun := hb_some hrun
            obtain ⟨v78, g78, hrun⟩ := hrun
            refine h_cq (h_runV S (As := [.int v24]) (rest := [va_rf v69]) (c_Arguments_argument l D dA b0 p78 v24 nx g78) (cwV 1 S.2.2.2.2 (h_good _ (h_in4 ml_Expander_189 im_Arguments_argument se_Arguments_argument it_Arguments) cd_Arguments_argument) rfl rfl rfl (by decide +kernel) ⟨Nat.le_of_ble_eq_true rfl, Nat.le_of_ble_eq_true rfl⟩) hK hN hw (ci := 2) rfl k78 rfl hl.1 (lv_room (by simp only [List.map, List.sum_cons, List.sum_nil, h_cat]; exact Nat.le_of_ble_eq_true rfl)) d_Expander_putText_78 ⟨Nat.le_refl _, Nat.le_refl _⟩) hS (fun H locs hw hS => ?_)
            replace hrun := hb_some hrun
            obtain ⟨p81, rfl, hrun⟩ := hrun
            replace hrun := hb_some hrun
            obtain ⟨p81_0, rfl, hrun⟩ := hrun
            replace hrun := hb_some hrun
            obtain ⟨c81, k81, hrun⟩ := hrun
            replace hrun := hbW_some hrun
            obtain ⟨_u81, h81, g81, hrun⟩ := hrun
            refine h_cv (h_runV S (As := [.ref p81_0]) (rest := []) (c_Input_putAll l D dA b0 n p81 p81_0 nx g81) (cwV 1 S.2.2.2.2 (h_good _ (h_in4 ml_Expander_195 im_Input_putAll se_Input_putAll it_Input) cd_Input_putAll) rfl rfl rfl (by decide +kernel) ⟨Nat.le_of_ble_eq_true rfl, Nat.le_of_ble_eq_true rfl⟩) hK hN hw (ci := 6) rfl k81 rfl hl.1 (lv_room (Nat.le_of_ble_eq_true rfl)) d_Expander_putText_81 ⟨Nat.le_refl _, Nat.le_refl _⟩) hS (fun H locs hw hS => ?_)
            exact j_84 x2 _ _ h81 _ _ _ hrun hw hS (lv_sub hl [2, 3, 4] rfl) K0 K1
        · rw [if_pos c31] at hrun
          refine lv_aload_n hx hb d_Expander_putText_34 rfl (lv_at hl 2 rfl) ?_
          replace hrun := hb_some hrun
          obtain ⟨v35, g35, hrun⟩ := hrun
          refine h_getR S (fun w q => hT w (i_Expander w q)) hK (ci := 5) rfl 1 (by decide) (hT _ fl_Expander_15) hw g35 d_Expander_putText_35 ?_
          refine lv_iload_n hx hb d_Expander_putText_38 rfl (lv_at hl 1 rfl) ?_
          replace hrun := hb_some hrun
          obtain ⟨v39, g39, hrun⟩ := hrun
          refine h_ci (h_runS S (As := [.int v19]) (rest := [va_rf v35]) (c_Kind_isParameter l D dA b0 v19 nx g39) (va_cwS 1 S.2.2.2.2 (h_good _ (h_in3 ml_Expander_192 sm_Kind_isParameter it_Kind) cd_Kind_isParameter) rfl rfl rfl (by decide +kernel) ⟨Nat.le_of_ble_eq_true rfl, Nat.le_of_ble_eq_true rfl⟩) hK hN hw rfl hl.1 (lv_room (by simp only [List.map, List.sum_cons, List.sum_nil, h_cat]; exact Nat.le_of_ble_eq_true rfl)) d_Expander_putText_39 ⟨Nat.le_refl _, Nat.le_refl _⟩) hS (fun H locs hw hS => ?_)
          refine lv_if_eq (tgt := 52) hx hb d_Expander_putText_42 (by decide) (fun c42 => ?_) (fun c42 => ?_)
          · rw [if_pos c42] at hrun
            refine lv_iload_n hx hb d_Expander_putText_52 rfl (lv_at hl 1 rfl) ?_
            exact j_53 x2 v35 v19 _ _ h _ _ _ hrun hw hS (lv_sub hl [2, 3, 4] rfl) K0 K1
          · rw [if_neg c42] at hrun
            refine lv_iload_n hx hb d_Expander_putText_45 rfl (lv_at hl 1 rfl) ?_
            refine lv_bipush (v := (10 : Int32)) hx hb d_Expander_putText_46 (by decide) ?_
            refine lv_isub hx hb d_Expander_putText_48 ?_
            refine lv_goto (tgt := 53) hx hb d_Expander_putText_49 (by decide) ?_
            exact j_53 x2 v35 (v19 - (10 : Int32)) _ _ h _ _ _ hrun hw hS (lv_sub hl [2, 3, 4] rfl) K0 K1
  unfold f_Expander_putText at hrun
  refine lv_aload_n hx hb d_Expander_putText_0 rfl (lv_at hl 1 rfl) ?_
  replace hrun := hb_some hrun
  obtain ⟨v1, g1, hrun⟩ := hrun
  refine h_getNR S (fun w q => hT w (i_Macro w q)) hK (ci := 7) rfl 4 (by decide) (hN.1 _ nf_Expander_181) hw g1 d_Expander_putText_1 ?_
  replace hrun := hb_some hrun
  obtain ⟨p4, rfl, hrun⟩ := hrun
  replace hrun := hb_some hrun
  obtain ⟨v4, g4, hrun⟩ := hrun
  refine h_getNI S (fun w q => hT w (i_Row w q)) hK (ci := 8) rfl 2 (by decide) (hN.1 _ nf_Expander_156) hw g4 d_Expander_putText_4 ?_
  refine lv_iconst (v := (1 : Int32)) hx hb d_Expander_putText_7 (by decide) ?_
  refine lv_isub hx hb d_Expander_putText_8 ?_
  refine lv_istore_n (lv' := [(2, .int (v4 - (1 : Int32))), (0, .ref a0), (1, .ref a1)]) hx hb d_Expander_putText_9 rfl hl (by decide) rfl (fun ls hl => ?_)
  replace hrun := hbW_some hrun
  obtain ⟨b10, h10l, g10, hrun⟩ := hrun
  refine l_10 n (v4 - (1 : Int32)) h _ _ _ _ _ g10 hw hS (lv_sub hl [1, 2, 0] rfl) ?_
  · rintro  eq9 H locs ls hw hS hl
    obtain rfl := eq9.symm
    try dsimp only at hrun
    cases hrun
    exact W.vret hx hb hr (fun t ht hW9 => ⟨⟨(), rfl, trivial, by show hW D dA classes b0 _ _ t.heap; rw [ht]; exact hw⟩, hS.F ht⟩) hS.2.2 d_Expander_putText_90
set_option maxHeartbeats 4000000 in
set_option maxRecDepth 100000 in
theorem c_Arguments_sizeOfAll (l : Launch) (D : va_G) (dA : Nat → ClassId) (b0 : Nat) (n : Nat) (a0 : Nat) (i1 : Int32) (nx : Nat) {h : hH} {r : Int32} (hrun : f_Arguments_sizeOfAll n a0 i1 h = some r) : Met l y_Arguments_sizeOfAll w_Arguments_sizeOfAll ({ frames := 2, cells := 0, slots := 0, locals := 42 } : Room) (va_Pc [.ref a0, .int i1] (hB D dA b0 nx h)) (va_Qi (fun r' (_ : Unit) => r' = r) (fun (_ : Unit) t => hW D dA classes b0 nx h t.heap) (hA b0)) 0 0 (hA b0) := by
  refine Met.ofW (cc := b_Arguments_sizeOfAll) (maxL := 4) (ret := (some .int)) (by decide) rfl ?_
  intro p e s m args below meth c s₁ B hml hv
  obtain ⟨rfl, hw, hK, hN⟩ := hv
  have hx := B.exec
  have hb := B.bytes
  have hr := B.returns
  have hlocks := B.notSynchronized
  have S : CallFix p m c b_Arguments_sizeOfAll 4 s ([.ref a0, .int i1] : List Value).toArray w_Arguments_sizeOfAll R_Arguments := ⟨hx, hb, hml, findClass_of_methodNamed B.named, atoms_spec (ws := w_Arguments_sizeOfAll) B.pre⟩
  have hT : ∀ w ∈ tbl, w ∈ w_Arguments_sizeOfAll := fun _ q => List.mem_cons_of_mem _ q
  have hS : va_S (hA b0) s.heap s.heap [] := va_S.rf
  have hl := lv_entry ([.ref a0, .int i1]) (n := 4) (Nat.le_of_ble_eq_true rfl)
  rw [lg_entry_eq]
  generalize (lg_sl ([.ref a0, .int i1]) ++ List.replicate (4 - (lg_sl ([.ref a0, .int i1])).length) Slot.unset).toArray = ls at hl ⊢
  have hl : lv_has ls 4 [(0, .ref a0), (1, .int i1)] := hl
  have l_4 : ∀ (x1 : Int32) (n9 : Nat) (x9 : Int32 × Int32) (b9 : (Int32)) (H : Heap) (locs : List Loc) (ls : Array Slot), hloopR (f_Arguments_sizeOfAll_b4 n a0 x1 h) n9 x9 = some b9 → hW D dA classes b0 nx h H → va_S (hA b0) s.heap H locs → lv_has ls 4 (match x9 with | (x2, x3) => [(0, .ref a0), (1, .int x1), (2, .int x2), (3, .int x3)]) → (∀ (z2 : Int32), b9 = z2 → ∀ (H : Heap) (locs : List Loc) (ls : Array Slot), hW D dA classes b0 nx h H → va_S (hA b0) s.heap H locs → lv_has ls 4 [(2, .int z2)] → W p l e (headSpec w_Arguments_sizeOfAll ({ frames := 2, cells := 0, slots := 0, locals := 42 } : Room)).room s m ([.ref a0, .int i1] : List Value).toArray below meth c H locs 0 0 (MQ below (va_Qi (fun r' (_ : Unit) => r' = r) (fun (_ : Unit) t => hW D dA classes b0 nx h t.heap) (hA b0)) ([.ref a0, .int i1] : List Value).toArray s 0 0 (hA b0)) (F0 m 26 ls [])) → W p l e (headSpec w_Arguments_sizeOfAll ({ frames := 2, cells := 0, slots := 0, locals := 42 } : Room)).room s m ([.ref a0, .int i1] : List Value).toArray below meth c H locs 0 0 (MQ below (va_Qi (fun r' (_ : Unit) => r' = r) (fun (_ : Unit) t => hW D dA classes b0 nx h t.heap) (hA b0)) ([.ref a0, .int i1] : List Value).toArray s 0 0 (hA b0)) (F0 m 4 ls []) := by
    intro x1 n9
    induction n9 with
    | zero =>
      intro x9 b9 H locs ls hrun
      cases hrun
    | succ n9 ih =>
      rintro ⟨x2, x3⟩ b9 H locs ls hrun hw hS hl k0
      have hl : lv_has ls 4 [(0, .ref a0), (1, .int x1), (2, .int x2), (3, .int x3)] := hl
      unfold hloopR at hrun
      obtain ⟨q9, hbody, hrun9⟩ := hb_some hrun
      have K0 : (∀ (z2 : Int32) (z3 : Int32), q9 = .inl (z2, z3) → ∀ (H : Heap) (locs : List Loc) (ls : Array Slot), hW D dA classes b0 nx h H → va_S (hA b0) s.heap H locs → lv_has ls 4 [(0, .ref a0), (1, .int x1), (2, .int z2), (3, .int z3)] → W p l e (headSpec w_Arguments_sizeOfAll ({ frames := 2, cells := 0, slots := 0, locals := 42 } : Room)).room s m ([.ref a0, .int i1] : List Value).toArray below meth c H locs 0 0 (MQ below (va_Qi (fun r' (_ : Unit) => r' = r) (fun (_ : Unit) t => hW D dA classes b0 nx h t.heap) (hA b0)) ([.ref a0, .int i1] : List Value).toArray s 0 0 (hA b0)) (F0 m 4 ls [])) := by
        intro z2 z3 eq9 H locs ls hw hS hl
        subst eq9
        exact ih (z2, z3) b9 H locs ls hrun9 hw hS hl k0
      have K1 : (∀ (z2 : Int32), q9 = .inr z2 → ∀ (H : Heap) (locs : List Loc) (ls : Array Slot), hW D dA classes b0 nx h H → va_S (hA b0) s.heap H locs → lv_has ls 4 [(2, .int z2)] → W p l e (headSpec w_Arguments_sizeOfAll ({ frames := 2, cells := 0, slots := 0, locals := 42 } : Room)).room s m ([.ref a0, .int i1] : List Value).toArray below meth c H locs 0 0 (MQ below (va_Qi (fun r' (_ : Unit) => r' = r) (fun (_ : Unit) t => hW D dA classes b0 nx h t.heap) (hA b0)) ([.ref a0, .int i1] : List Value).toArray s 0 0 (hA b0)) (F0 m 26 ls [])) := by
        intro z2 eq9 H locs ls hw hS hl
        subst eq9
        cases hrun9
        exact k0 _ rfl H locs ls hw hS hl
      clear hrun hrun9 ih k0
      have hrun := hbody
      clear hbody
      dsimp only [f_Arguments_sizeOfAll_b4] at hrun
      refine lv_iload_n hx hb d_Arguments_sizeOfAll_4 rfl (lv_at hl 3 rfl) ?_
      refine lv_iload_n hx hb d_Arguments_sizeOfAll_5 rfl (lv_at hl 1 rfl) ?_
      refine lv_icmp_gt (tgt := 26) hx hb d_Arguments_sizeOfAll_6 (by decide) (fun c6 => ?_) (fun c6 => ?_)
      · rw [if_pos c6] at hrun
        cases hrun
        exact K1 x2 rfl H locs ls hw hS (lv_sub hl [2] rfl)
      · rw [if_neg c6] at hrun
        refine lv_iload_n hx hb d_Arguments_sizeOfAll_9 rfl (lv_at hl 2 rfl) ?_
        refine lv_aload_n hx hb d_Arguments_sizeOfAll_10 rfl (lv_at hl 0 rfl) ?_
        refine lv_iload_n hx hb d_Arguments_sizeOfAll_11 rfl (lv_at hl 3 rfl) ?_
        replace hrun := hb_some hrun
        obtain ⟨c12, k12, hrun⟩ := hrun
        replace hrun := hb_some hrun
        obtain ⟨v12, g12, hrun⟩ := hrun
        refine h_cq (h_runV S (As := [.int x3]) (rest := [.int x2]) (c_Arguments_argument l D dA b0 a0 x3 nx g12) (cwV 1 S.2.2.2.2 (h_good _ (h_in4 ml_Arguments_37 im_Arguments_argument se_Arguments_argument it_Arguments) cd_Arguments_argument) rfl rfl rfl (by decide +kernel) ⟨Nat.le_of_ble_eq_true rfl, Nat.le_of_ble_eq_true rfl⟩) hK hN hw (ci := 2) rfl k12 rfl hl.1 (lv_room (Nat.le_of_ble_eq_true rfl)) d_Arguments_sizeOfAll_12 ⟨Nat.le_refl _, Nat.le_refl _⟩) hS (fun H locs hw hS => ?_)
        replace hrun := hb_some hrun
        obtain ⟨p15, rfl, hrun⟩ := hrun
        replace hrun := hb_some hrun
        obtain ⟨v15, g15, hrun⟩ := hrun
        refine h_getNI S (fun w q => hT w (i_Row w q)) hK (ci := 8) rfl 2 (by decide) (hN.1 _ nf_Arguments_41) hw g15 d_Arguments_sizeOfAll_15 ?_
        refine lv_iadd hx hb d_Arguments_sizeOfAll_18 ?_
        refine lv_istore_n (lv' := [(2, .int (x2 + v15)), (0, .ref a0), (1, .int x1), (3, .int x3)]) hx hb d_Arguments_sizeOfAll_19 rfl hl (by decide) rfl (fun ls hl => ?_)
        refine lv_iinc (v := (x3 + (1 : Int32))) (lv' := [(3, .int (x3 + (1 : Int32))), (2, .int (x2 + v15)), (0, .ref a0), (1, .int x1)]) hx hb d_Arguments_sizeOfAll_20 hl (k := 3) rfl rfl (by decide) rfl (fun ls hl => ?_)
        refine lv_goto (tgt := 4) hx hb d_Arguments_sizeOfAll_23 (by decide) ?_
        cases hrun
        exact K0 (x2 + v15) (x3 + (1 : Int32)) rfl H locs ls hw hS (lv_sub hl [2, 3, 1, 0] rfl)
  unfold f_Arguments_sizeOfAll at hrun
  refine lv_iconst (v := (0 : Int32)) hx hb d_Arguments_sizeOfAll_0 (by decide) ?_
  refine lv_istore_n (lv' := [(2, .int (0 : Int32)), (0, .ref a0), (1, .int i1)]) hx hb d_Arguments_sizeOfAll_1 rfl hl (by decide) rfl (fun ls hl => ?_)
  refine lv_iconst (v := (1 : Int32)) hx hb d_Arguments_sizeOfAll_2 (by decide) ?_
  refine lv_istore_n (lv' := [(3, .int (1 : Int32)), (2, .int (0 : Int32)), (0, .ref a0), (1, .int i1)]) hx hb d_Arguments_sizeOfAll_3 rfl hl (by decide) rfl (fun ls hl => ?_)
  replace hrun := hb_some hrun
  obtain ⟨b4, g4, hrun⟩ := hrun
  refine l_4 i1 n ((0 : Int32), (1 : Int32)) _ _ _ _ g4 hw hS (lv_sub hl [2, 3, 1, 0] rfl) ?_
  · rintro x2_4 eq9 H locs ls hw hS hl
    obtain rfl := eq9.symm
    try dsimp only at hrun
    refine lv_iload_n hx hb d_Arguments_sizeOfAll_26 rfl (lv_at hl 0 rfl) ?_
    cases hrun
    exact W.iret hx hb hr (fun t ht hW9 => ⟨⟨_, (), rfl, rfl, by show hW D dA classes b0 _ _ t.heap; rw [ht]; exact hw⟩, hS.F ht⟩) hS.2.2 d_Arguments_sizeOfAll_27
set_option maxHeartbeats 4000000 in
set_option maxRecDepth 100000 in
theorem c_Trace_add (l : Launch) (D : va_G) (dA : Nat → ClassId) (b0 : Nat) (a0 : Nat) (i1 : Int32) (i2 : Int32) (i3 : Int32) (nx : Nat) {h h' : hH} {r : Unit} (hrun : f_Trace_add a0 i1 i2 i3 h = some (r, h')) : Met l y_Trace_add w_Trace_add ({ frames := 0, cells := 0, slots := 0, locals := 0 } : Room) (va_Pc [.ref a0, .int i1, .int i2, .int i3] (hB D dA b0 nx h)) (va_Qv (fun (_ : Unit) => True) (fun (_ : Unit) t => hW D dA classes b0 nx h' t.heap) (hA b0)) 0 0 (hA b0) := by
  refine Met.ofW (cc := b_Trace_add) (maxL := 4) (ret := none) (by decide) rfl ?_
  intro p e s m args below meth c s₁ B hml hv
  obtain ⟨rfl, hw, hK, hN⟩ := hv
  have hx := B.exec
  have hb := B.bytes
  have hr := B.returns
  have hlocks := B.notSynchronized
  have S : CallFix p m c b_Trace_add 4 s ([.ref a0, .int i1, .int i2, .int i3] : List Value).toArray w_Trace_add R_Trace := ⟨hx, hb, hml, findClass_of_methodNamed B.named, atoms_spec (ws := w_Trace_add) B.pre⟩
  have hT : ∀ w ∈ tbl, w ∈ w_Trace_add := fun _ q => List.mem_cons_of_mem _ q
  have hS : va_S (hA b0) s.heap s.heap [] := va_S.rf
  have hl := lv_entry ([.ref a0, .int i1, .int i2, .int i3]) (n := 4) (Nat.le_of_ble_eq_true rfl)
  rw [lg_entry_eq]
  generalize (lg_sl ([.ref a0, .int i1, .int i2, .int i3]) ++ List.replicate (4 - (lg_sl ([.ref a0, .int i1, .int i2, .int i3])).length) Slot.unset).toArray = ls at hl ⊢
  have hl : lv_has ls 4 [(0, .ref a0), (1, .int i1), (2, .int i2), (3, .int i3)] := hl
  unfold f_Trace_add at hrun
  refine lv_aload_n hx hb d_Trace_add_0 rfl (lv_at hl 0 rfl) ?_
  replace hrun := hb_some hrun
  obtain ⟨v1, g1, hrun⟩ := hrun
  refine h_getI S (fun w q => hT w (i_Trace w q)) hK (ci := 10) rfl 3 (by decide) (hT _ fl_Trace_21) hw g1 d_Trace_add_1 ?_
  refine lv_bipush (v := (100 : Int32)) hx hb d_Trace_add_4 (by decide) ?_
  refine lv_icmp_ge (tgt := 49) hx hb d_Trace_add_6 (by decide) (fun c6 => ?_) (fun c6 => ?_)
  · rw [if_pos c6] at hrun
    cases hrun
    exact W.vret hx hb hr (fun t ht hW9 => ⟨⟨(), rfl, trivial, by show hW D dA classes b0 _ _ t.heap; rw [ht]; exact hw⟩, hS.F ht⟩) hS.2.2 d_Trace_add_49
  · rw [if_neg c6] at hrun
    refine lv_aload_n hx hb d_Trace_add_9 rfl (lv_at hl 0 rfl) ?_
    replace hrun := hb_some hrun
    obtain ⟨v10, g10, hrun⟩ := hrun
    refine h_getR S (fun w q => hT w (i_Trace w q)) hK (ci := 10) rfl 0 (by decide) (hT _ fl_Trace_9) hw g10 d_Trace_add_10 ?_
    refine lv_aload_n hx hb d_Trace_add_13 rfl (lv_at hl 0 rfl) ?_
    replace hrun := hb_some hrun
    obtain ⟨v14, g14, hrun⟩ := hrun
    refine h_getI S (fun w q => hT w (i_Trace w q)) hK (ci := 10) rfl 3 (by decide) (hT _ fl_Trace_21) hw g14 d_Trace_add_14 ?_
    refine lv_iload_n hx hb d_Trace_add_17 rfl (lv_at hl 1 rfl) ?_
    replace hrun := hb_some hrun
    obtain ⟨p18, rfl, hrun⟩ := hrun
    replace hrun := hb_some hrun
    obtain ⟨h18, g18, hrun⟩ := hrun
    refine h_iast S hK (kd := 0) rfl hw hS g18 d_Trace_add_18 (fun H locs hw hS => ?_)
    refine lv_aload_n hx hb d_Trace_add_19 rfl (lv_at hl 0 rfl) ?_
    replace hrun := hb_some hrun
    obtain ⟨v20, g20, hrun⟩ := hrun
    refine h_getR S (fun w q => hT w (i_Trace w q)) hK (ci := 10) rfl 1 (by decide) (hT _ fl_Trace_15) hw g20 d_Trace_add_20 ?_
    refine lv_aload_n hx hb d_Trace_add_23 rfl (lv_at hl 0 rfl) ?_
    replace hrun := hb_some hrun
    obtain ⟨v24, g24, hrun⟩ := hrun
    refine h_getI S (fun w q => hT w (i_Trace w q)) hK (ci := 10) rfl 3 (by decide) (hT _ fl_Trace_21) hw g24 d_Trace_add_24 ?_
    refine lv_iload_n hx hb d_Trace_add_27 rfl (lv_at hl 2 rfl) ?_
    replace hrun := hb_some hrun
    obtain ⟨p28, rfl, hrun⟩ := hrun
    replace hrun := hb_some hrun
    obtain ⟨h28, g28, hrun⟩ := hrun
    refine h_iast S hK (kd := 0) rfl hw hS g28 d_Trace_add_28 (fun H locs hw hS => ?_)
    refine lv_aload_n hx hb d_Trace_add_29 rfl (lv_at hl 0 rfl) ?_
    replace hrun := hb_some hrun
    obtain ⟨v30, g30, hrun⟩ := hrun
    refine h_getR S (fun w q => hT w (i_Trace w q)) hK (ci := 10) rfl 2 (by decide) (hT _ fl_Trace_18) hw g30 d_Trace_add_30 ?_
    refine lv_aload_n hx hb d_Trace_add_33 rfl (lv_at hl 0 rfl) ?_
    replace hrun := hb_some hrun
    obtain ⟨v34, g34, hrun⟩ := hrun
    refine h_getI S (fun w q => hT w (i_Trace w q)) hK (ci := 10) rfl 3 (by decide) (hT _ fl_Trace_21) hw g34 d_Trace_add_34 ?_
    refine lv_iload_n hx hb d_Trace_add_37 rfl (lv_at hl 3 rfl) ?_
    replace hrun := hb_some hrun
    obtain ⟨p38, rfl, hrun⟩ := hrun
    replace hrun := hb_some hrun
    obtain ⟨h38, g38, hrun⟩ := hrun
    refine h_iast S hK (kd := 0) rfl hw hS g38 d_Trace_add_38 (fun H locs hw hS => ?_)
    refine lv_aload_n hx hb d_Trace_add_39 rfl (lv_at hl 0 rfl) ?_
    refine lv_dup hx hb d_Trace_add_40 rfl ?_
    replace hrun := hb_some hrun
    obtain ⟨v41, g41, hrun⟩ := hrun
    refine h_getI S (fun w q => hT w (i_Trace w q)) hK (ci := 10) rfl 3 (by decide) (hT _ fl_Trace_21) hw g41 d_Trace_add_41 ?_
    refine lv_iconst (v := (1 : Int32)) hx hb d_Trace_add_44 (by decide) ?_
    refine lv_iadd hx hb d_Trace_add_45 ?_
    replace hrun := hb_some hrun
    obtain ⟨h46, g46, hrun⟩ := hrun
    refine h_put S (fun w q => hT w (i_Trace w q)) t_Trace t_Trace_ok n_Trace hK (ci := 10) rfl 3 (by decide) (hT _ fl_Trace_21) rfl rfl rfl hw hS g46 d_Trace_add_46 (fun H locs hw hS => ?_)
    cases hrun
    exact W.vret hx hb hr (fun t ht hW9 => ⟨⟨(), rfl, trivial, by show hW D dA classes b0 _ _ t.heap; rw [ht]; exact hw⟩, hS.F ht⟩) hS.2.2 d_Trace_add_49
set_option maxHeartbeats 4000000 in
set_option maxRecDepth 100000 in
theorem c_Expander_expandName (l : Launch) (D : va_G) (dA : Nat → ClassId) (b0 : Nat) (n : Nat) (a0 : Nat) (i1 : Int32) (a2 : Nat) (nxZ : Nat) {h h' : hH} {r : Int32} {dnZ dsZ : Nat} (hrun : f_Expander_expandName n a0 i1 a2 nxZ h = some (r, dnZ, dsZ, h')) : Met l y_Expander_expandName w_Expander_expandName ({ frames := 4, cells := dnZ, slots := dsZ, locals := 118 } : Room) (va_Pc [.ref a0, .int i1, .ref a2] (hB D dA b0 nxZ h)) (va_Qi (fun r' (_ : Unit) => r' = r) (fun (_ : Unit) t => hW D dA classes b0 (nxZ + dnZ) h' t.heap) (hA b0)) dnZ dsZ (hA b0) := by
  refine Met.ofW (cc := b_Expander_expandName) (maxL := 7) (ret := (some .int)) (by decide) rfl ?_
  intro p e s m args below meth c s₁ B hml hv
  obtain ⟨rfl, hw, hK, hN⟩ := hv
  have hx := B.exec
  have hb := B.bytes
  have hr := B.returns
  have hlocks := B.notSynchronized
  have S : CallFix p m c b_Expander_expandName 7 s ([.ref a0, .int i1, .ref a2] : List Value).toArray w_Expander_expandName R_Expander := ⟨hx, hb, hml, findClass_of_methodNamed B.named, atoms_spec (ws := w_Expander_expandName) B.pre⟩
  have hT : ∀ w ∈ tbl, w ∈ w_Expander_expandName := fun _ q => List.mem_cons_of_mem _ q
  have hS : va_S (hA b0) s.heap s.heap [] := va_S.rf
  have hl := lv_entry ([.ref a0, .int i1, .ref a2]) (n := 7) (Nat.le_of_ble_eq_true rfl)
  rw [lg_entry_eq]
  generalize (lg_sl ([.ref a0, .int i1, .ref a2]) ++ List.replicate (7 - (lg_sl ([.ref a0, .int i1, .ref a2])).length) Slot.unset).toArray = ls at hl ⊢
  have hl : lv_has ls 7 [(0, .ref a0), (1, .int i1), (2, .ref a2)] := hl
  obtain ⟨dn, edn⟩ : ∃ z, z = dnZ := ⟨_, rfl⟩
  obtain ⟨ds, eds⟩ : ∃ z, z = dsZ := ⟨_, rfl⟩
  obtain ⟨nx, enx⟩ : ∃ z, z = nxZ := ⟨_, rfl⟩
  rw [← edn, ← eds, ← enx] at hrun
  rw [← enx] at hw
  have hcR : 0 + dn = dnZ := by omega
  have hsR : 0 + ds = dsZ := by omega
  have hnR : nx + dn = nxZ + dnZ := by omega
  clear edn eds enx
  have l_27 : ∀ (x1 : Int32) (x3 : Int32) (n9 : Nat) (x9 : Int32 × Int32) (cells slots dn ds nx : Nat) (h : hH) (b9 : (Int32)) (h9 : hH) (H : Heap) (locs : List Loc) (ls : Array Slot), hloopA (f_Expander_expandName_b27 n a0 x1 a2 x3) n9 x9 nx h = some (b9, dn, ds, h9) → cells + dn ≤ dnZ → slots + ds ≤ dsZ → hW D dA classes b0 nx h H → va_S (hA b0) s.heap H locs → lv_has ls 7 (match x9 with | (x4, x5) => [(0, .ref a0), (1, .int x1), (2, .ref a2), (3, .int x3), (4, .int x4), (5, .int x5)]) → (∀ (z4 : Int32), b9 = z4 → ∀ (H : Heap) (locs : List Loc) (ls : Array Slot), hW D dA classes b0 (nx + dn) h9 H → va_S (hA b0) s.heap H locs → lv_has ls 7 [(0, .ref a0), (1, .int x1), (2, .ref a2), (3, .int x3), (4, .int z4)] → W p l e (headSpec w_Expander_expandName ({ frames := 4, cells := dnZ, slots := dsZ, locals := 118 } : Room)).room s m ([.ref a0, .int i1, .ref a2] : List Value).toArray below meth c H locs (cells + dn) (slots + ds) (MQ below (va_Qi (fun r' (_ : Unit) => r' = r) (fun (_ : Unit) t => hW D dA classes b0 (nxZ + dnZ) h' t.heap) (hA b0)) ([.ref a0, .int i1, .ref a2] : List Value).toArray s dnZ dsZ (hA b0)) (F0 m 90 ls [])) → W p l e (headSpec w_Expander_expandName ({ frames := 4, cells := dnZ, slots := dsZ, locals := 118 } : Room)).room s m ([.ref a0, .int i1, .ref a2] : List Value).toArray below meth c H locs cells slots (MQ below (va_Qi (fun r' (_ : Unit) => r' = r) (fun (_ : Unit) t => hW D dA classes b0 (nxZ + dnZ) h' t.heap) (hA b0)) ([.ref a0, .int i1, .ref a2] : List Value).toArray s dnZ dsZ (hA b0)) (F0 m 27 ls []) := by
    intro x1 x3 n9
    induction n9 with
    | zero =>
      intro x9 cells slots dn ds nx h b9 h9 H locs ls hrun
      cases hrun
    | succ n9 ih =>
      rintro ⟨x4, x5⟩ cells slots dn ds nx h b9 h9 H locs ls hrun hcB hsB hw hS hl k0
      have hl : lv_has ls 7 [(0, .ref a0), (1, .int x1), (2, .ref a2), (3, .int x3), (4, .int x4), (5, .int x5)] := hl
      unfold hloopA at hrun
      obtain ⟨q9, dnb, dsb, h9b, dnr, dsr, hbody, hrun9, edn, eds⟩ := hbind_some hrun
      have K0 : (∀ (z4 : Int32) (z5 : Int32), q9 = .inl (z4, z5) → ∀ (H : Heap) (locs : List Loc) (ls : Array Slot), hW D dA classes b0 (nx + dnb) h9b H → va_S (hA b0) s.heap H locs → lv_has ls 7 [(0, .ref a0), (1, .int x1), (2, .ref a2), (3, .int x3), (4, .int z4), (5, .int z5)] → W p l e (headSpec w_Expander_expandName ({ frames := 4, cells := dnZ, slots := dsZ, locals := 118 } : Room)).room s m ([.ref a0, .int i1, .ref a2] : List Value).toArray below meth c H locs (cells + dnb) (slots + dsb) (MQ below (va_Qi (fun r' (_ : Unit) => r' = r) (fun (_ : Unit) t => hW D dA classes b0 (nxZ + dnZ) h' t.heap) (hA b0)) ([.ref a0, .int i1, .ref a2] : List Value).toArray s dnZ dsZ (hA b0)) (F0 m 27 ls [])) := by
        intro z4 z5 eq9 H locs ls hw hS hl
        subst eq9
        exact ih (z4, z5) (cells + dnb) (slots + dsb) dnr dsr (nx + dnb) h9b b9 h9 H locs ls hrun9 (by omega) (by omega) hw hS hl (by have q := k0; rw [show nx + dn = nx + dnb + dnr by omega, show cells + dn = cells + dnb + dnr by omega, show slots + ds = slots + dsb + dsr by omega] at q; exact q)
      have K1 : (∀ (z4 : Int32), q9 = .inr z4 → ∀ (H : Heap) (locs : List Loc) (ls : Array Slot), hW D dA classes b0 (nx + dnb) h9b H → va_S (hA b0) s.heap H locs → lv_has ls 7 [(0, .ref a0), (1, .int x1), (2, .ref a2), (3, .int x3), (4, .int z4)] → W p l e (headSpec w_Expander_expandName ({ frames := 4, cells := dnZ, slots := dsZ, locals := 118 } : Room)).room s m ([.ref a0, .int i1, .ref a2] : List Value).toArray below meth c H locs (cells + dnb) (slots + dsb) (MQ below (va_Qi (fun r' (_ : Unit) => r' = r) (fun (_ : Unit) t => hW D dA classes b0 (nxZ + dnZ) h' t.heap) (hA b0)) ([.ref a0, .int i1, .ref a2] : List Value).toArray s dnZ dsZ (hA b0)) (F0 m 90 ls [])) := by
        intro z4 eq9 H locs ls hw hS hl
        subst eq9
        cases hrun9
        subst edn; subst eds
        exact k0 _ rfl H locs ls hw hS hl
      clear hrun hrun9 ih k0
      have hrun := hbody
      clear hbody
      replace hcB : cells + dnb ≤ dnZ := by omega
      replace hsB : slots + dsb ≤ dsZ := by omega
      clear edn eds
      have j_82 : ∀  (x1 : Int32) (x3 : Int32) (x5 : Int32) (y0 : Int32) (q9 : (Int32 × Int32) ⊕ ((Int32))) (h9 : hH) (cells slots dn ds nx : Nat) (h : hH) (H : Heap) (locs : List Loc) (ls : Array Slot), f_Expander_expandName_j82 n a0 x1 a2 x3 x5 y0 nx h = some (q9, dn, ds, h9) → cells + dn ≤ dnZ → slots + ds ≤ dsZ → hW D dA classes b0 nx h H → va_S (hA b0) s.heap H locs → lv_has ls 7 [(0, .ref a0), (1, .int x1), (2, .ref a2), (3, .int x3), (5, .int x5)] → (∀ (z4 : Int32) (z5 : Int32), q9 = .inl (z4, z5) → ∀ (H : Heap) (locs : List Loc) (ls : Array Slot), hW D dA classes b0 (nx + dn) h9 H → va_S (hA b0) s.heap H locs → lv_has ls 7 [(0, .ref a0), (1, .int x1), (2, .ref a2), (3, .int x3), (4, .int z4), (5, .int z5)] → W p l e (headSpec w_Expander_expandName ({ frames := 4, cells := dnZ, slots := dsZ, locals := 118 } : Room)).room s m ([.ref a0, .int i1, .ref a2] : List Value).toArray below meth c H locs (cells + dn) (slots + ds) (MQ below (va_Qi (fun r' (_ : Unit) => r' = r) (fun (_ : Unit) t => hW D dA classes b0 (nxZ + dnZ) h' t.heap) (hA b0)) ([.ref a0, .int i1, .ref a2] : List Value).toArray s dnZ dsZ (hA b0)) (F0 m 27 ls [])) → (∀ (z4 : Int32), q9 = .inr z4 → ∀ (H : Heap) (locs : List Loc) (ls : Array Slot), hW D dA classes b0 (nx + dn) h9 H → va_S (hA b0) s.heap H locs → lv_has ls 7 [(0, .ref a0), (1, .int x1), (2, .ref a2), (3, .int x3), (4, .int z4)] → W p l e (headSpec w_Expander_expandName ({ frames := 4, cells := dnZ, slots := dsZ, locals := 118 } : Room)).room s m ([.ref a0, .int i1, .ref a2] : List Value).toArray below meth c H locs (cells + dn) (slots + ds) (MQ below (va_Qi (fun r' (_ : Unit) => r' = r) (fun (_ : Unit) t => hW D dA classes b0 (nxZ + dnZ) h' t.heap) (hA b0)) ([.ref a0, .int i1, .ref a2] : List Value).toArray s dnZ dsZ (hA b0)) (F0 m 90 ls [])) → W p l e (headSpec w_Expander_expandName ({ frames := 4, cells := dnZ, slots := dsZ, locals := 118 } : Room)).room s m ([.ref a0, .int i1, .ref a2] : List Value).toArray below meth c H locs cells slots (MQ below (va_Qi (fun r' (_ : Unit) => r' = r) (fun (_ : Unit) t => hW D dA classes b0 (nxZ + dnZ) h' t.heap) (hA b0)) ([.ref a0, .int i1, .ref a2] : List Value).toArray s dnZ dsZ (hA b0)) (F0 m 82 ls [.int y0]) := by
        intro x1 x3 x5 y0 q9 h9 cells slots dn ds nx h H locs ls hrun hcB hsB hw hS hl k0 k1
        unfold f_Expander_expandName_j82 at hrun
        have hcR : cells + dn = cells + dn := rfl
        have hsR : slots + ds = slots + ds := rfl
        have hnR : nx + dn = nx + dn := rfl
        refine lv_istore (lv' := [(4, .int y0), (0, .ref a0), (1, .int x1), (2, .ref a2), (3, .int x3), (5, .int x5)]) hx hb d_Expander_expandName_82 hl (by decide) rfl (fun ls hl => ?_)
        refine lv_iinc (v := (x5 + (1 : Int32))) (lv' := [(5, .int (x5 + (1 : Int32))), (4, .int y0), (0, .ref a0), (1, .int x1), (2, .ref a2), (3, .int x3)]) hx hb d_Expander_expandName_84 hl (k := 5) rfl rfl (by decide) rfl (fun ls hl => ?_)
        refine lv_goto (tgt := 27) hx hb d_Expander_expandName_87 (by decide) ?_
        cases hrun
        exact W.widen (by omega) (by omega) (k0 y0 (x5 + (1 : Int32)) rfl H locs ls hw hS (lv_sub hl [2, 3, 4, 5, 1, 0] rfl))
      dsimp only [f_Expander_expandName_b27] at hrun
      have hcR : cells + dnb = cells + dnb := rfl
      have hsR : slots + dsb = slots + dsb := rfl
      have hnR : nx + dnb = nx + dnb := rfl
      refine lv_iload hx hb d_Expander_expandName_27 (lv_at hl 5 rfl) ?_
      refine lv_aload_n hx hb d_Expander_expandName_29 rfl (lv_at hl 2 rfl) ?_
      replace hrun := hb_some hrun
      obtain ⟨v30, g30, hrun⟩ := hrun
      refine h_getNI S (fun w q => hT w (i_Macro w q)) hK (ci := 7) rfl 0 (by decide) (hN.1 _ nf_Expander_154) hw g30 d_Expander_expandName_30 ?_
      refine lv_icmp_gt (tgt := 90) hx hb d_Expander_expandName_33 (by decide) (fun c33 => ?_) (fun c33 => ?_)
      · rw [if_pos c33] at hrun
        cases hrun
        exact W.widen (by omega) (by omega) (K1 x4 rfl H locs ls hw hS (lv_sub hl [0, 1, 2, 3, 4] rfl))
      · rw [if_neg c33] at hrun
        refine lv_iload hx hb d_Expander_expandName_36 (lv_at hl 4 rfl) ?_
        refine lv_if_ne (tgt := 90) hx hb d_Expander_expandName_38 (by decide) (fun c38 => ?_) (fun c38 => ?_)
        · rw [if_neg c38] at hrun
          cases hrun
          exact W.widen (by omega) (by omega) (K1 x4 rfl H locs ls hw hS (lv_sub hl [0, 1, 2, 3, 4] rfl))
        · rw [if_pos c38] at hrun
          refine lv_aload_n hx hb d_Expander_expandName_41 rfl (lv_at hl 2 rfl) ?_
          refine lv_iload hx hb d_Expander_expandName_42 (lv_at hl 5 rfl) ?_
          replace hrun := hb_some hrun
          obtain ⟨c44, k44, hrun⟩ := hrun
          replace hrun := hb_some hrun
          obtain ⟨v44, g44, hrun⟩ := hrun
          refine h_cq (h_runV S (As := [.int x5]) (rest := []) (c_Macro_row l D dA b0 a2 x5 nx g44) (cwV 1 S.2.2.2.2 (h_good _ (h_in4 ml_Expander_144 im_Macro_row se_Macro_row it_Macro) cd_Macro_row) rfl rfl rfl (by decide +kernel) ⟨Nat.le_of_ble_eq_true rfl, Nat.le_of_ble_eq_true rfl⟩) hK hN hw (ci := 7) rfl k44 rfl hl.1 (lv_room (Nat.le_of_ble_eq_true rfl)) d_Expander_expandName_44 ⟨show cells + 0 ≤ dnZ by omega, show slots + 0 ≤ dsZ by omega⟩) hS (fun H locs hw hS => ?_)
          refine h_astore (lv' := [(6, va_rf v44), (0, .ref a0), (1, .int x1), (2, .ref a2), (3, .int x3), (4, .int x4), (5, .int x5)]) hx hb d_Expander_expandName_47 hl (by decide) rfl (fun ls hl => ?_)
          refine h_aload hx hb d_Expander_expandName_49 (lv_at hl 0 rfl) ?_
          replace hrun := hb_some hrun
          obtain ⟨p51, rfl, hrun⟩ := hrun
          replace hrun := hb_some hrun
          obtain ⟨v51, g51, hrun⟩ := hrun
          refine h_getNI S (fun w q => hT w (i_Row w q)) hK (ci := 8) rfl 2 (by decide) (hN.1 _ nf_Expander_156) hw g51 d_Expander_expandName_51 ?_
          refine lv_if_ne (tgt := 70) hx hb d_Expander_expandName_54 (by decide) (fun c54 => ?_) (fun c54 => ?_)
          · rw [if_neg c54] at hrun
            refine lv_aload_n hx hb d_Expander_expandName_70 rfl (lv_at hl 1 rfl) ?_
            replace hrun := hb_some hrun
            obtain ⟨v71, g71, hrun⟩ := hrun
            refine h_getR S (fun w q => hT w (i_Expander w q)) hK (ci := 5) rfl 5 (by decide) (hT _ fl_Expander_39) hw g71 d_Expander_expandName_71 ?_
            refine lv_aload hx hb d_Expander_expandName_74 (lv_at hl 0 rfl) ?_
            refine lv_iload hx hb d_Expander_expandName_76 (lv_at hl 6 rfl) ?_
            refine lv_aload_n hx hb d_Expander_expandName_78 rfl (lv_at hl 3 rfl) ?_
            replace hrun := hb_some hrun
            obtain ⟨p79, rfl, hrun⟩ := hrun
            replace hrun := hb_some hrun
            obtain ⟨c79, k79, hrun⟩ := hrun
            replace hrun := hbind_some hrun
            obtain ⟨v79, d79, s79, h79, dn79, ds79, g79, hrun, en79, es79⟩ := hrun
            refine h_ci (h_runV S (As := [.ref p51, .int x5, .ref a2]) (rest := []) (c_Arguments_readUpTo l D dA b0 n p79 p51 x5 a2 nx g79) (cwV 3 S.2.2.2.2 (h_good _ (h_in4 ml_Expander_162 im_Arguments_readUpTo se_Arguments_readUpTo it_Arguments) cd_Arguments_readUpTo) rfl rfl rfl (by decide +kernel) ⟨Nat.le_of_ble_eq_true rfl, Nat.le_of_ble_eq_true rfl⟩) hK hN hw (ci := 2) rfl k79 rfl hl.1 (lv_room (Nat.le_of_ble_eq_true rfl)) d_Expander_expandName_79 ⟨show cells + d79 ≤ dnZ by omega, show slots + s79 ≤ dsZ by omega⟩) hS (fun H locs hw hS => ?_)
            obtain ⟨nx79, ex79⟩ : ∃ z, z = nx + d79 := ⟨_, rfl⟩
            rw [← ex79] at hw
            try rw [← ex79] at hrun
            replace hcR : (cells + d79) + dn79 = cells + dnb := by omega
            replace hsR : (slots + s79) + ds79 = slots + dsb := by omega
            replace hnR : nx79 + dn79 = nx + dnb := by omega
            clear en79 es79 ex79
            exact j_82 x1 x3 x5 v79 _ _ (cells + d79) (slots + s79) _ _ nx79 h79 _ _ _ hrun (by omega) (by omega) hw hS (lv_sub hl [1, 2, 3, 4, 6] rfl) (by have q := K0; rw [show nx + dnb = nx79 + dn79 by omega, show cells + dnb = (cells + d79) + dn79 by omega, show slots + dsb = (slots + s79) + ds79 by omega] at q; exact q) (by have q := K1; rw [show nx + dnb = nx79 + dn79 by omega, show cells + dnb = (cells + d79) + dn79 by omega, show slots + dsb = (slots + s79) + ds79 by omega] at q; exact q)
          · rw [if_pos c54] at hrun
            refine lv_aload_n hx hb d_Expander_expandName_57 rfl (lv_at hl 1 rfl) ?_
            replace hrun := hb_some hrun
            obtain ⟨v58, g58, hrun⟩ := hrun
            refine h_getR S (fun w q => hT w (i_Expander w q)) hK (ci := 5) rfl 5 (by decide) (hT _ fl_Expander_39) hw g58 d_Expander_expandName_58 ?_
            refine lv_iload hx hb d_Expander_expandName_61 (lv_at hl 6 rfl) ?_
            refine lv_aload_n hx hb d_Expander_expandName_63 rfl (lv_at hl 3 rfl) ?_
            replace hrun := hb_some hrun
            obtain ⟨p64, rfl, hrun⟩ := hrun
            replace hrun := hb_some hrun
            obtain ⟨c64, k64, hrun⟩ := hrun
            replace hrun := hbind_some hrun
            obtain ⟨v64, d64, s64, h64, dn64, ds64, g64, hrun, en64, es64⟩ := hrun
            refine h_ci (h_runV S (As := [.int x5, .ref a2]) (rest := []) (c_Arguments_readNext l D dA b0 n p64 x5 a2 nx g64) (cwV 2 S.2.2.2.2 (h_good _ (h_in4 ml_Expander_159 im_Arguments_readNext se_Arguments_readNext it_Arguments) cd_Arguments_readNext) rfl rfl rfl (by decide +kernel) ⟨Nat.le_of_ble_eq_true rfl, Nat.le_of_ble_eq_true rfl⟩) hK hN hw (ci := 2) rfl k64 rfl hl.1 (lv_room (Nat.le_of_ble_eq_true rfl)) d_Expander_expandName_64 ⟨show cells + d64 ≤ dnZ by omega, show slots + s64 ≤ dsZ by omega⟩) hS (fun H locs hw hS => ?_)
            obtain ⟨nx64, ex64⟩ : ∃ z, z = nx + d64 := ⟨_, rfl⟩
            rw [← ex64] at hw
            try rw [← ex64] at hrun
            replace hcR : (cells + d64) + dn64 = cells + dnb := by omega
            replace hsR : (slots + s64) + ds64 = slots + dsb := by omega
            replace hnR : nx64 + dn64 = nx + dnb := by omega
            clear en64 es64 ex64
            refine lv_goto (tgt := 82) hx hb d_Expander_expandName_67 (by decide) ?_
            exact j_82 x1 x3 x5 v64 _ _ (cells + d64) (slots + s64) _ _ nx64 h64 _ _ _ hrun (by omega) (by omega) hw hS (lv_sub hl [1, 2, 3, 4, 6] rfl) (by have q := K0; rw [show nx + dnb = nx64 + dn64 by omega, show cells + dnb = (cells + d64) + dn64 by omega, show slots + dsb = (slots + s64) + ds64 by omega] at q; exact q) (by have q := K1; rw [show nx + dnb = nx64 + dn64 by omega, show cells + dnb = (cells + d64) + dn64 by omega, show slots + dsb = (slots + s64) + ds64 by omega] at q; exact q)
  unfold f_Expander_expandName at hrun
  refine lv_aload_n hx hb d_Expander_expandName_0 rfl (lv_at hl 0 rfl) ?_
  replace hrun := hb_some hrun
  obtain ⟨v1, g1, hrun⟩ := hrun
  refine h_getI S (fun w q => hT w (i_Expander w q)) hK (ci := 5) rfl 13 (by decide) (hT _ fl_Expander_69) hw g1 d_Expander_expandName_1 ?_
  refine lv_istore_n (lv' := [(3, .int v1), (0, .ref a0), (1, .int i1), (2, .ref a2)]) hx hb d_Expander_expandName_4 rfl hl (by decide) rfl (fun ls hl => ?_)
  refine lv_aload_n hx hb d_Expander_expandName_5 rfl (lv_at hl 1 rfl) ?_
  refine lv_iload_n hx hb d_Expander_expandName_6 rfl (lv_at hl 2 rfl) ?_
  replace hrun := hb_some hrun
  obtain ⟨h7, g7, hrun⟩ := hrun
  refine h_put S (fun w q => hT w (i_Expander w q)) t_Expander t_Expander_ok n_Expander hK (ci := 5) rfl 13 (by decide) (hT _ fl_Expander_69) rfl rfl rfl hw hS g7 d_Expander_expandName_7 (fun H locs hw hS => ?_)
  refine lv_aload_n hx hb d_Expander_expandName_10 rfl (lv_at hl 1 rfl) ?_
  replace hrun := hb_some hrun
  obtain ⟨v11, g11, hrun⟩ := hrun
  refine h_getR S (fun w q => hT w (i_Expander w q)) hK (ci := 5) rfl 5 (by decide) (hT _ fl_Expander_39) hw g11 d_Expander_expandName_11 ?_
  refine lv_aload_n hx hb d_Expander_expandName_14 rfl (lv_at hl 3 rfl) ?_
  refine lv_iconst (v := (0 : Int32)) hx hb d_Expander_expandName_15 (by decide) ?_
  replace hrun := hb_some hrun
  obtain ⟨c16, k16, hrun⟩ := hrun
  replace hrun := hb_some hrun
  obtain ⟨v16, g16, hrun⟩ := hrun
  refine h_cq (h_runV S (As := [.int (0 : Int32)]) (rest := [va_rf v11]) (c_Macro_row l D dA b0 a2 (0 : Int32) nx g16) (cwV 1 S.2.2.2.2 (h_good _ (h_in4 ml_Expander_144 im_Macro_row se_Macro_row it_Macro) cd_Macro_row) rfl rfl rfl (by decide +kernel) ⟨Nat.le_of_ble_eq_true rfl, Nat.le_of_ble_eq_true rfl⟩) hK hN hw (ci := 7) rfl k16 rfl hl.1 (lv_room (by simp only [List.map, List.sum_cons, List.sum_nil, h_cat]; exact Nat.le_of_ble_eq_true rfl)) d_Expander_expandName_16 ⟨show 0 + 0 ≤ dnZ by omega, show 0 + 0 ≤ dsZ by omega⟩) hS (fun H locs hw hS => ?_)
  replace hrun := hb_some hrun
  obtain ⟨p19, rfl, hrun⟩ := hrun
  replace hrun := hb_some hrun
  obtain ⟨p19_0, rfl, hrun⟩ := hrun
  replace hrun := hb_some hrun
  obtain ⟨c19, k19, hrun⟩ := hrun
  replace hrun := hbW_some hrun
  obtain ⟨v19, h19, g19, hrun⟩ := hrun
  refine h_ci (h_runV S (As := [.ref p19_0]) (rest := []) (c_Arguments_readRow l D dA b0 n p19 p19_0 nx g19) (cwV 1 S.2.2.2.2 (h_good _ (h_in4 ml_Expander_150 im_Arguments_readRow se_Arguments_readRow it_Arguments) cd_Arguments_readRow) rfl rfl rfl (by decide +kernel) ⟨Nat.le_of_ble_eq_true rfl, Nat.le_of_ble_eq_true rfl⟩) hK hN hw (ci := 2) rfl k19 rfl hl.1 (lv_room (Nat.le_of_ble_eq_true rfl)) d_Expander_expandName_19 ⟨show 0 + 0 ≤ dnZ by omega, show 0 + 0 ≤ dsZ by omega⟩) hS (fun H locs hw hS => ?_)
  refine lv_istore (lv' := [(4, .int v19), (3, .int v1), (0, .ref a0), (1, .int i1), (2, .ref a2)]) hx hb d_Expander_expandName_22 hl (by decide) rfl (fun ls hl => ?_)
  refine lv_iconst (v := (1 : Int32)) hx hb d_Expander_expandName_24 (by decide) ?_
  refine lv_istore (lv' := [(5, .int (1 : Int32)), (4, .int v19), (3, .int v1), (0, .ref a0), (1, .int i1), (2, .ref a2)]) hx hb d_Expander_expandName_25 hl (by decide) rfl (fun ls hl => ?_)
  replace hrun := hbind_some hrun
  obtain ⟨b27, d27, s27, h27l, dn27, ds27, g27, hrun, en27, es27⟩ := hrun
  refine l_27 i1 v1 n (v19, (1 : Int32)) 0 0 _ _ nx h19 _ _ _ _ _ g27 (by omega) (by omega) hw hS (lv_sub hl [3, 4, 5, 2, 1, 0] rfl) ?_
  · rintro x4_27 eq9 H locs ls hw hS hl
    obtain rfl := eq9.symm
    obtain ⟨nx27l, ex27⟩ : ∃ z, z = nx + d27 := ⟨_, rfl⟩
    rw [← ex27] at hw
    try rw [← ex27] at hrun
    replace hcR : (0 + d27) + dn27 = dnZ := by omega
    replace hsR : (0 + s27) + ds27 = dsZ := by omega
    replace hnR : nx27l + dn27 = nxZ + dnZ := by omega
    clear en27 es27 ex27
    try dsimp only at hrun
    refine lv_iload hx hb d_Expander_expandName_90 (lv_at hl 4 rfl) ?_
    refine lv_if_eq (tgt := 98) hx hb d_Expander_expandName_92 (by decide) (fun c92 => ?_) (fun c92 => ?_)
    · rw [if_pos c92] at hrun
      refine lv_aload_n hx hb d_Expander_expandName_98 rfl (lv_at hl 0 rfl) ?_
      refine lv_aload_n hx hb d_Expander_expandName_99 rfl (lv_at hl 2 rfl) ?_
      replace hrun := hb_some hrun
      obtain ⟨c100, k100, hrun⟩ := hrun
      replace hrun := hb_some hrun
      obtain ⟨v100, g100, hrun⟩ := hrun
      refine h_ci (h_runV S (As := [.ref a2]) (rest := []) (c_Expander_sizeOfText l D dA b0 n a0 a2 nx27l g100) (cwV 1 S.2.2.2.2 (h_good _ (h_in4 ml_Expander_166 im_Expander_sizeOfText se_Expander_sizeOfText it_Expander) cd_Expander_sizeOfText) rfl rfl rfl (by decide +kernel) ⟨Nat.le_of_ble_eq_true rfl, Nat.le_of_ble_eq_true rfl⟩) hK hN hw (ci := 5) rfl k100 rfl hl.1 (lv_room (Nat.le_of_ble_eq_true rfl)) d_Expander_expandName_100 ⟨show (0 + d27) + 0 ≤ dnZ by omega, show (0 + s27) + 0 ≤ dsZ by omega⟩) hS (fun H locs hw hS => ?_)
      refine lv_istore (lv' := [(5, .int v100), (0, .ref a0), (1, .int i1), (2, .ref a2), (3, .int v1), (4, .int x4_27)]) hx hb d_Expander_expandName_103 hl (by decide) rfl (fun ls hl => ?_)
      refine lv_iload hx hb d_Expander_expandName_105 (lv_at hl 0 rfl) ?_
      refine lv_sipush (v := (3000 : Int32)) hx hb d_Expander_expandName_107 (by decide) ?_
      refine lv_aload_n hx hb d_Expander_expandName_110 rfl (lv_at hl 1 rfl) ?_
      replace hrun := hb_some hrun
      obtain ⟨v111, g111, hrun⟩ := hrun
      refine h_getR S (fun w q => hT w (i_Expander w q)) hK (ci := 5) rfl 1 (by decide) (hT _ fl_Expander_15) hw g111 d_Expander_expandName_111 ?_
      replace hrun := hb_some hrun
      obtain ⟨p114, rfl, hrun⟩ := hrun
      replace hrun := hb_some hrun
      obtain ⟨v114, g114, hrun⟩ := hrun
      refine h_getNI S (fun w q => hT w (i_Input w q)) hK (ci := 6) rfl 1 (by decide) (hN.1 _ nf_Expander_115) hw g114 d_Expander_expandName_114 ?_
      refine lv_isub hx hb d_Expander_expandName_117 ?_
      refine lv_icmp_le (tgt := 124) hx hb d_Expander_expandName_118 (by decide) (fun c118 => ?_) (fun c118 => ?_)
      · rw [if_pos c118] at hrun
        refine lv_aload_n hx hb d_Expander_expandName_124 rfl (lv_at hl 1 rfl) ?_
        refine lv_aload_n hx hb d_Expander_expandName_125 rfl (lv_at hl 3 rfl) ?_
        replace hrun := hb_some hrun
        obtain ⟨c126, k126, hrun⟩ := hrun
        replace hrun := hbW_some hrun
        obtain ⟨_u126, h126, g126, hrun⟩ := hrun
        refine h_cv (h_runV S (As := [.ref a2]) (rest := []) (c_Expander_putText l D dA b0 n a0 a2 nx27l g126) (cwV 1 S.2.2.2.2 (h_good _ (h_in4 ml_Expander_170 im_Expander_putText se_Expander_putText it_Expander) cd_Expander_putText) rfl rfl rfl (by decide +kernel) ⟨Nat.le_of_ble_eq_true rfl, Nat.le_of_ble_eq_true rfl⟩) hK hN hw (ci := 5) rfl k126 rfl hl.1 (lv_room (Nat.le_of_ble_eq_true rfl)) d_Expander_expandName_126 ⟨show (0 + d27) + 0 ≤ dnZ by omega, show (0 + s27) + 0 ≤ dsZ by omega⟩) hS (fun H locs hw hS => ?_)
        refine lv_aload_n hx hb d_Expander_expandName_129 rfl (lv_at hl 1 rfl) ?_
        replace hrun := hb_some hrun
        obtain ⟨v130, g130, hrun⟩ := hrun
        refine h_getR S (fun w q => hT w (i_Expander w q)) hK (ci := 5) rfl 4 (by decide) (hT _ fl_Expander_30) hw g130 d_Expander_expandName_130 ?_
        refine lv_iload_n hx hb d_Expander_expandName_133 rfl (lv_at hl 2 rfl) ?_
        refine lv_aload_n hx hb d_Expander_expandName_134 rfl (lv_at hl 1 rfl) ?_
        replace hrun := hb_some hrun
        obtain ⟨v135, g135, hrun⟩ := hrun
        refine h_getR S (fun w q => hT w (i_Expander w q)) hK (ci := 5) rfl 5 (by decide) (hT _ fl_Expander_39) hw g135 d_Expander_expandName_135 ?_
        refine lv_aload_n hx hb d_Expander_expandName_138 rfl (lv_at hl 3 rfl) ?_
        replace hrun := hb_some hrun
        obtain ⟨v139, g139, hrun⟩ := hrun
        refine h_getNI S (fun w q => hT w (i_Macro w q)) hK (ci := 7) rfl 0 (by decide) (hN.1 _ nf_Expander_154) hw g139 d_Expander_expandName_139 ?_
        replace hrun := hb_some hrun
        obtain ⟨p142, rfl, hrun⟩ := hrun
        replace hrun := hb_some hrun
        obtain ⟨c142, k142, hrun⟩ := hrun
        replace hrun := hb_some hrun
        obtain ⟨v142, g142, hrun⟩ := hrun
        refine h_ci (h_runV S (As := [.int v139]) (rest := [.int i1, va_rf v130]) (c_Arguments_sizeOfAll l D dA b0 n p142 v139 nx27l g142) (cwV 1 S.2.2.2.2 (h_good _ (h_in4 ml_Expander_174 im_Arguments_sizeOfAll se_Arguments_sizeOfAll it_Arguments) cd_Arguments_sizeOfAll) rfl rfl rfl (by decide +kernel) ⟨Nat.le_of_ble_eq_true rfl, Nat.le_of_ble_eq_true rfl⟩) hK hN hw (ci := 2) rfl k142 rfl hl.1 (lv_room (by simp only [List.map, List.sum_cons, List.sum_nil, h_cat]; exact Nat.le_of_ble_eq_true rfl)) d_Expander_expandName_142 ⟨show (0 + d27) + 0 ≤ dnZ by omega, show (0 + s27) + 0 ≤ dsZ by omega⟩) hS (fun H locs hw hS => ?_)
        refine lv_iload hx hb d_Expander_expandName_145 (lv_at hl 0 rfl) ?_
        replace hrun := hb_some hrun
        obtain ⟨p147, rfl, hrun⟩ := hrun
        replace hrun := hb_some hrun
        obtain ⟨c147, k147, hrun⟩ := hrun
        replace hrun := hbW_some hrun
        obtain ⟨_u147, h147, g147, hrun⟩ := hrun
        refine h_cv (h_runV S (As := [.int i1, .int v142, .int v100]) (rest := []) (c_Trace_add l D dA b0 p147 i1 v142 v100 nx27l g147) (cwV 3 S.2.2.2.2 (h_good _ (h_in4 ml_Expander_177 im_Trace_add se_Trace_add it_Trace) cd_Trace_add) rfl rfl rfl (by decide +kernel) ⟨Nat.le_of_ble_eq_true rfl, Nat.le_of_ble_eq_true rfl⟩) hK hN hw (ci := 10) rfl k147 rfl hl.1 (lv_room (Nat.le_of_ble_eq_true rfl)) d_Expander_expandName_147 ⟨show (0 + d27) + 0 ≤ dnZ by omega, show (0 + s27) + 0 ≤ dsZ by omega⟩) hS (fun H locs hw hS => ?_)
        refine lv_aload_n hx hb d_Expander_expandName_150 rfl (lv_at hl 1 rfl) ?_
        refine lv_iload_n hx hb d_Expander_expandName_151 rfl (lv_at hl 4 rfl) ?_
        replace hrun := hb_some hrun
        obtain ⟨h152, g152, hrun⟩ := hrun
        refine h_put S (fun w q => hT w (i_Expander w q)) t_Expander t_Expander_ok n_Expander hK (ci := 5) rfl 13 (by decide) (hT _ fl_Expander_69) rfl rfl rfl hw hS g152 d_Expander_expandName_152 (fun H locs hw hS => ?_)
        refine lv_iconst (v := (0 : Int32)) hx hb d_Expander_expandName_155 (by decide) ?_
        cases hrun
        refine W.widen (k := dnZ) (n := dsZ) (by omega) (by omega) ?_
        rw [show nx27l = nxZ + dnZ by omega] at hw
        exact W.iret hx hb hr (fun t ht hW9 => ⟨⟨_, (), rfl, rfl, by show hW D dA classes b0 _ _ t.heap; rw [ht]; exact hw⟩, hS.F ht⟩) hS.2.2 d_Expander_expandName_156
      · rw [if_neg c118] at hrun
        refine lv_bipush (v := (8 : Int32)) hx hb d_Expander_expandName_121 (by decide) ?_
        cases hrun
        refine W.widen (k := dnZ) (n := dsZ) (by omega) (by omega) ?_
        rw [show nx27l = nxZ + dnZ by omega] at hw
        exact W.iret hx hb hr (fun t ht hW9 => ⟨⟨_, (), rfl, rfl, by show hW D dA classes b0 _ _ t.heap; rw [ht]; exact hw⟩, hS.F ht⟩) hS.2.2 d_Expander_expandName_123
    · rw [if_neg c92] at hrun
      refine lv_iload hx hb d_Expander_expandName_95 (lv_at hl 4 rfl) ?_
      cases hrun
      refine W.widen (k := dnZ) (n := dsZ) (by omega) (by omega) ?_
      rw [show nx27l = nxZ + dnZ by omega] at hw
      exact W.iret hx hb hr (fun t ht hW9 => ⟨⟨_, (), rfl, rfl, by show hW D dA classes b0 _ _ t.heap; rw [ht]; exact hw⟩, hS.F ht⟩) hS.2.2 d_Expander_expandName_97
