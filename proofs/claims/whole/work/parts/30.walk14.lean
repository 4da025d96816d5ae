set_option maxHeartbeats 4000000 in
set_option maxRecDepth 100000 in
theorem c_Book_isOuter (l : Launch) (D : va_G) (dA : Nat → ClassId) (b0 : Nat) (a0 : Nat) (i1 : Int32) (nx : Nat) {h : hH} {r : Int32} (hrun : f_Book_isOuter a0 i1 h = some r) : Met l y_Book_isOuter w_Book_isOuter ({ frames := 0, cells := 0, slots := 0, locals := 0 } : Room) (va_Pc [.ref a0, .int i1] (hB D dA b0 nx h)) (va_Qi (fun r' (_ : Unit) => r' = r) (fun (_ : Unit) t => hW D dA classes b0 nx h t.heap) (hA b0)) 0 0 (hA b0) := by
  refine Met.ofW (cc := b_Book_isOuter) (maxL := 5) (ret := (some .boolean)) (by decide) rfl ?_
  intro p e s m args below meth c s₁ B hml hv
  obtain ⟨rfl, hw, hK, hN⟩ := hv
  have hx := B.exec
  have hb := B.bytes
  have hr := B.returns
  have hlocks := B.notSynchronized
  have S : CallFix p m c b_Book_isOuter 5 s ([.ref a0, .int i1] : List Value).toArray w_Book_isOuter R_Book := ⟨hx, hb, hml, findClass_of_methodNamed B.named, atoms_spec (ws := w_Book_isOuter) B.pre⟩
  have hT : ∀ w ∈ tbl, w ∈ w_Book_isOuter := fun _ q => List.mem_cons_of_mem _ q
  have hS : va_S (hA b0) s.heap s.heap [] := va_S.rf
  have hl := lv_entry ([.ref a0, .int i1]) (n := 5) (Nat.le_of_ble_eq_true rfl)
  rw [lg_entry_eq]
  generalize (lg_sl ([.ref a0, .int i1]) ++ List.replicate (5 - (lg_sl ([.ref a0, .int i1])).length) Slot.unset).toArray = ls at hl ⊢
  have hl : lv_has ls 5 [(0, .ref a0), (1, .int i1)] := hl
  have j_48 : ∀  (y0 : Option Nat) (H : Heap) (locs : List Loc) (ls : Array Slot), f_Book_isOuter_j48 y0 h = some r → hW D dA classes b0 nx h H → va_S (hA b0) s.heap H locs → lv_has ls 5 [] → W p l e (headSpec w_Book_isOuter ({ frames := 0, cells := 0, slots := 0, locals := 0 } : Room)).room s m ([.ref a0, .int i1] : List Value).toArray below meth c H locs 0 0 (MQ below (va_Qi (fun r' (_ : Unit) => r' = r) (fun (_ : Unit) t => hW D dA classes b0 nx h t.heap) (hA b0)) ([.ref a0, .int i1] : List Value).toArray s 0 0 (hA b0)) (F0 m 48 ls [va_rf y0]) := by
    intro y0 H locs ls hrun hw hS hl
    unfold f_Book_isOuter_j48 at hrun
    refine h_astore (lv' := [(4, va_rf y0)]) hx hb d_Book_isOuter_48 hl (by decide) rfl (fun ls hl => ?_)
    refine h_aload hx hb d_Book_isOuter_50 (lv_at hl 0 rfl) ?_
    rcases y0 with _ | p52
    · dsimp only [hNull] at hrun
      refine lv_ifnullN (tgt := 67) hx hb d_Book_isOuter_52 (by decide) ?_
      refine lv_iconst (v := (0 : Int32)) hx hb d_Book_isOuter_67 (by decide) ?_
      cases hrun
      exact W.zret hx hb hr (by decide) (fun t ht hW9 => ⟨⟨_, (), rfl, rfl, by show hW D dA classes b0 _ _ t.heap; rw [ht]; exact hw⟩, hS.F ht⟩) hS.2.2 d_Book_isOuter_68
    · dsimp only [hNull] at hrun
      refine lv_ifnull hx hb d_Book_isOuter_52 ?_
      refine lv_aload hx hb d_Book_isOuter_55 (lv_at hl 0 rfl) ?_
      replace hrun := hb_some hrun
      obtain ⟨v57, g57, hrun⟩ := hrun
      refine h_getNI S (fun w q => hT w (i_Macro w q)) hK (ci := 7) rfl 2 (by decide) (hN.1 _ nf_Book_47) hw g57 d_Book_isOuter_57 ?_
      refine lv_if_eq (tgt := 67) hx hb d_Book_isOuter_60 (by decide) (fun c60 => ?_) (fun c60 => ?_)
      · rw [if_pos c60] at hrun
        refine lv_iconst (v := (0 : Int32)) hx hb d_Book_isOuter_67 (by decide) ?_
        cases hrun
        exact W.zret hx hb hr (by decide) (fun t ht hW9 => ⟨⟨_, (), rfl, rfl, by show hW D dA classes b0 _ _ t.heap; rw [ht]; exact hw⟩, hS.F ht⟩) hS.2.2 d_Book_isOuter_68
      · rw [if_neg c60] at hrun
        refine lv_iconst (v := (1 : Int32)) hx hb d_Book_isOuter_63 (by decide) ?_
        refine lv_goto (tgt := 68) hx hb d_Book_isOuter_64 (by decide) ?_
        cases hrun
        exact W.zret hx hb hr (by decide) (fun t ht hW9 => ⟨⟨_, (), rfl, rfl, by show hW D dA classes b0 _ _ t.heap; rw [ht]; exact hw⟩, hS.F ht⟩) hS.2.2 d_Book_isOuter_68
  have j_47 : ∀   (H : Heap) (locs : List Loc) (ls : Array Slot), f_Book_isOuter_j47  h = some r → hW D dA classes b0 nx h H → va_S (hA b0) s.heap H locs → lv_has ls 5 [] → W p l e (headSpec w_Book_isOuter ({ frames := 0, cells := 0, slots := 0, locals := 0 } : Room)).room s m ([.ref a0, .int i1] : List Value).toArray below meth c H locs 0 0 (MQ below (va_Qi (fun r' (_ : Unit) => r' = r) (fun (_ : Unit) t => hW D dA classes b0 nx h t.heap) (hA b0)) ([.ref a0, .int i1] : List Value).toArray s 0 0 (hA b0)) (F0 m 47 ls []) := by
    intro H locs ls hrun hw hS hl
    unfold f_Book_isOuter_j47 at hrun
    refine lv_null hx hb d_Book_isOuter_47 ?_
    exact j_48 none _ _ _ hrun hw hS (lv_sub hl [] rfl)
  unfold f_Book_isOuter at hrun
  refine lv_iload_n hx hb d_Book_isOuter_0 rfl (lv_at hl 1 rfl) ?_
  refine lv_sipush (v := (1000 : Int32)) hx hb d_Book_isOuter_1 (by decide) ?_
  refine lv_isub hx hb d_Book_isOuter_4 ?_
  refine lv_istore_n (lv' := [(2, .int (i1 - (1000 : Int32))), (0, .ref a0), (1, .int i1)]) hx hb d_Book_isOuter_5 rfl hl (by decide) rfl (fun ls hl => ?_)
  refine lv_iload_n hx hb d_Book_isOuter_6 rfl (lv_at hl 0 rfl) ?_
  refine lv_if_lt (tgt := 17) hx hb d_Book_isOuter_7 (by decide) (fun c7 => ?_) (fun c7 => ?_)
  · rw [if_pos c7] at hrun
    refine lv_iconst (v := (0 : Int32)) hx hb d_Book_isOuter_17 (by decide) ?_
    cases hrun
    exact W.zret hx hb hr (by decide) (fun t ht hW9 => ⟨⟨_, (), rfl, rfl, by show hW D dA classes b0 _ _ t.heap; rw [ht]; exact hw⟩, hS.F ht⟩) hS.2.2 d_Book_isOuter_18
  · rw [if_neg c7] at hrun
    refine lv_iload_n hx hb d_Book_isOuter_10 rfl (lv_at hl 0 rfl) ?_
    refine lv_sipush (v := (200 : Int32)) hx hb d_Book_isOuter_11 (by decide) ?_
    refine lv_icmp_lt (tgt := 19) hx hb d_Book_isOuter_14 (by decide) (fun c14 => ?_) (fun c14 => ?_)
    · rw [if_pos c14] at hrun
      refine lv_aload_n hx hb d_Book_isOuter_19 rfl (lv_at hl 1 rfl) ?_
      replace hrun := hb_some hrun
      obtain ⟨v20, g20, hrun⟩ := hrun
      refine h_getR S (fun w q => hT w (i_Book w q)) hK (ci := 3) rfl 1 (by decide) (hT _ fl_Book_17) hw g20 d_Book_isOuter_20 ?_
      refine lv_iload_n hx hb d_Book_isOuter_23 rfl (lv_at hl 0 rfl) ?_
      replace hrun := hb_some hrun
      obtain ⟨p24, rfl, hrun⟩ := hrun
      replace hrun := hb_some hrun
      obtain ⟨v24, g24, hrun⟩ := hrun
      refine h_iald S hK (kd := 0) rfl hw g24 d_Book_isOuter_24 ?_
      refine lv_istore_n (lv' := [(3, .int v24), (2, .int (i1 - (1000 : Int32))), (0, .ref a0), (1, .int i1)]) hx hb d_Book_isOuter_25 rfl hl (by decide) rfl (fun ls hl => ?_)
      refine lv_iload_n hx hb d_Book_isOuter_26 rfl (lv_at hl 0 rfl) ?_
      refine lv_if_lt (tgt := 47) hx hb d_Book_isOuter_27 (by decide) (fun c27 => ?_) (fun c27 => ?_)
      · rw [if_pos c27] at hrun
        exact j_47 _ _ _ hrun hw hS (lv_sub hl [] rfl)
      · rw [if_neg c27] at hrun
        refine lv_iload_n hx hb d_Book_isOuter_30 rfl (lv_at hl 0 rfl) ?_
        refine lv_aload_n hx hb d_Book_isOuter_31 rfl (lv_at hl 2 rfl) ?_
        replace hrun := hb_some hrun
        obtain ⟨v32, g32, hrun⟩ := hrun
        refine h_getI S (fun w q => hT w (i_Book w q)) hK (ci := 3) rfl 3 (by decide) (hT _ fl_Book_32) hw g32 d_Book_isOuter_32 ?_
        refine lv_icmp_ge (tgt := 47) hx hb d_Book_isOuter_35 (by decide) (fun c35 => ?_) (fun c35 => ?_)
        · rw [if_pos c35] at hrun
          exact j_47 _ _ _ hrun hw hS (lv_sub hl [] rfl)
        · rw [if_neg c35] at hrun
          refine lv_aload_n hx hb d_Book_isOuter_38 rfl (lv_at hl 2 rfl) ?_
          replace hrun := hb_some hrun
          obtain ⟨v39, g39, hrun⟩ := hrun
          refine h_getR S (fun w q => hT w (i_Book w q)) hK (ci := 3) rfl 0 (by decide) (hT _ fl_Book_11) hw g39 d_Book_isOuter_39 ?_
          refine lv_iload_n hx hb d_Book_isOuter_42 rfl (lv_at hl 0 rfl) ?_
          replace hrun := hb_some hrun
          obtain ⟨p43, rfl, hrun⟩ := hrun
          replace hrun := hb_some hrun
          obtain ⟨v43, g43, hrun⟩ := hrun
          refine h_aald S hK (kd := 1) rfl hw g43 d_Book_isOuter_43 ?_
          refine lv_goto (tgt := 48) hx hb d_Book_isOuter_44 (by decide) ?_
          exact j_48 v43 _ _ _ hrun hw hS (lv_sub hl [] rfl)
    · rw [if_neg c14] at hrun
      refine lv_iconst (v := (0 : Int32)) hx hb d_Book_isOuter_17 (by decide) ?_
      cases hrun
      exact W.zret hx hb hr (by decide) (fun t ht hW9 => ⟨⟨_, (), rfl, rfl, by show hW D dA classes b0 _ _ t.heap; rw [ht]; exact hw⟩, hS.F ht⟩) hS.2.2 d_Book_isOuter_18
set_option maxHeartbeats 4000000 in
set_option maxRecDepth 100000 in
theorem c_Row_get (l : Launch) (D : va_G) (dA : Nat → ClassId) (b0 : Nat) (a0 : Nat) (i1 : Int32) (nx : Nat) {h : hH} {r : Int32} (hrun : f_Row_get a0 i1 h = some r) : Met l y_Row_get w_Row_get ({ frames := 0, cells := 0, slots := 0, locals := 0 } : Room) (va_Pc [.ref a0, .int i1] (hB D dA b0 nx h)) (va_Qi (fun r' (_ : Unit) => r' = r) (fun (_ : Unit) t => hW D dA classes b0 nx h t.heap) (hA b0)) 0 0 (hA b0) := by
  refine Met.ofW (cc := b_Row_get) (maxL := 2) (ret := (some .int)) (by decide) rfl ?_
  intro p e s m args below meth c s₁ B hml hv
  obtain ⟨rfl, hw, hK, hN⟩ := hv
  have hx := B.exec
  have hb := B.bytes
  have hr := B.returns
  have hlocks := B.notSynchronized
  have S : CallFix p m c b_Row_get 2 s ([.ref a0, .int i1] : List Value).toArray w_Row_get R_Row := ⟨hx, hb, hml, findClass_of_methodNamed B.named, atoms_spec (ws := w_Row_get) B.pre⟩
  have hT : ∀ w ∈ tbl, w ∈ w_Row_get := fun _ q => List.mem_cons_of_mem _ q
  have hS : va_S (hA b0) s.heap s.heap [] := va_S.rf
  have hl := lv_entry ([.ref a0, .int i1]) (n := 2) (Nat.le_of_ble_eq_true rfl)
  rw [lg_entry_eq]
  generalize (lg_sl ([.ref a0, .int i1]) ++ List.replicate (2 - (lg_sl ([.ref a0, .int i1])).length) Slot.unset).toArray = ls at hl ⊢
  have hl : lv_has ls 2 [(0, .ref a0), (1, .int i1)] := hl
  unfold f_Row_get at hrun
  refine lv_iload_n hx hb d_Row_get_0 rfl (lv_at hl 1 rfl) ?_
  refine lv_if_lt (tgt := 30) hx hb d_Row_get_1 (by decide) (fun c1 => ?_) (fun c1 => ?_)
  · rw [if_pos c1] at hrun
    refine lv_iconst (v := (-1 : Int32)) hx hb d_Row_get_30 (by decide) ?_
    cases hrun
    exact W.iret hx hb hr (fun t ht hW9 => ⟨⟨_, (), rfl, rfl, by show hW D dA classes b0 _ _ t.heap; rw [ht]; exact hw⟩, hS.F ht⟩) hS.2.2 d_Row_get_31
  · rw [if_neg c1] at hrun
    refine lv_iload_n hx hb d_Row_get_4 rfl (lv_at hl 1 rfl) ?_
    refine lv_aload_n hx hb d_Row_get_5 rfl (lv_at hl 0 rfl) ?_
    replace hrun := hb_some hrun
    obtain ⟨v6, g6, hrun⟩ := hrun
    refine h_getI S (fun w q => hT w (i_Row w q)) hK (ci := 8) rfl 2 (by decide) (hT _ fl_Row_19) hw g6 d_Row_get_6 ?_
    refine lv_icmp_ge (tgt := 30) hx hb d_Row_get_9 (by decide) (fun c9 => ?_) (fun c9 => ?_)
    · rw [if_pos c9] at hrun
      refine lv_iconst (v := (-1 : Int32)) hx hb d_Row_get_30 (by decide) ?_
      cases hrun
      exact W.iret hx hb hr (fun t ht hW9 => ⟨⟨_, (), rfl, rfl, by show hW D dA classes b0 _ _ t.heap; rw [ht]; exact hw⟩, hS.F ht⟩) hS.2.2 d_Row_get_31
    · rw [if_neg c9] at hrun
      refine lv_iload_n hx hb d_Row_get_12 rfl (lv_at hl 1 rfl) ?_
      refine lv_aload_n hx hb d_Row_get_13 rfl (lv_at hl 0 rfl) ?_
      replace hrun := hb_some hrun
      obtain ⟨v14, g14, hrun⟩ := hrun
      refine h_getR S (fun w q => hT w (i_Row w q)) hK (ci := 8) rfl 1 (by decide) (hT _ fl_Row_15) hw g14 d_Row_get_14 ?_
      replace hrun := hb_some hrun
      obtain ⟨p17, rfl, hrun⟩ := hrun
      replace hrun := hb_some hrun
      obtain ⟨v17, g17, hrun⟩ := hrun
      refine h_alen S hK (kd := 0) rfl hw g17 d_Row_get_17 ?_
      refine lv_icmp_ge (tgt := 30) hx hb d_Row_get_18 (by decide) (fun c18 => ?_) (fun c18 => ?_)
      · rw [if_pos c18] at hrun
        refine lv_iconst (v := (-1 : Int32)) hx hb d_Row_get_30 (by decide) ?_
        cases hrun
        exact W.iret hx hb hr (fun t ht hW9 => ⟨⟨_, (), rfl, rfl, by show hW D dA classes b0 _ _ t.heap; rw [ht]; exact hw⟩, hS.F ht⟩) hS.2.2 d_Row_get_31
      · rw [if_neg c18] at hrun
        refine lv_aload_n hx hb d_Row_get_21 rfl (lv_at hl 0 rfl) ?_
        replace hrun := hb_some hrun
        obtain ⟨v22, g22, hrun⟩ := hrun
        refine h_getR S (fun w q => hT w (i_Row w q)) hK (ci := 8) rfl 1 (by decide) (hT _ fl_Row_15) hw g22 d_Row_get_22 ?_
        refine lv_iload_n hx hb d_Row_get_25 rfl (lv_at hl 1 rfl) ?_
        replace hrun := hb_some hrun
        obtain ⟨p26, rfl, hrun⟩ := hrun
        replace hrun := hb_some hrun
        obtain ⟨v26, g26, hrun⟩ := hrun
        refine h_iald S hK (kd := 0) rfl hw g26 d_Row_get_26 ?_
        refine lv_goto (tgt := 31) hx hb d_Row_get_27 (by decide) ?_
        cases hrun
        exact W.iret hx hb hr (fun t ht hW9 => ⟨⟨_, (), rfl, rfl, by show hW D dA classes b0 _ _ t.heap; rw [ht]; exact hw⟩, hS.F ht⟩) hS.2.2 d_Row_get_31
set_option maxHeartbeats 4000000 in
set_option maxRecDepth 100000 in
theorem c_Arguments_readRow (l : Launch) (D : va_G) (dA : Nat → ClassId) (b0 : Nat) (n : Nat) (a0 : Nat) (a1 : Nat) (nx : Nat) {h h' : hH} {r : Int32} (hrun : f_Arguments_readRow n a0 a1 h = some (r, h')) : Met l y_Arguments_readRow w_Arguments_readRow ({ frames := 1, cells := 0, slots := 0, locals := 24 } : Room) (va_Pc [.ref a0, .ref a1] (hB D dA b0 nx h)) (va_Qi (fun r' (_ : Unit) => r' = r) (fun (_ : Unit) t => hW D dA classes b0 nx h' t.heap) (hA b0)) 0 0 (hA b0) := by
  refine Met.ofW (cc := b_Arguments_readRow) (maxL := 4) (ret := (some .int)) (by decide) rfl ?_
  intro p e s m args below meth c s₁ B hml hv
  obtain ⟨rfl, hw, hK, hN⟩ := hv
  have hx := B.exec
  have hb := B.bytes
  have hr := B.returns
  have hlocks := B.notSynchronized
  have S : CallFix p m c b_Arguments_readRow 4 s ([.ref a0, .ref a1] : List Value).toArray w_Arguments_readRow R_Arguments := ⟨hx, hb, hml, findClass_of_methodNamed B.named, atoms_spec (ws := w_Arguments_readRow) B.pre⟩
  have hT : ∀ w ∈ tbl, w ∈ w_Arguments_readRow := fun _ q => List.mem_cons_of_mem _ q
  have hS : va_S (hA b0) s.heap s.heap [] := va_S.rf
  have hl := lv_entry ([.ref a0, .ref a1]) (n := 4) (Nat.le_of_ble_eq_true rfl)
  rw [lg_entry_eq]
  generalize (lg_sl ([.ref a0, .ref a1]) ++ List.replicate (4 - (lg_sl ([.ref a0, .ref a1])).length) Slot.unset).toArray = ls at hl ⊢
  have hl : lv_has ls 4 [(0, .ref a0), (1, .ref a1)] := hl
  have l_2 : ∀ (n9 : Nat) (x9 : Int32) (h : hH) (b9 : (Unit) ⊕ (Unit) ⊕ (Unit) ⊕ (Unit)) (h9 : hH) (H : Heap) (locs : List Loc) (ls : Array Slot), hloopW (f_Arguments_readRow_b2 n a0 a1) n9 x9 h = some (b9, h9) → hW D dA classes b0 nx h H → va_S (hA b0) s.heap H locs → lv_has ls 4 (match x9 with | x2 => [(0, .ref a0), (1, .ref a1), (2, .int x2)]) → (b9 = .inl () → ∀ (H : Heap) (locs : List Loc) (ls : Array Slot), hW D dA classes b0 nx h9 H → va_S (hA b0) s.heap H locs → lv_has ls 4 [] → W p l e (headSpec w_Arguments_readRow ({ frames := 1, cells := 0, slots := 0, locals := 24 } : Room)).room s m ([.ref a0, .ref a1] : List Value).toArray below meth c H locs 0 0 (MQ below (va_Qi (fun r' (_ : Unit) => r' = r) (fun (_ : Unit) t => hW D dA classes b0 nx h' t.heap) (hA b0)) ([.ref a0, .ref a1] : List Value).toArray s 0 0 (hA b0)) (F0 m 20 ls [])) → (b9 = .inr (.inl ()) → ∀ (H : Heap) (locs : List Loc) (ls : Array Slot), hW D dA classes b0 nx h9 H → va_S (hA b0) s.heap H locs → lv_has ls 4 [] → W p l e (headSpec w_Arguments_readRow ({ frames := 1, cells := 0, slots := 0, locals := 24 } : Room)).room s m ([.ref a0, .ref a1] : List Value).toArray below meth c H locs 0 0 (MQ below (va_Qi (fun r' (_ : Unit) => r' = r) (fun (_ : Unit) t => hW D dA classes b0 nx h' t.heap) (hA b0)) ([.ref a0, .ref a1] : List Value).toArray s 0 0 (hA b0)) (F0 m 41 ls [])) → (b9 = .inr (.inr (.inl ())) → ∀ (H : Heap) (locs : List Loc) (ls : Array Slot), hW D dA classes b0 nx h9 H → va_S (hA b0) s.heap H locs → lv_has ls 4 [] → W p l e (headSpec w_Arguments_readRow ({ frames := 1, cells := 0, slots := 0, locals := 24 } : Room)).room s m ([.ref a0, .ref a1] : List Value).toArray below meth c H locs 0 0 (MQ below (va_Qi (fun r' (_ : Unit) => r' = r) (fun (_ : Unit) t => hW D dA classes b0 nx h' t.heap) (hA b0)) ([.ref a0, .ref a1] : List Value).toArray s 0 0 (hA b0)) (F0 m 52 ls [])) → (b9 = .inr (.inr (.inr (()))) → ∀ (H : Heap) (locs : List Loc) (ls : Array Slot), hW D dA classes b0 nx h9 H → va_S (hA b0) s.heap H locs → lv_has ls 4 [] → W p l e (headSpec w_Arguments_readRow ({ frames := 1, cells := 0, slots := 0, locals := 24 } : Room)).room s m ([.ref a0, .ref a1] : List Value).toArray below meth c H locs 0 0 (MQ below (va_Qi (fun r' (_ : Unit) => r' = r) (fun (_ : Unit) t => hW D dA classes b0 nx h' t.heap) (hA b0)) ([.ref a0, .ref a1] : List Value).toArray s 0 0 (hA b0)) (F0 m 60 ls [])) → W p l e (headSpec w_Arguments_readRow ({ frames := 1, cells := 0, slots := 0, locals := 24 } : Room)).room s m ([.ref a0, .ref a1] : List Value).toArray below meth c H locs 0 0 (MQ below (va_Qi (fun r' (_ : Unit) => r' = r) (fun (_ : Unit) t => hW D dA classes b0 nx h' t.heap) (hA b0)) ([.ref a0, .ref a1] : List Value).toArray s 0 0 (hA b0)) (F0 m 2 ls []) := by
    intro  n9
    induction n9 with
    | zero =>
      intro x9 h b9 h9 H locs ls hrun
      cases hrun
    | succ n9 ih =>
      rintro x2 h b9 h9 H locs ls hrun hw hS hl k0 k1 k2 k3
      have hl : lv_has ls 4 [(0, .ref a0), (1, .ref a1), (2, .int x2)] := hl
      unfold hloopW at hrun
      obtain ⟨q9, h9b, hbody, hrun9⟩ := hbW_some hrun
      have K0 : (∀ (z2 : Int32), q9 = .inl z2 → ∀ (H : Heap) (locs : List Loc) (ls : Array Slot), hW D dA classes b0 nx h9b H → va_S (hA b0) s.heap H locs → lv_has ls 4 [(0, .ref a0), (1, .ref a1), (2, .int z2)] → W p l e (headSpec w_Arguments_readRow ({ frames := 1, cells := 0, slots := 0, locals := 24 } : Room)).room s m ([.ref a0, .ref a1] : List Value).toArray below meth c H locs 0 0 (MQ below (va_Qi (fun r' (_ : Unit) => r' = r) (fun (_ : Unit) t => hW D dA classes b0 nx h' t.heap) (hA b0)) ([.ref a0, .ref a1] : List Value).toArray s 0 0 (hA b0)) (F0 m 2 ls [])) := by
        intro z2 eq9 H locs ls hw hS hl
        subst eq9
        exact ih z2 h9b b9 h9 H locs ls hrun9 hw hS hl k0 k1 k2 k3
      have K1 : (q9 = .inr (.inl ()) → ∀ (H : Heap) (locs : List Loc) (ls : Array Slot), hW D dA classes b0 nx h9b H → va_S (hA b0) s.heap H locs → lv_has ls 4 [] → W p l e (headSpec w_Arguments_readRow ({ frames := 1, cells := 0, slots := 0, locals := 24 } : Room)).room s m ([.ref a0, .ref a1] : List Value).toArray below meth c H locs 0 0 (MQ below (va_Qi (fun r' (_ : Unit) => r' = r) (fun (_ : Unit) t => hW D dA classes b0 nx h' t.heap) (hA b0)) ([.ref a0, .ref a1] : List Value).toArray s 0 0 (hA b0)) (F0 m 20 ls [])) := by
        intro  eq9 H locs ls hw hS hl
        subst eq9
        cases hrun9
        exact k0  rfl H locs ls hw hS hl
      have K2 : (q9 = .inr (.inr (.inl ())) → ∀ (H : Heap) (locs : List Loc) (ls : Array Slot), hW D dA classes b0 nx h9b H → va_S (hA b0) s.heap H locs → lv_has ls 4 [] → W p l e (headSpec w_Arguments_readRow ({ frames := 1, cells := 0, slots := 0, locals := 24 } : Room)).room s m ([.ref a0, .ref a1] : List Value).toArray below meth c H locs 0 0 (MQ below (va_Qi (fun r' (_ : Unit) => r' = r) (fun (_ : Unit) t => hW D dA classes b0 nx h' t.heap) (hA b0)) ([.ref a0, .ref a1] : List Value).toArray s 0 0 (hA b0)) (F0 m 41 ls [])) := by
        intro  eq9 H locs ls hw hS hl
        subst eq9
        cases hrun9
        exact k1  rfl H locs ls hw hS hl
      have K3 : (q9 = .inr (.inr (.inr (.inl ()))) → ∀ (H : Heap) (locs : List Loc) (ls : Array Slot), hW D dA classes b0 nx h9b H → va_S (hA b0) s.heap H locs → lv_has ls 4 [] → W p l e (headSpec w_Arguments_readRow ({ frames := 1, cells := 0, slots := 0, locals := 24 } : Room)).room s m ([.ref a0, .ref a1] : List Value).toArray below meth c H locs 0 0 (MQ below (va_Qi (fun r' (_ : Unit) => r' = r) (fun (_ : Unit) t => hW D dA classes b0 nx h' t.heap) (hA b0)) ([.ref a0, .ref a1] : List Value).toArray s 0 0 (hA b0)) (F0 m 52 ls [])) := by
        intro  eq9 H locs ls hw hS hl
        subst eq9
        cases hrun9
        exact k2  rfl H locs ls hw hS hl
      have K4 : (q9 = .inr (.inr (.inr (.inr (())))) → ∀ (H : Heap) (locs : List Loc) (ls : Array Slot), hW D dA classes b0 nx h9b H → va_S (hA b0) s.heap H locs → lv_has ls 4 [] → W p l e (headSpec w_Arguments_readRow ({ frames := 1, cells := 0, slots := 0, locals := 24 } : Room)).room s m ([.ref a0, .ref a1] : List Value).toArray below meth c H locs 0 0 (MQ below (va_Qi (fun r' (_ : Unit) => r' = r) (fun (_ : Unit) t => hW D dA classes b0 nx h' t.heap) (hA b0)) ([.ref a0, .ref a1] : List Value).toArray s 0 0 (hA b0)) (F0 m 60 ls [])) := by
        intro  eq9 H locs ls hw hS hl
        subst eq9
        cases hrun9
        exact k3  rfl H locs ls hw hS hl
      clear hrun hrun9 ih k0 k1 k2 k3
      have hrun := hbody
      clear hbody
      dsimp only [f_Arguments_readRow_b2] at hrun
      refine lv_iload_n hx hb d_Arguments_readRow_2 rfl (lv_at hl 2 rfl) ?_
      refine lv_aload_n hx hb d_Arguments_readRow_3 rfl (lv_at hl 1 rfl) ?_
      replace hrun := hb_some hrun
      obtain ⟨v4, g4, hrun⟩ := hrun
      refine h_getNI S (fun w q => hT w (i_Row w q)) hK (ci := 8) rfl 2 (by decide) (hN.1 _ nf_Arguments_41) hw g4 d_Arguments_readRow_4 ?_
      refine lv_icmp_ge (tgt := 60) hx hb d_Arguments_readRow_7 (by decide) (fun c7 => ?_) (fun c7 => ?_)
      · rw [if_pos c7] at hrun
        cases hrun
        exact K4  rfl H locs ls hw hS (lv_sub hl [] rfl)
      · rw [if_neg c7] at hrun
        refine lv_aload_n hx hb d_Arguments_readRow_10 rfl (lv_at hl 0 rfl) ?_
        replace hrun := hb_some hrun
        obtain ⟨v11, g11, hrun⟩ := hrun
        refine h_getR S (fun w q => hT w (i_Arguments w q)) hK (ci := 2) rfl 0 (by decide) (hT _ fl_Arguments_9) hw g11 d_Arguments_readRow_11 ?_
        replace hrun := hb_some hrun
        obtain ⟨p14, rfl, hrun⟩ := hrun
        replace hrun := hb_some hrun
        obtain ⟨c14, k14, hrun⟩ := hrun
        replace hrun := hb_some hrun
        obtain ⟨v14, g14, hrun⟩ := hrun
        refine h_ci (h_runV S (As := []) (rest := []) (c_Input_isEmpty l D dA b0 p14 nx g14) (cwV 0 S.2.2.2.2 (h_good _ (h_in4 ml_Arguments_45 im_Input_isEmpty se_Input_isEmpty it_Input) cd_Input_isEmpty) rfl rfl rfl (by decide +kernel) ⟨Nat.le_of_ble_eq_true rfl, Nat.le_of_ble_eq_true rfl⟩) hK hN hw (ci := 6) rfl k14 rfl hl.1 (lv_room (Nat.le_of_ble_eq_true rfl)) d_Arguments_readRow_14 ⟨Nat.le_refl _, Nat.le_refl _⟩) hS (fun H locs hw hS => ?_)
        refine lv_if_eq (tgt := 22) hx hb d_Arguments_readRow_17 (by decide) (fun c17 => ?_) (fun c17 => ?_)
        · rw [if_pos c17] at hrun
          refine lv_aload_n hx hb d_Arguments_readRow_22 rfl (lv_at hl 0 rfl) ?_
          replace hrun := hb_some hrun
          obtain ⟨v23, g23, hrun⟩ := hrun
          refine h_getR S (fun w q => hT w (i_Arguments w q)) hK (ci := 2) rfl 0 (by decide) (hT _ fl_Arguments_9) hw g23 d_Arguments_readRow_23 ?_
          replace hrun := hb_some hrun
          obtain ⟨p26, rfl, hrun⟩ := hrun
          replace hrun := hb_some hrun
          obtain ⟨c26, k26, hrun⟩ := hrun
          replace hrun := hbW_some hrun
          obtain ⟨v26, h26, g26, hrun⟩ := hrun
          refine h_ci (h_runV S (As := []) (rest := []) (c_Input_take l D dA b0 p26 nx g26) (cwV 0 S.2.2.2.2 (h_good _ (h_in4 ml_Arguments_51 im_Input_take se_Input_take it_Input) cd_Input_take) rfl rfl rfl (by decide +kernel) ⟨Nat.le_of_ble_eq_true rfl, Nat.le_of_ble_eq_true rfl⟩) hK hN hw (ci := 6) rfl k26 rfl hl.1 (lv_room (Nat.le_of_ble_eq_true rfl)) d_Arguments_readRow_26 ⟨Nat.le_refl _, Nat.le_refl _⟩) hS (fun H locs hw hS => ?_)
          refine lv_istore_n (lv' := [(3, .int v26), (0, .ref a0), (1, .ref a1), (2, .int x2)]) hx hb d_Arguments_readRow_29 rfl hl (by decide) rfl (fun ls hl => ?_)
          refine lv_aload_n hx hb d_Arguments_readRow_30 rfl (lv_at hl 1 rfl) ?_
          replace hrun := hb_some hrun
          obtain ⟨v31, g31, hrun⟩ := hrun
          refine h_getR S (fun w q => hT w (i_Arguments w q)) hK (ci := 2) rfl 1 (by decide) (hT _ fl_Arguments_15) hw g31 d_Arguments_readRow_31 ?_
          refine lv_iload_n hx hb d_Arguments_readRow_34 rfl (lv_at hl 0 rfl) ?_
          replace hrun := hb_some hrun
          obtain ⟨p35, rfl, hrun⟩ := hrun
          replace hrun := hb_some hrun
          obtain ⟨c35, k35, hrun⟩ := hrun
          replace hrun := hb_some hrun
          obtain ⟨v35, g35, hrun⟩ := hrun
          refine h_ci (h_runV S (As := [.int v26]) (rest := []) (c_Book_isOuter l D dA b0 p35 v26 nx g35) (cwV 1 S.2.2.2.2 (h_good _ (h_in4 ml_Arguments_55 im_Book_isOuter se_Book_isOuter it_Book) cd_Book_isOuter) rfl rfl rfl (by decide +kernel) ⟨Nat.le_of_ble_eq_true rfl, Nat.le_of_ble_eq_true rfl⟩) hK hN hw (ci := 3) rfl k35 rfl hl.1 (lv_room (Nat.le_of_ble_eq_true rfl)) d_Arguments_readRow_35 ⟨Nat.le_refl _, Nat.le_refl _⟩) hS (fun H locs hw hS => ?_)
          refine lv_if_eq (tgt := 43) hx hb d_Arguments_readRow_38 (by decide) (fun c38 => ?_) (fun c38 => ?_)
          · rw [if_pos c38] at hrun
            refine lv_iload_n hx hb d_Arguments_readRow_43 rfl (lv_at hl 0 rfl) ?_
            refine lv_aload_n hx hb d_Arguments_readRow_44 rfl (lv_at hl 2 rfl) ?_
            refine lv_iload_n hx hb d_Arguments_readRow_45 rfl (lv_at hl 3 rfl) ?_
            replace hrun := hb_some hrun
            obtain ⟨c46, k46, hrun⟩ := hrun
            replace hrun := hb_some hrun
            obtain ⟨v46, g46, hrun⟩ := hrun
            refine h_ci (h_runV S (As := [.int x2]) (rest := [.int v26]) (c_Row_get l D dA b0 a1 x2 nx g46) (cwV 1 S.2.2.2.2 (h_good _ (h_in4 ml_Arguments_61 im_Row_get se_Row_get it_Row) cd_Row_get) rfl rfl rfl (by decide +kernel) ⟨Nat.le_of_ble_eq_true rfl, Nat.le_of_ble_eq_true rfl⟩) hK hN hw (ci := 8) rfl k46 rfl hl.1 (lv_room (Nat.le_of_ble_eq_true rfl)) d_Arguments_readRow_46 ⟨Nat.le_refl _, Nat.le_refl _⟩) hS (fun H locs hw hS => ?_)
            refine lv_icmp_eq (tgt := 54) hx hb d_Arguments_readRow_49 (by decide) (fun c49 => ?_) (fun c49 => ?_)
            · rw [if_pos c49] at hrun
              refine lv_iinc (v := (x2 + (1 : Int32))) (lv' := [(2, .int (x2 + (1 : Int32))), (3, .int v26), (0, .ref a0), (1, .ref a1)]) hx hb d_Arguments_readRow_54 hl (k := 3) rfl rfl (by decide) rfl (fun ls hl => ?_)
              refine lv_goto (tgt := 2) hx hb d_Arguments_readRow_57 (by decide) ?_
              cases hrun
              exact K0 (x2 + (1 : Int32)) rfl H locs ls hw hS (lv_sub hl [2, 3, 0] rfl)
            · rw [if_neg c49] at hrun
              cases hrun
              exact K3  rfl H locs ls hw hS (lv_sub hl [] rfl)
          · rw [if_neg c38] at hrun
            cases hrun
            exact K2  rfl H locs ls hw hS (lv_sub hl [] rfl)
        · rw [if_neg c17] at hrun
          cases hrun
          exact K1  rfl H locs ls hw hS (lv_sub hl [] rfl)
  unfold f_Arguments_readRow at hrun
  refine lv_iconst (v := (0 : Int32)) hx hb d_Arguments_readRow_0 (by decide) ?_
  refine lv_istore_n (lv' := [(2, .int (0 : Int32)), (0, .ref a0), (1, .ref a1)]) hx hb d_Arguments_readRow_1 rfl hl (by decide) rfl (fun ls hl => ?_)
  replace hrun := hbW_some hrun
  obtain ⟨b2, h2l, g2, hrun⟩ := hrun
  refine l_2 n (0 : Int32) h _ _ _ _ _ g2 hw hS (lv_sub hl [1, 2, 0] rfl) ?_ ?_ ?_ ?_
  · rintro  eq9 H locs ls hw hS hl
    obtain rfl := eq9.symm
    try dsimp only at hrun
    refine lv_iconst (v := (1 : Int32)) hx hb d_Arguments_readRow_20 (by decide) ?_
    cases hrun
    exact W.iret hx hb hr (fun t ht hW9 => ⟨⟨_, (), rfl, rfl, by show hW D dA classes b0 _ _ t.heap; rw [ht]; exact hw⟩, hS.F ht⟩) hS.2.2 d_Arguments_readRow_21
  · rintro  eq9 H locs ls hw hS hl
    obtain rfl := eq9.symm
    try dsimp only at hrun
    refine lv_iconst (v := (2 : Int32)) hx hb d_Arguments_readRow_41 (by decide) ?_
    cases hrun
    exact W.iret hx hb hr (fun t ht hW9 => ⟨⟨_, (), rfl, rfl, by show hW D dA classes b0 _ _ t.heap; rw [ht]; exact hw⟩, hS.F ht⟩) hS.2.2 d_Arguments_readRow_42
  · rintro  eq9 H locs ls hw hS hl
    obtain rfl := eq9.symm
    try dsimp only at hrun
    refine lv_iconst (v := (3 : Int32)) hx hb d_Arguments_readRow_52 (by decide) ?_
    cases hrun
    exact W.iret hx hb hr (fun t ht hW9 => ⟨⟨_, (), rfl, rfl, by show hW D dA classes b0 _ _ t.heap; rw [ht]; exact hw⟩, hS.F ht⟩) hS.2.2 d_Arguments_readRow_53
  · rintro  eq9 H locs ls hw hS hl
    obtain rfl := eq9.symm
    try dsimp only at hrun
    refine lv_iconst (v := (0 : Int32)) hx hb d_Arguments_readRow_60 (by decide) ?_
    cases hrun
    exact W.iret hx hb hr (fun t ht hW9 => ⟨⟨_, (), rfl, rfl, by show hW D dA classes b0 _ _ t.heap; rw [ht]; exact hw⟩, hS.F ht⟩) hS.2.2 d_Arguments_readRow_61
set_option maxHeartbeats 4000000 in
set_option maxRecDepth 100000 in
theorem c_Arguments_argument (l : Launch) (D : va_G) (dA : Nat → ClassId) (b0 : Nat) (a0 : Nat) (i1 : Int32) (nx : Nat) {h : hH} {r : Option Nat} (hrun : f_Arguments_argument a0 i1 h = some r) : Met l y_Arguments_argument w_Arguments_argument ({ frames := 1, cells := 0, slots := 0, locals := 21 } : Room) (va_Pc [.ref a0, .int i1] (hB D dA b0 nx h)) (va_Qq (fun r' (_ : Unit) => r' = r) (fun (_ : Unit) t => hW D dA classes b0 nx h t.heap) (hA b0)) 0 0 (hA b0) := by
  refine Met.ofW (cc := b_Arguments_argument) (maxL := 2) (ret := (some (.object "MacroExpand$Row"))) (by decide) rfl ?_
  intro p e s m args below meth c s₁ B hml hv
  obtain ⟨rfl, hw, hK, hN⟩ := hv
  have hx := B.exec
  have hb := B.bytes
  have hr := B.returns
  have hlocks := B.notSynchronized
  have S : CallFix p m c b_Arguments_argument 2 s ([.ref a0, .int i1] : List Value).toArray w_Arguments_argument R_Arguments := ⟨hx, hb, hml, findClass_of_methodNamed B.named, atoms_spec (ws := w_Arguments_argument) B.pre⟩
  have hT : ∀ w ∈ tbl, w ∈ w_Arguments_argument := fun _ q => List.mem_cons_of_mem _ q
  have hS : va_S (hA b0) s.heap s.heap [] := va_S.rf
  have hl := lv_entry ([.ref a0, .int i1]) (n := 2) (Nat.le_of_ble_eq_true rfl)
  rw [lg_entry_eq]
  generalize (lg_sl ([.ref a0, .int i1]) ++ List.replicate (2 - (lg_sl ([.ref a0, .int i1])).length) Slot.unset).toArray = ls at hl ⊢
  have hl : lv_has ls 2 [(0, .ref a0), (1, .int i1)] := hl
  unfold f_Arguments_argument at hrun
  refine lv_aload_n hx hb d_Arguments_argument_0 rfl (lv_at hl 0 rfl) ?_
  replace hrun := hb_some hrun
  obtain ⟨v1, g1, hrun⟩ := hrun
  refine h_getR S (fun w q => hT w (i_Arguments w q)) hK (ci := 2) rfl 2 (by decide) (hT _ fl_Arguments_21) hw g1 d_Arguments_argument_1 ?_
  refine lv_iconst (v := (0 : Int32)) hx hb d_Arguments_argument_4 (by decide) ?_
  refine lv_iload_n hx hb d_Arguments_argument_5 rfl (lv_at hl 1 rfl) ?_
  refine lv_iconst (v := (1 : Int32)) hx hb d_Arguments_argument_6 (by decide) ?_
  refine lv_isub hx hb d_Arguments_argument_7 ?_
  refine lv_aload_n hx hb d_Arguments_argument_8 rfl (lv_at hl 0 rfl) ?_
  replace hrun := hb_some hrun
  obtain ⟨v9, g9, hrun⟩ := hrun
  refine h_getR S (fun w q => hT w (i_Arguments w q)) hK (ci := 2) rfl 2 (by decide) (hT _ fl_Arguments_21) hw g9 d_Arguments_argument_9 ?_
  replace hrun := hb_some hrun
  obtain ⟨p12, rfl, hrun⟩ := hrun
  replace hrun := hb_some hrun
  obtain ⟨v12, g12, hrun⟩ := hrun
  refine h_alen S hK (kd := 3) rfl hw g12 d_Arguments_argument_12 ?_
  refine lv_iconst (v := (1 : Int32)) hx hb d_Arguments_argument_13 (by decide) ?_
  refine lv_isub hx hb d_Arguments_argument_14 ?_
  refine va_mmin hx hb (by rw [hml]; exact hl.1.symm) S.2.2.2.1 (S.2.2.2.2 _ (hT _ ml_Arguments_28)) (S.2.2.2.2 _ (hT _ sm_mmin)) (S.2.2.2.2 _ (hT _ it_Math)) (S.2.2.2.2 _ (hT _ cd_mmin)) (Nat.le_of_ble_eq_true rfl) (by simp only [List.map, List.sum_cons, List.sum_nil, h_cat]; exact Nat.le_of_ble_eq_true rfl) (Nat.le_refl _) (Nat.le_refl _) d_Arguments_argument_15 ?_
  refine va_mmax hx hb (by rw [hml]; exact hl.1.symm) S.2.2.2.1 (S.2.2.2.2 _ (hT _ ml_Arguments_34)) (S.2.2.2.2 _ (hT _ sm_mmax)) (S.2.2.2.2 _ (hT _ it_Math)) (S.2.2.2.2 _ (hT _ cd_mmax)) (Nat.le_of_ble_eq_true rfl) (by simp only [List.map, List.sum_cons, List.sum_nil, h_cat]; exact Nat.le_of_ble_eq_true rfl) (Nat.le_refl _) (Nat.le_refl _) d_Arguments_argument_18 ?_
  replace hrun := hb_some hrun
  obtain ⟨p21, rfl, hrun⟩ := hrun
  replace hrun := hb_some hrun
  obtain ⟨v21, g21, hrun⟩ := hrun
  refine h_aald S hK (kd := 3) rfl hw g21 d_Arguments_argument_21 ?_
  cases hrun
  exact W.aret hx hb hr (Or.inl ⟨_, rfl⟩) (va_rf_or _) (fun t ht hW9 => ⟨⟨_, (), rfl, rfl, by show hW D dA classes b0 _ _ t.heap; rw [ht]; exact hw⟩, hS.F ht⟩) hS.2.2 d_Arguments_argument_22
set_option maxHeartbeats 4000000 in
set_option maxRecDepth 100000 in
theorem c_Arguments_isForbidden (l : Launch) (D : va_G) (dA : Nat → ClassId) (b0 : Nat) (a0 : Nat) (i1 : Int32) (a2 : Nat) (nx : Nat) {h : hH} {r : Int32} (hrun : f_Arguments_isForbidden a0 i1 a2 h = some r) : Met l y_Arguments_isForbidden w_Arguments_isForbidden ({ frames := 1, cells := 0, slots := 0, locals := 24 } : Room) (va_Pc [.ref a0, .int i1, .ref a2] (hB D dA b0 nx h)) (va_Qi (fun r' (_ : Unit) => r' = r) (fun (_ : Unit) t => hW D dA classes b0 nx h t.heap) (hA b0)) 0 0 (hA b0) := by
  refine Met.ofW (cc := b_Arguments_isForbidden) (maxL := 3) (ret := (some .boolean)) (by decide) rfl ?_
  intro p e s m args below meth c s₁ B hml hv
  obtain ⟨rfl, hw, hK, hN⟩ := hv
  have hx := B.exec
  have hb := B.bytes
  have hr := B.returns
  have hlocks := B.notSynchronized
  have S : CallFix p m c b_Arguments_isForbidden 3 s ([.ref a0, .int i1, .ref a2] : List Value).toArray w_Arguments_isForbidden R_Arguments := ⟨hx, hb, hml, findClass_of_methodNamed B.named, atoms_spec (ws := w_Arguments_isForbidden) B.pre⟩
  have hT : ∀ w ∈ tbl, w ∈ w_Arguments_isForbidden := fun _ q => List.mem_cons_of_mem _ q
  have hS : va_S (hA b0) s.heap s.heap [] := va_S.rf
  have hl := lv_entry ([.ref a0, .int i1, .ref a2]) (n := 3) (Nat.le_of_ble_eq_true rfl)
  rw [lg_entry_eq]
  generalize (lg_sl ([.ref a0, .int i1, .ref a2]) ++ List.replicate (3 - (lg_sl ([.ref a0, .int i1, .ref a2])).length) Slot.unset).toArray = ls at hl ⊢
  have hl : lv_has ls 3 [(0, .ref a0), (1, .int i1), (2, .ref a2)] := hl
  have j_13 : ∀  (x1 : Int32) (H : Heap) (locs : List Loc) (ls : Array Slot), f_Arguments_isForbidden_j13 a0 x1 h = some r → hW D dA classes b0 nx h H → va_S (hA b0) s.heap H locs → lv_has ls 3 [(0, .ref a0), (1, .int x1)] → W p l e (headSpec w_Arguments_isForbidden ({ frames := 1, cells := 0, slots := 0, locals := 24 } : Room)).room s m ([.ref a0, .int i1, .ref a2] : List Value).toArray below meth c H locs 0 0 (MQ below (va_Qi (fun r' (_ : Unit) => r' = r) (fun (_ : Unit) t => hW D dA classes b0 nx h t.heap) (hA b0)) ([.ref a0, .int i1, .ref a2] : List Value).toArray s 0 0 (hA b0)) (F0 m 13 ls []) := by
    intro x1 H locs ls hrun hw hS hl
    unfold f_Arguments_isForbidden_j13 at hrun
    refine lv_aload_n hx hb d_Arguments_isForbidden_13 rfl (lv_at hl 0 rfl) ?_
    replace hrun := hb_some hrun
    obtain ⟨v14, g14, hrun⟩ := hrun
    refine h_getR S (fun w q => hT w (i_Arguments w q)) hK (ci := 2) rfl 1 (by decide) (hT _ fl_Arguments_15) hw g14 d_Arguments_isForbidden_14 ?_
    refine lv_iload_n hx hb d_Arguments_isForbidden_17 rfl (lv_at hl 1 rfl) ?_
    replace hrun := hb_some hrun
    obtain ⟨p18, rfl, hrun⟩ := hrun
    replace hrun := hb_some hrun
    obtain ⟨c18, k18, hrun⟩ := hrun
    replace hrun := hb_some hrun
    obtain ⟨v18, g18, hrun⟩ := hrun
    refine h_ci (h_runV S (As := [.int x1]) (rest := []) (c_Book_isOuter l D dA b0 p18 x1 nx g18) (cwV 1 S.2.2.2.2 (h_good _ (h_in4 ml_Arguments_55 im_Book_isOuter se_Book_isOuter it_Book) cd_Book_isOuter) rfl rfl rfl (by decide +kernel) ⟨Nat.le_of_ble_eq_true rfl, Nat.le_of_ble_eq_true rfl⟩) hK hN hw (ci := 3) rfl k18 rfl hl.1 (lv_room (Nat.le_of_ble_eq_true rfl)) d_Arguments_isForbidden_18 ⟨Nat.le_refl _, Nat.le_refl _⟩) hS (fun H locs hw hS => ?_)
    refine lv_if_eq (tgt := 28) hx hb d_Arguments_isForbidden_21 (by decide) (fun c21 => ?_) (fun c21 => ?_)
    · rw [if_pos c21] at hrun
      refine lv_iconst (v := (0 : Int32)) hx hb d_Arguments_isForbidden_28 (by decide) ?_
      cases hrun
      exact W.zret hx hb hr (by decide) (fun t ht hW9 => ⟨⟨_, (), rfl, rfl, by show hW D dA classes b0 _ _ t.heap; rw [ht]; exact hw⟩, hS.F ht⟩) hS.2.2 d_Arguments_isForbidden_29
    · rw [if_neg c21] at hrun
      refine lv_iconst (v := (1 : Int32)) hx hb d_Arguments_isForbidden_24 (by decide) ?_
      refine lv_goto (tgt := 29) hx hb d_Arguments_isForbidden_25 (by decide) ?_
      cases hrun
      exact W.zret hx hb hr (by decide) (fun t ht hW9 => ⟨⟨_, (), rfl, rfl, by show hW D dA classes b0 _ _ t.heap; rw [ht]; exact hw⟩, hS.F ht⟩) hS.2.2 d_Arguments_isForbidden_29
  unfold f_Arguments_isForbidden at hrun
  refine lv_iload_n hx hb d_Arguments_isForbidden_0 rfl (lv_at hl 1 rfl) ?_
  refine lv_bipush (v := (10 : Int32)) hx hb d_Arguments_isForbidden_1 (by decide) ?_
  refine lv_icmp_ne (tgt := 13) hx hb d_Arguments_isForbidden_3 (by decide) (fun c3 => ?_) (fun c3 => ?_)
  · rw [if_neg c3] at hrun
    exact j_13 i1 _ _ _ hrun hw hS (lv_sub hl [0, 1] rfl)
  · rw [if_pos c3] at hrun
    refine lv_aload_n hx hb d_Arguments_isForbidden_6 rfl (lv_at hl 2 rfl) ?_
    replace hrun := hb_some hrun
    obtain ⟨v7, g7, hrun⟩ := hrun
    refine h_getNI S (fun w q => hT w (i_Macro w q)) hK (ci := 7) rfl 1 (by decide) (hN.1 _ nf_Arguments_94) hw g7 d_Arguments_isForbidden_7 ?_
    refine lv_if_eq (tgt := 24) hx hb d_Arguments_isForbidden_10 (by decide) (fun c10 => ?_) (fun c10 => ?_)
    · rw [if_pos c10] at hrun
      refine lv_iconst (v := (1 : Int32)) hx hb d_Arguments_isForbidden_24 (by decide) ?_
      refine lv_goto (tgt := 29) hx hb d_Arguments_isForbidden_25 (by decide) ?_
      cases hrun
      exact W.zret hx hb hr (by decide) (fun t ht hW9 => ⟨⟨_, (), rfl, rfl, by show hW D dA classes b0 _ _ t.heap; rw [ht]; exact hw⟩, hS.F ht⟩) hS.2.2 d_Arguments_isForbidden_29
    · rw [if_neg c10] at hrun
      exact j_13 i1 _ _ _ hrun hw hS (lv_sub hl [0, 1] rfl)
set_option maxHeartbeats 4000000 in
set_option maxRecDepth 100000 in
theorem c_Kind_nesting (l : Launch) (D : va_G) (dA : Nat → ClassId) (b0 : Nat) (i0 : Int32) (nx : Nat) {h : hH} {r : Int32} (hrun : f_Kind_nesting i0 h = some r) : Met l y_Kind_nesting w_Kind_nesting ({ frames := 0, cells := 0, slots := 0, locals := 0 } : Room) (va_Pc [.int i0] (hB D dA b0 nx h)) (va_Qi (fun r' (_ : Unit) => r' = r) (fun (_ : Unit) t => hW D dA classes b0 nx h t.heap) (hA b0)) 0 0 (hA b0) := by
  refine Met.ofW (cc := b_Kind_nesting) (maxL := 1) (ret := (some .int)) (by decide) rfl ?_
  intro p e s m args below meth c s₁ B hml hv
  obtain ⟨rfl, hw, hK, hN⟩ := hv
  have hx := B.exec
  have hb := B.bytes
  have hr := B.returns
  have hlocks := B.notSynchronized
  have S : CallFix p m c b_Kind_nesting 1 s ([.int i0] : List Value).toArray w_Kind_nesting R_Kind := ⟨hx, hb, hml, findClass_of_methodNamed B.named, atoms_spec (ws := w_Kind_nesting) B.pre⟩
  have hT : ∀ w ∈ tbl, w ∈ w_Kind_nesting := fun _ q => List.mem_cons_of_mem _ q
  have hS : va_S (hA b0) s.heap s.heap [] := va_S.rf
  have hl := lv_entry ([.int i0]) (n := 1) (Nat.le_of_ble_eq_true rfl)
  rw [lg_entry_eq]
  generalize (lg_sl ([.int i0]) ++ List.replicate (1 - (lg_sl ([.int i0])).length) Slot.unset).toArray = ls at hl ⊢
  have hl : lv_has ls 1 [(0, .int i0)] := hl
  unfold f_Kind_nesting at hrun
  refine lv_iload_n hx hb d_Kind_nesting_0 rfl (lv_at hl 0 rfl) ?_
  refine lv_sipush (v := (257 : Int32)) hx hb d_Kind_nesting_1 (by decide) ?_
  refine lv_icmp_ne (tgt := 9) hx hb d_Kind_nesting_4 (by decide) (fun c4 => ?_) (fun c4 => ?_)
  · rw [if_neg c4] at hrun
    refine lv_iload_n hx hb d_Kind_nesting_9 rfl (lv_at hl 0 rfl) ?_
    refine lv_sipush (v := (258 : Int32)) hx hb d_Kind_nesting_10 (by decide) ?_
    refine lv_icmp_ne (tgt := 20) hx hb d_Kind_nesting_13 (by decide) (fun c13 => ?_) (fun c13 => ?_)
    · rw [if_neg c13] at hrun
      refine lv_iconst (v := (0 : Int32)) hx hb d_Kind_nesting_20 (by decide) ?_
      cases hrun
      exact W.iret hx hb hr (fun t ht hW9 => ⟨⟨_, (), rfl, rfl, by show hW D dA classes b0 _ _ t.heap; rw [ht]; exact hw⟩, hS.F ht⟩) hS.2.2 d_Kind_nesting_21
    · rw [if_pos c13] at hrun
      refine lv_iconst (v := (-1 : Int32)) hx hb d_Kind_nesting_16 (by decide) ?_
      refine lv_goto (tgt := 21) hx hb d_Kind_nesting_17 (by decide) ?_
      cases hrun
      exact W.iret hx hb hr (fun t ht hW9 => ⟨⟨_, (), rfl, rfl, by show hW D dA classes b0 _ _ t.heap; rw [ht]; exact hw⟩, hS.F ht⟩) hS.2.2 d_Kind_nesting_21
  · rw [if_pos c4] at hrun
    refine lv_iconst (v := (1 : Int32)) hx hb d_Kind_nesting_7 (by decide) ?_
    cases hrun
    exact W.iret hx hb hr (fun t ht hW9 => ⟨⟨_, (), rfl, rfl, by show hW D dA classes b0 _ _ t.heap; rw [ht]; exact hw⟩, hS.F ht⟩) hS.2.2 d_Kind_nesting_8
set_option maxHeartbeats 4000000 in
set_option maxRecDepth 100000 in
theorem c_Arguments_readNext (l : Launch) (D : va_G) (dA : Nat → ClassId) (b0 : Nat) (n : Nat) (a0 : Nat) (i1 : Int32) (a2 : Nat) (nxZ : Nat) {h h' : hH} {r : Int32} {dnZ dsZ : Nat} (hrun : f_Arguments_readNext n a0 i1 a2 nxZ h = some (r, dnZ, dsZ, h')) : Met l y_Arguments_readNext w_Arguments_readNext ({ frames := 3, cells := dnZ, slots := dsZ, locals := 91 } : Room) (va_Pc [.ref a0, .int i1, .ref a2] (hB D dA b0 nxZ h)) (va_Qi (fun r' (_ : Unit) => r' = r) (fun (_ : Unit) t => hW D dA classes b0 (nxZ + dnZ) h' t.heap) (hA b0)) dnZ dsZ (hA b0) := by
  refine Met.ofW (cc := b_Arguments_readNext) (maxL := 8) (ret := (some .int)) (by decide) rfl ?_
  intro p e s m args below meth c s₁ B hml hv
  obtain ⟨rfl, hw, hK, hN⟩ := hv
  have hx := B.exec
  have hb := B.bytes
  have hr := B.returns
  have hlocks := B.notSynchronized
  have S : CallFix p m c b_Arguments_readNext 8 s ([.ref a0, .int i1, .ref a2] : List Value).toArray w_Arguments_readNext R_Arguments := ⟨hx, hb, hml, findClass_of_methodNamed B.named, atoms_spec (ws := w_Arguments_readNext) B.pre⟩
  have hT : ∀ w ∈ tbl, w ∈ w_Arguments_readNext := fun _ q => List.mem_cons_of_mem _ q
  have hS : va_S (hA b0) s.heap s.heap [] := va_S.rf
  have hl := lv_entry ([.ref a0, .int i1, .ref a2]) (n := 8) (Nat.le_of_ble_eq_true rfl)
  rw [lg_entry_eq]
  generalize (lg_sl ([.ref a0, .int i1, .ref a2]) ++ List.replicate (8 - (lg_sl ([.ref a0, .int i1, .ref a2])).length) Slot.unset).toArray = ls at hl ⊢
  have hl : lv_has ls 8 [(0, .ref a0), (1, .int i1), (2, .ref a2)] := hl
  obtain ⟨dn, edn⟩ : ∃ z, z = dnZ := ⟨_, rfl⟩
  obtain ⟨ds, eds⟩ : ∃ z, z = dsZ := ⟨_, rfl⟩
  obtain ⟨nx, enx⟩ : ∃ z, z = nxZ := ⟨_, rfl⟩
  rw [← edn, ← eds, ← enx] at hrun
  rw [← enx] at hw
  have hcR : 0 + dn = dnZ := by omega
  have hsR : 0 + ds = dsZ := by omega
  have hnR : nx + dn = nxZ + dnZ := by omega
  clear edn eds enx
  have l_55 : ∀ (x3 : Option Nat) (n9 : Nat) (x9 : Int32 × Int32) (cells slots dn ds nx : Nat) (h : hH) (b9 : (Unit) ⊕ (Unit) ⊕ (Unit) ⊕ (Unit) ⊕ (Unit) ⊕ (Unit)) (h9 : hH) (H : Heap) (locs : List Loc) (ls : Array Slot), hloopA (f_Arguments_readNext_b55 n a0 a2 x3) n9 x9 nx h = some (b9, dn, ds, h9) → cells + dn ≤ dnZ → slots + ds ≤ dsZ → hW D dA classes b0 nx h H → va_S (hA b0) s.heap H locs → lv_has ls 8 (match x9 with | (x4, x5) => [(0, .ref a0), (2, .ref a2), (3, va_rf x3), (4, .int x4), (5, .int x5)]) → (b9 = .inl () → ∀ (H : Heap) (locs : List Loc) (ls : Array Slot), hW D dA classes b0 (nx + dn) h9 H → va_S (hA b0) s.heap H locs → lv_has ls 8 [] → W p l e (headSpec w_Arguments_readNext ({ frames := 3, cells := dnZ, slots := dsZ, locals := 91 } : Room)).room s m ([.ref a0, .int i1, .ref a2] : List Value).toArray below meth c H locs (cells + dn) (slots + ds) (MQ below (va_Qi (fun r' (_ : Unit) => r' = r) (fun (_ : Unit) t => hW D dA classes b0 (nxZ + dnZ) h' t.heap) (hA b0)) ([.ref a0, .int i1, .ref a2] : List Value).toArray s dnZ dsZ (hA b0)) (F0 m 92 ls [])) → (b9 = .inr (.inl ()) → ∀ (H : Heap) (locs : List Loc) (ls : Array Slot), hW D dA classes b0 (nx + dn) h9 H → va_S (hA b0) s.heap H locs → lv_has ls 8 [] → W p l e (headSpec w_Arguments_readNext ({ frames := 3, cells := dnZ, slots := dsZ, locals := 91 } : Room)).room s m ([.ref a0, .int i1, .ref a2] : List Value).toArray below meth c H locs (cells + dn) (slots + ds) (MQ below (va_Qi (fun r' (_ : Unit) => r' = r) (fun (_ : Unit) t => hW D dA classes b0 (nxZ + dnZ) h' t.heap) (hA b0)) ([.ref a0, .int i1, .ref a2] : List Value).toArray s dnZ dsZ (hA b0)) (F0 m 113 ls [])) → (b9 = .inr (.inr (.inl ())) → ∀ (H : Heap) (locs : List Loc) (ls : Array Slot), hW D dA classes b0 (nx + dn) h9 H → va_S (hA b0) s.heap H locs → lv_has ls 8 [] → W p l e (headSpec w_Arguments_readNext ({ frames := 3, cells := dnZ, slots := dsZ, locals := 91 } : Room)).room s m ([.ref a0, .int i1, .ref a2] : List Value).toArray below meth c H locs (cells + dn) (slots + ds) (MQ below (va_Qi (fun r' (_ : Unit) => r' = r) (fun (_ : Unit) t => hW D dA classes b0 (nxZ + dnZ) h' t.heap) (hA b0)) ([.ref a0, .int i1, .ref a2] : List Value).toArray s dnZ dsZ (hA b0)) (F0 m 141 ls [])) → (b9 = .inr (.inr (.inr (.inl ()))) → ∀ (H : Heap) (locs : List Loc) (ls : Array Slot), hW D dA classes b0 (nx + dn) h9 H → va_S (hA b0) s.heap H locs → lv_has ls 8 [] → W p l e (headSpec w_Arguments_readNext ({ frames := 3, cells := dnZ, slots := dsZ, locals := 91 } : Room)).room s m ([.ref a0, .int i1, .ref a2] : List Value).toArray below meth c H locs (cells + dn) (slots + ds) (MQ below (va_Qi (fun r' (_ : Unit) => r' = r) (fun (_ : Unit) t => hW D dA classes b0 (nxZ + dnZ) h' t.heap) (hA b0)) ([.ref a0, .int i1, .ref a2] : List Value).toArray s dnZ dsZ (hA b0)) (F0 m 150 ls [])) → (b9 = .inr (.inr (.inr (.inr (.inl ())))) → ∀ (H : Heap) (locs : List Loc) (ls : Array Slot), hW D dA classes b0 (nx + dn) h9 H → va_S (hA b0) s.heap H locs → lv_has ls 8 [] → W p l e (headSpec w_Arguments_readNext ({ frames := 3, cells := dnZ, slots := dsZ, locals := 91 } : Room)).room s m ([.ref a0, .int i1, .ref a2] : List Value).toArray below meth c H locs (cells + dn) (slots + ds) (MQ below (va_Qi (fun r' (_ : Unit) => r' = r) (fun (_ : Unit) t => hW D dA classes b0 (nxZ + dnZ) h' t.heap) (hA b0)) ([.ref a0, .int i1, .ref a2] : List Value).toArray s dnZ dsZ (hA b0)) (F0 m 164 ls [])) → (b9 = .inr (.inr (.inr (.inr (.inr (()))))) → ∀ (H : Heap) (locs : List Loc) (ls : Array Slot), hW D dA classes b0 (nx + dn) h9 H → va_S (hA b0) s.heap H locs → lv_has ls 8 [] → W p l e (headSpec w_Arguments_readNext ({ frames := 3, cells := dnZ, slots := dsZ, locals := 91 } : Room)).room s m ([.ref a0, .int i1, .ref a2] : List Value).toArray below meth c H locs (cells + dn) (slots + ds) (MQ below (va_Qi (fun r' (_ : Unit) => r' = r) (fun (_ : Unit) t => hW D dA classes b0 (nxZ + dnZ) h' t.heap) (hA b0)) ([.ref a0, .int i1, .ref a2] : List Value).toArray s dnZ dsZ (hA b0)) (F0 m 172 ls [])) → W p l e (headSpec w_Arguments_readNext ({ frames := 3, cells := dnZ, slots := dsZ, locals := 91 } : Room)).room s m ([.ref a0, .int i1, .ref a2] : List Value).toArray below meth c H locs cells slots (MQ below (va_Qi (fun r' (_ : Unit) => r' = r) (fun (_ : Unit) t => hW D dA classes b0 (nxZ + dnZ) h' t.heap) (hA b0)) ([.ref a0, .int i1, .ref a2] : List Value).toArray s dnZ dsZ (hA b0)) (F0 m 55 ls []) := by
    intro x3 n9
    induction n9 with
    | zero =>
      intro x9 cells slots dn ds nx h b9 h9 H locs ls hrun
      cases hrun
    | succ n9 ih =>
      rintro ⟨x4, x5⟩ cells slots dn ds nx h b9 h9 H locs ls hrun hcB hsB hw hS hl k0 k1 k2 k3 k4 k5
      have hl : lv_has ls 8 [(0, .ref a0), (2, .ref a2), (3, va_rf x3), (4, .int x4), (5, .int x5)] := hl
      unfold hloopA at hrun
      obtain ⟨q9, dnb, dsb, h9b, dnr, dsr, hbody, hrun9, edn, eds⟩ := hbind_some hrun
      have K0 : (∀ (z4 : Int32) (z5 : Int32), q9 = .inl (z4, z5) → ∀ (H : Heap) (locs : List Loc) (ls : Array Slot), hW D dA classes b0 (nx + dnb) h9b H → va_S (hA b0) s.heap H locs → lv_has ls 8 [(0, .ref a0), (2, .ref a2), (3, va_rf x3), (4, .int z4), (5, .int z5)] → W p l e (headSpec w_Arguments_readNext ({ frames := 3, cells := dnZ, slots := dsZ, locals := 91 } : Room)).room s m ([.ref a0, .int i1, .ref a2] : List Value).toArray below meth c H locs (cells + dnb) (slots + dsb) (MQ below (va_Qi (fun r' (_ : Unit) => r' = r) (fun (_ : Unit) t => hW D dA classes b0 (nxZ + dnZ) h' t.heap) (hA b0)) ([.ref a0, .int i1, .ref a2] : List Value).toArray s dnZ dsZ (hA b0)) (F0 m 55 ls [])) := by
        intro z4 z5 eq9 H locs ls hw hS hl
        subst eq9
        exact ih (z4, z5) (cells + dnb) (slots + dsb) dnr dsr (nx + dnb) h9b b9 h9 H locs ls hrun9 (by omega) (by omega) hw hS hl (by have q := k0; rw [show nx + dn = nx + dnb + dnr by omega, show cells + dn = cells + dnb + dnr by omega, show slots + ds = slots + dsb + dsr by omega] at q; exact q) (by have q := k1; rw [show nx + dn = nx + dnb + dnr by omega, show cells + dn = cells + dnb + dnr by omega, show slots + ds = slots + dsb + dsr by omega] at q; exact q) (by have q := k2; rw [show nx + dn = nx + dnb + dnr by omega, show cells + dn = cells + dnb + dnr by omega, show slots + ds = slots + dsb + dsr by omega] at q; exact q) (by have q := k3; rw [show nx + dn = nx + dnb + dnr by omega, show cells + dn = cells + dnb + dnr by omega, show slots + ds = slots + dsb + dsr by omega] at q; exact q) (by have q := k4; rw [show nx + dn = nx + dnb + dnr by omega, show cells + dn = cells + dnb + dnr by omega, show slots + ds = slots + dsb + dsr by omega] at q; exact q) (by have q := k5; rw [show nx + dn = nx + dnb + dnr by omega, show cells + dn = cells + dnb + dnr by omega, show slots + ds = slots + dsb + dsr by omega] at q; exact q)
      have K1 : (q9 = .inr (.inl ()) → ∀ (H : Heap) (locs : List Loc) (ls : Array Slot), hW D dA classes b0 (nx + dnb) h9b H → va_S (hA b0) s.heap H locs → lv_has ls 8 [] → W p l e (headSpec w_Arguments_readNext ({ frames := 3, cells := dnZ, slots := dsZ, locals := 91 } : Room)).room s m ([.ref a0, .int i1, .ref a2] : List Value).toArray below meth c H locs (cells + dnb) (slots + dsb) (MQ below (va_Qi (fun r' (_ : Unit) => r' = r) (fun (_ : Unit) t => hW D dA classes b0 (nxZ + dnZ) h' t.heap) (hA b0)) ([.ref a0, .int i1, .ref a2] : List Value).toArray s dnZ dsZ (hA b0)) (F0 m 92 ls [])) := by
        intro  eq9 H locs ls hw hS hl
        subst eq9
        cases hrun9
        subst edn; subst eds
        exact k0  rfl H locs ls hw hS hl
      have K2 : (q9 = .inr (.inr (.inl ())) → ∀ (H : Heap) (locs : List Loc) (ls : Array Slot), hW D dA classes b0 (nx + dnb) h9b H → va_S (hA b0) s.heap H locs → lv_has ls 8 [] → W p l e (headSpec w_Arguments_readNext ({ frames := 3, cells := dnZ, slots := dsZ, locals := 91 } : Room)).room s m ([.ref a0, .int i1, .ref a2] : List Value).toArray below meth c H locs (cells + dnb) (slots + dsb) (MQ below (va_Qi (fun r' (_ : Unit) => r' = r) (fun (_ : Unit) t => hW D dA classes b0 (nxZ + dnZ) h' t.heap) (hA b0)) ([.ref a0, .int i1, .ref a2] : List Value).toArray s dnZ dsZ (hA b0)) (F0 m 113 ls [])) := by
        intro  eq9 H locs ls hw hS hl
        subst eq9
        cases hrun9
        subst edn; subst eds
        exact k1  rfl H locs ls hw hS hl
      have K3 : (q9 = .inr (.inr (.inr (.inl ()))) → ∀ (H : Heap) (locs : List Loc) (ls : Array Slot), hW D dA classes b0 (nx + dnb) h9b H → va_S (hA b0) s.heap H locs → lv_has ls 8 [] → W p l e (headSpec w_Arguments_readNext ({ frames := 3, cells := dnZ, slots := dsZ, locals := 91 } : Room)).room s m ([.ref a0, .int i1, .ref a2] : List Value).toArray below meth c H locs (cells + dnb) (slots + dsb) (MQ below (va_Qi (fun r' (_ : Unit) => r' = r) (fun (_ : Unit) t => hW D dA classes b0 (nxZ + dnZ) h' t.heap) (hA b0)) ([.ref a0, .int i1, .ref a2] : List Value).toArray s dnZ dsZ (hA b0)) (F0 m 141 ls [])) := by
        intro  eq9 H locs ls hw hS hl
        subst eq9
        cases hrun9
        subst edn; subst eds
        exact k2  rfl H locs ls hw hS hl
      have K4 : (q9 = .inr (.inr (.inr (.inr (.inl ())))) → ∀ (H : Heap) (locs : List Loc) (ls : Array Slot), hW D dA classes b0 (nx + dnb) h9b H → va_S (hA b0) s.heap H locs → lv_has ls 8 [] → W p l e (headSpec w_Arguments_readNext ({ frames := 3, cells := dnZ, slots := dsZ, locals := 91 } : Room)).room s m ([.ref a0, .int i1, .ref a2] : List Value).toArray below meth c H locs (cells + dnb) (slots + dsb) (MQ below (va_Qi (fun r' (_ : Unit) => r' = r) (fun (_ : Unit) t => hW D dA classes b0 (nxZ + dnZ) h' t.heap) (hA b0)) ([.ref a0, .int i1, .ref a2] : List Value).toArray s dnZ dsZ (hA b0)) (F0 m 150 ls [])) := by
        intro  eq9 H locs ls hw hS hl
        subst eq9
        cases hrun9
        subst edn; subst eds
        exact k3  rfl H locs ls hw hS hl
      have K5 : (q9 = .inr (.inr (.inr (.inr (.inr (.inl ()))))) → ∀ (H : Heap) (locs : List Loc) (ls : Array Slot), hW D dA classes b0 (nx + dnb) h9b H → va_S (hA b0) s.heap H locs → lv_has ls 8 [] → W p l e (headSpec w_Arguments_readNext ({ frames := 3, cells := dnZ, slots := dsZ, locals := 91 } : Room)).room s m ([.ref a0, .int i1, .ref a2] : List Value).toArray below meth c H locs (cells + dnb) (slots + dsb) (MQ below (va_Qi (fun r' (_ : Unit) => r' = r) (fun (_ : Unit) t => hW D dA classes b0 (nxZ + dnZ) h' t.heap) (hA b0)) ([.ref a0, .int i1, .ref a2] : List Value).toArray s dnZ dsZ (hA b0)) (F0 m 164 ls [])) := by
        intro  eq9 H locs ls hw hS hl
        subst eq9
        cases hrun9
        subst edn; subst eds
        exact k4  rfl H locs ls hw hS hl
      have K6 : (q9 = .inr (.inr (.inr (.inr (.inr (.inr (())))))) → ∀ (H : Heap) (locs : List Loc) (ls : Array Slot), hW D dA classes b0 (nx + dnb) h9b H → va_S (hA b0) s.heap H locs → lv_has ls 8 [] → W p l e (headSpec w_Arguments_readNext ({ frames := 3, cells := dnZ, slots := dsZ, locals := 91 } : Room)).room s m ([.ref a0, .int i1, .ref a2] : List Value).toArray below meth c H locs (cells + dnb) (slots + dsb) (MQ below (va_Qi (fun r' (_ : Unit) => r' = r) (fun (_ : Unit) t => hW D dA classes b0 (nxZ + dnZ) h' t.heap) (hA b0)) ([.ref a0, .int i1, .ref a2] : List Value).toArray s dnZ dsZ (hA b0)) (F0 m 172 ls [])) := by
        intro  eq9 H locs ls hw hS hl
        subst eq9
        cases hrun9
        subst edn; subst eds
        exact k5  rfl H locs ls hw hS hl
      clear hrun hrun9 ih k0 k1 k2 k3 k4 k5
      have hrun := hbody
      clear hbody
      replace hcB : cells + dnb ≤ dnZ := by omega
      replace hsB : slots + dsb ≤ dsZ := by omega
      clear edn eds
      have j_166 : ∀  (x3 : Option Nat) (x4 : Int32) (x5 : Int32) (q9 : (Int32 × Int32) ⊕ ((Unit) ⊕ (Unit) ⊕ (Unit) ⊕ (Unit) ⊕ (Unit) ⊕ (Unit))) (h9 : hH) (cells slots dn ds nx : Nat) (h : hH) (H : Heap) (locs : List Loc) (ls : Array Slot), f_Arguments_readNext_j166 n a0 a2 x3 x4 x5 nx h = some (q9, dn, ds, h9) → cells + dn ≤ dnZ → slots + ds ≤ dsZ → hW D dA classes b0 nx h H → va_S (hA b0) s.heap H locs → lv_has ls 8 [(0, .ref a0), (2, .ref a2), (3, va_rf x3), (4, .int x4), (5, .int x5)] → (∀ (z4 : Int32) (z5 : Int32), q9 = .inl (z4, z5) → ∀ (H : Heap) (locs : List Loc) (ls : Array Slot), hW D dA classes b0 (nx + dn) h9 H → va_S (hA b0) s.heap H locs → lv_has ls 8 [(0, .ref a0), (2, .ref a2), (3, va_rf x3), (4, .int z4), (5, .int z5)] → W p l e (headSpec w_Arguments_readNext ({ frames := 3, cells := dnZ, slots := dsZ, locals := 91 } : Room)).room s m ([.ref a0, .int i1, .ref a2] : List Value).toArray below meth c H locs (cells + dn) (slots + ds) (MQ below (va_Qi (fun r' (_ : Unit) => r' = r) (fun (_ : Unit) t => hW D dA classes b0 (nxZ + dnZ) h' t.heap) (hA b0)) ([.ref a0, .int i1, .ref a2] : List Value).toArray s dnZ dsZ (hA b0)) (F0 m 55 ls [])) → (q9 = .inr (.inl ()) → ∀ (H : Heap) (locs : List Loc) (ls : Array Slot), hW D dA classes b0 (nx + dn) h9 H → va_S (hA b0) s.heap H locs → lv_has ls 8 [] → W p l e (headSpec w_Arguments_readNext ({ frames := 3, cells := dnZ, slots := dsZ, locals := 91 } : Room)).room s m ([.ref a0, .int i1, .ref a2] : List Value).toArray below meth c H locs (cells + dn) (slots + ds) (MQ below (va_Qi (fun r' (_ : Unit) => r' = r) (fun (_ : Unit) t => hW D dA classes b0 (nxZ + dnZ) h' t.heap) (hA b0)) ([.ref a0, .int i1, .ref a2] : List Value).toArray s dnZ dsZ (hA b0)) (F0 m 92 ls [])) → (q9 = .inr (.inr (.inl ())) → ∀ (H : Heap) (locs : List Loc) (ls : Array Slot), hW D dA classes b0 (nx + dn) h9 H → va_S (hA b0) s.heap H locs → lv_has ls 8 [] → W p l e (headSpec w_Arguments_readNext ({ frames := 3, cells := dnZ, slots := dsZ, locals := 91 } : Room)).room s m ([.ref a0, .int i1, .ref a2] : List Value).toArray below meth c H locs (cells + dn) (slots + ds) (MQ below (va_Qi (fun r' (_ : Unit) => r' = r) (fun (_ : Unit) t => hW D dA classes b0 (nxZ + dnZ) h' t.heap) (hA b0)) ([.ref a0, .int i1, .ref a2] : List Value).toArray s dnZ dsZ (hA b0)) (F0 m 113 ls [])) → (q9 = .inr (.inr (.inr (.inl ()))) → ∀ (H : Heap) (locs : List Loc) (ls : Array Slot), hW D dA classes b0 (nx + dn) h9 H → va_S (hA b0) s.heap H locs → lv_has ls 8 [] → W p l e (headSpec w_Arguments_readNext ({ frames := 3, cells := dnZ, slots := dsZ, locals := 91 } : Room)).room s m ([.ref a0, .int i1, .ref a2] : List Value).toArray below meth c H locs (cells + dn) (slots + ds) (MQ below (va_Qi (fun r' (_ : Unit) => r' = r) (fun (_ : Unit) t => hW D dA classes b0 (nxZ + dnZ) h' t.heap) (hA b0)) ([.ref a0, .int i1, .ref a2] : List Value).toArray s dnZ dsZ (hA b0)) (F0 m 141 ls [])) → (q9 = .inr (.inr (.inr (.inr (.inl ())))) → ∀ (H : Heap) (locs : List Loc) (ls : Array Slot), hW D dA classes b0 (nx + dn) h9 H → va_S (hA b0) s.heap H locs → lv_has ls 8 [] → W p l e (headSpec w_Arguments_readNext ({ frames := 3, cells := dnZ, slots := dsZ, locals := 91 } : Room)).room s m ([.ref a0, .int i1, .ref a2] : List Value).toArray below meth c H locs (cells + dn) (slots + ds) (MQ below (va_Qi (fun r' (_ : Unit) => r' = r) (fun (_ : Unit) t => hW D dA classes b0 (nxZ + dnZ) h' t.heap) (hA b0)) ([.ref a0, .int i1, .ref a2] : List Value).toArray s dnZ dsZ (hA b0)) (F0 m 150 ls [])) → (q9 = .inr (.inr (.inr (.inr (.inr (.inl ()))))) → ∀ (H : Heap) (locs : List Loc) (ls : Array Slot), hW D dA classes b0 (nx + dn) h9 H → va_S (hA b0) s.heap H locs → lv_has ls 8 [] → W p l e (headSpec w_Arguments_readNext ({ frames := 3, cells := dnZ, slots := dsZ, locals := 91 } : Room)).room s m ([.ref a0, .int i1, .ref a2] : List Value).toArray below meth c H locs (cells + dn) (slots + ds) (MQ below (va_Qi (fun r' (_ : Unit) => r' = r) (fun (_ : Unit) t => hW D dA classes b0 (nxZ + dnZ) h' t.heap) (hA b0)) ([.ref a0, .int i1, .ref a2] : List Value).toArray s dnZ dsZ (hA b0)) (F0 m 164 ls [])) → (q9 = .inr (.inr (.inr (.inr (.inr (.inr (())))))) → ∀ (H : Heap) (locs : List Loc) (ls : Array Slot), hW D dA classes b0 (nx + dn) h9 H → va_S (hA b0) s.heap H locs → lv_has ls 8 [] → W p l e (headSpec w_Arguments_readNext ({ frames := 3, cells := dnZ, slots := dsZ, locals := 91 } : Room)).room s m ([.ref a0, .int i1, .ref a2] : List Value).toArray below meth c H locs (cells + dn) (slots + ds) (MQ below (va_Qi (fun r' (_ : Unit) => r' = r) (fun (_ : Unit) t => hW D dA classes b0 (nxZ + dnZ) h' t.heap) (hA b0)) ([.ref a0, .int i1, .ref a2] : List Value).toArray s dnZ dsZ (hA b0)) (F0 m 172 ls [])) → W p l e (headSpec w_Arguments_readNext ({ frames := 3, cells := dnZ, slots := dsZ, locals := 91 } : Room)).room s m ([.ref a0, .int i1, .ref a2] : List Value).toArray below meth c H locs cells slots (MQ below (va_Qi (fun r' (_ : Unit) => r' = r) (fun (_ : Unit) t => hW D dA classes b0 (nxZ + dnZ) h' t.heap) (hA b0)) ([.ref a0, .int i1, .ref a2] : List Value).toArray s dnZ dsZ (hA b0)) (F0 m 166 ls []) := by
        intro x3 x4 x5 q9 h9 cells slots dn ds nx h H locs ls hrun hcB hsB hw hS hl k0 k1 k2 k3 k4 k5 k6
        unfold f_Arguments_readNext_j166 at hrun
        have hcR : cells + dn = cells + dn := rfl
        have hsR : slots + ds = slots + ds := rfl
        have hnR : nx + dn = nx + dn := rfl
        refine lv_iinc (v := (x5 + (1 : Int32))) (lv' := [(5, .int (x5 + (1 : Int32))), (0, .ref a0), (2, .ref a2), (3, va_rf x3), (4, .int x4)]) hx hb d_Arguments_readNext_166 hl (k := 4) rfl rfl (by decide) rfl (fun ls hl => ?_)
        refine lv_goto (tgt := 55) hx hb d_Arguments_readNext_169 (by decide) ?_
        cases hrun
        exact W.widen (by omega) (by omega) (k0 x4 (x5 + (1 : Int32)) rfl H locs ls hw hS (lv_sub hl [1, 2, 3, 4, 0] rfl))
      have j_143 : ∀  (x3 : Option Nat) (x4 : Int32) (x5 : Int32) (x6 : Int32) (q9 : (Int32 × Int32) ⊕ ((Unit) ⊕ (Unit) ⊕ (Unit) ⊕ (Unit) ⊕ (Unit) ⊕ (Unit))) (h9 : hH) (cells slots dn ds nx : Nat) (h : hH) (H : Heap) (locs : List Loc) (ls : Array Slot), f_Arguments_readNext_j143 n a0 a2 x3 x4 x5 x6 nx h = some (q9, dn, ds, h9) → cells + dn ≤ dnZ → slots + ds ≤ dsZ → hW D dA classes b0 nx h H → va_S (hA b0) s.heap H locs → lv_has ls 8 [(0, .ref a0), (2, .ref a2), (3, va_rf x3), (4, .int x4), (5, .int x5), (6, .int x6)] → (∀ (z4 : Int32) (z5 : Int32), q9 = .inl (z4, z5) → ∀ (H : Heap) (locs : List Loc) (ls : Array Slot), hW D dA classes b0 (nx + dn) h9 H → va_S (hA b0) s.heap H locs → lv_has ls 8 [(0, .ref a0), (2, .ref a2), (3, va_rf x3), (4, .int z4), (5, .int z5)] → W p l e (headSpec w_Arguments_readNext ({ frames := 3, cells := dnZ, slots := dsZ, locals := 91 } : Room)).room s m ([.ref a0, .int i1, .ref a2] : List Value).toArray below meth c H locs (cells + dn) (slots + ds) (MQ below (va_Qi (fun r' (_ : Unit) => r' = r) (fun (_ : Unit) t => hW D dA classes b0 (nxZ + dnZ) h' t.heap) (hA b0)) ([.ref a0, .int i1, .ref a2] : List Value).toArray s dnZ dsZ (hA b0)) (F0 m 55 ls [])) → (q9 = .inr (.inl ()) → ∀ (H : Heap) (locs : List Loc) (ls : Array Slot), hW D dA classes b0 (nx + dn) h9 H → va_S (hA b0) s.heap H locs → lv_has ls 8 [] → W p l e (headSpec w_Arguments_readNext ({ frames := 3, cells := dnZ, slots := dsZ, locals := 91 } : Room)).room s m ([.ref a0, .int i1, .ref a2] : List Value).toArray below meth c H locs (cells + dn) (slots + ds) (MQ below (va_Qi (fun r' (_ : Unit) => r' = r) (fun (_ : Unit) t => hW D dA classes b0 (nxZ + dnZ) h' t.heap) (hA b0)) ([.ref a0, .int i1, .ref a2] : List Value).toArray s dnZ dsZ (hA b0)) (F0 m 92 ls [])) → (q9 = .inr (.inr (.inl ())) → ∀ (H : Heap) (locs : List Loc) (ls : Array Slot), hW D dA classes b0 (nx + dn) h9 H → va_S (hA b0) s.heap H locs → lv_has ls 8 [] → W p l e (headSpec w_Arguments_readNext ({ frames := 3, cells := dnZ, slots := dsZ, locals := 91 } : Room)).room s m ([.ref a0, .int i1, .ref a2] : List Value).toArray below meth c H locs (cells + dn) (slots + ds) (MQ below (va_Qi (fun r' (_ : Unit) => r' = r) (fun (_ : Unit) t => hW D dA classes b0 (nxZ + dnZ) h' t.heap) (hA b0)) ([.ref a0, .int i1, .ref a2] : List Value).toArray s dnZ dsZ (hA b0)) (F0 m 113 ls [])) → (q9 = .inr (.inr (.inr (.inl ()))) → ∀ (H : Heap) (locs : List Loc) (ls : Array Slot), hW D dA classes b0 (nx + dn) h9 H → va_S (hA b0) s.heap H locs → lv_has ls 8 [] → W p l e (headSpec w_Arguments_readNext ({ frames := 3, cells := dnZ, slots := dsZ, locals := 91 } : Room)).room s m ([.ref a0, .int i1, .ref a2] : List Value).toArray below meth c H locs (cells + dn) (slots + ds) (MQ below (va_Qi (fun r' (_ : Unit) => r' = r) (fun (_ : Unit) t => hW D dA classes b0 (nxZ + dnZ) h' t.heap) (hA b0)) ([.ref a0, .int i1, .ref a2] : List Value).toArray s dnZ dsZ (hA b0)) (F0 m 141 ls [])) → (q9 = .inr (.inr (.inr (.inr (.inl ())))) → ∀ (H : Heap) (locs : List Loc) (ls : Array Slot), hW D dA classes b0 (nx + dn) h9 H → va_S (hA b0) s.heap H locs → lv_has ls 8 [] → W p l e (headSpec w_Arguments_readNext ({ frames := 3, cells := dnZ, slots := dsZ, locals := 91 } : Room)).room s m ([.ref a0, .int i1, .ref a2] : List Value).toArray below meth c H locs (cells + dn) (slots + ds) (MQ below (va_Qi (fun r' (_ : Unit) => r' = r) (fun (_ : Unit) t => hW D dA classes b0 (nxZ + dnZ) h' t.heap) (hA b0)) ([.ref a0, .int i1, .ref a2] : List Value).toArray s dnZ dsZ (hA b0)) (F0 m 150 ls [])) → (q9 = .inr (.inr (.inr (.inr (.inr (.inl ()))))) → ∀ (H : Heap) (locs : List Loc) (ls : Array Slot), hW D dA classes b0 (nx + dn) h9 H → va_S (hA b0) s.heap H locs → lv_has ls 8 [] → W p l e (headSpec w_Arguments_readNext ({ frames := 3, cells := dnZ, slots := dsZ, locals := 91 } : Room)).room s m ([.ref a0, .int i1, .ref a2] : List Value).toArray below meth c H locs (cells + dn) (slots + ds) (MQ below (va_Qi (fun r' (_ : Unit) => r' = r) (fun (_ : Unit) t => hW D dA classes b0 (nxZ + dnZ) h' t.heap) (hA b0)) ([.ref a0, .int i1, .ref a2] : List Value).toArray s dnZ dsZ (hA b0)) (F0 m 164 ls [])) → (q9 = .inr (.inr (.inr (.inr (.inr (.inr (())))))) → ∀ (H : Heap) (locs : List Loc) (ls : Array Slot), hW D dA classes b0 (nx + dn) h9 H → va_S (hA b0) s.heap H locs → lv_has ls 8 [] → W p l e (headSpec w_Arguments_readNext ({ frames := 3, cells := dnZ, slots := dsZ, locals := 91 } : Room)).room s m ([.ref a0, .int i1, .ref a2] : List Value).toArray below meth c H locs (cells + dn) (slots + ds) (MQ below (va_Qi (fun r' (_ : Unit) => r' = r) (fun (_ : Unit) t => hW D dA classes b0 (nxZ + dnZ) h' t.heap) (hA b0)) ([.ref a0, .int i1, .ref a2] : List Value).toArray s dnZ dsZ (hA b0)) (F0 m 172 ls [])) → W p l e (headSpec w_Arguments_readNext ({ frames := 3, cells := dnZ, slots := dsZ, locals := 91 } : Room)).room s m ([.ref a0, .int i1, .ref a2] : List Value).toArray below meth c H locs cells slots (MQ below (va_Qi (fun r' (_ : Unit) => r' = r) (fun (_ : Unit) t => hW D dA classes b0 (nxZ + dnZ) h' t.heap) (hA b0)) ([.ref a0, .int i1, .ref a2] : List Value).toArray s dnZ dsZ (hA b0)) (F0 m 143 ls []) := by
        intro x3 x4 x5 x6 q9 h9 cells slots dn ds nx h H locs ls hrun hcB hsB hw hS hl k0 k1 k2 k3 k4 k5 k6
        unfold f_Arguments_readNext_j143 at hrun
        have hcR : cells + dn = cells + dn := rfl
        have hsR : slots + ds = slots + ds := rfl
        have hnR : nx + dn = nx + dn := rfl
        refine h_aload_n hx hb d_Arguments_readNext_143 rfl (lv_at hl 2 rfl) ?_
        replace hrun := hb_some hrun
        obtain ⟨p144, rfl, hrun⟩ := hrun
        replace hrun := hb_some hrun
        obtain ⟨c144, k144, hrun⟩ := hrun
        replace hrun := hb_some hrun
        obtain ⟨v144, g144, hrun⟩ := hrun
        refine h_ci (h_runV S (As := []) (rest := []) (c_Row_isFull l D dA b0 p144 nx g144) (cwV 0 S.2.2.2.2 (h_good _ (h_in4 ml_Arguments_78 im_Row_isFull se_Row_isFull it_Row) cd_Row_isFull) rfl rfl rfl (by decide +kernel) ⟨Nat.le_of_ble_eq_true rfl, Nat.le_of_ble_eq_true rfl⟩) hK hN hw (ci := 8) rfl k144 rfl hl.1 (lv_room (Nat.le_of_ble_eq_true rfl)) d_Arguments_readNext_144 ⟨show cells + 0 ≤ dnZ by omega, show slots + 0 ≤ dsZ by omega⟩) hS (fun H locs hw hS => ?_)
        refine lv_if_eq (tgt := 153) hx hb d_Arguments_readNext_147 (by decide) (fun c147 => ?_) (fun c147 => ?_)
        · rw [if_pos c147] at hrun
          refine lv_aload_n hx hb d_Arguments_readNext_153 rfl (lv_at hl 2 rfl) ?_
          refine lv_iload hx hb d_Arguments_readNext_154 (lv_at hl 5 rfl) ?_
          replace hrun := hb_some hrun
          obtain ⟨c156, k156, hrun⟩ := hrun
          replace hrun := hbind_some hrun
          obtain ⟨_u156, d156, s156, h156, dn156, ds156, g156, hrun, en156, es156⟩ := hrun
          refine h_cv (h_runV S (As := [.int x6]) (rest := []) (c_Row_add l D dA b0 p144 x6 nx g156) (cwV 1 S.2.2.2.2 (h_good _ (h_in4 ml_Arguments_81 im_Row_add se_Row_add it_Row) cd_Row_add) rfl rfl rfl (by decide +kernel) ⟨Nat.le_of_ble_eq_true rfl, Nat.le_of_ble_eq_true rfl⟩) hK hN hw (ci := 8) rfl k156 rfl hl.1 (lv_room (Nat.le_of_ble_eq_true rfl)) d_Arguments_readNext_156 ⟨show cells + d156 ≤ dnZ by omega, show slots + s156 ≤ dsZ by omega⟩) hS (fun H locs hw hS => ?_)
          obtain ⟨nx156, ex156⟩ : ∃ z, z = nx + d156 := ⟨_, rfl⟩
          rw [← ex156] at hw
          try rw [← ex156] at hrun
          replace hcR : (cells + d156) + dn156 = cells + dn := by omega
          replace hsR : (slots + s156) + ds156 = slots + ds := by omega
          replace hnR : nx156 + dn156 = nx + dn := by omega
          clear en156 es156 ex156
          refine lv_iload hx hb d_Arguments_readNext_159 (lv_at hl 3 rfl) ?_
          refine lv_if_ne (tgt := 166) hx hb d_Arguments_readNext_161 (by decide) (fun c161 => ?_) (fun c161 => ?_)
          · rw [if_neg c161] at hrun
            exact j_166 (some p144) x4 x5 _ _ (cells + d156) (slots + s156) _ _ nx156 h156 _ _ _ hrun (by omega) (by omega) hw hS (lv_sub hl [0, 1, 2, 3, 4] rfl) (by have q := k0; rw [show nx + dn = nx156 + dn156 by omega, show cells + dn = (cells + d156) + dn156 by omega, show slots + ds = (slots + s156) + ds156 by omega] at q; exact q) (by have q := k1; rw [show nx + dn = nx156 + dn156 by omega, show cells + dn = (cells + d156) + dn156 by omega, show slots + ds = (slots + s156) + ds156 by omega] at q; exact q) (by have q := k2; rw [show nx + dn = nx156 + dn156 by omega, show cells + dn = (cells + d156) + dn156 by omega, show slots + ds = (slots + s156) + ds156 by omega] at q; exact q) (by have q := k3; rw [show nx + dn = nx156 + dn156 by omega, show cells + dn = (cells + d156) + dn156 by omega, show slots + ds = (slots + s156) + ds156 by omega] at q; exact q) (by have q := k4; rw [show nx + dn = nx156 + dn156 by omega, show cells + dn = (cells + d156) + dn156 by omega, show slots + ds = (slots + s156) + ds156 by omega] at q; exact q) (by have q := k5; rw [show nx + dn = nx156 + dn156 by omega, show cells + dn = (cells + d156) + dn156 by omega, show slots + ds = (slots + s156) + ds156 by omega] at q; exact q) (by have q := k6; rw [show nx + dn = nx156 + dn156 by omega, show cells + dn = (cells + d156) + dn156 by omega, show slots + ds = (slots + s156) + ds156 by omega] at q; exact q)
          · rw [if_pos c161] at hrun
            cases hrun
            rw [show nx156 = nx + dn by omega] at hw
            exact W.widen (by omega) (by omega) (k5  rfl H locs ls hw hS (lv_sub hl [] rfl))
        · rw [if_neg c147] at hrun
          cases hrun
          exact W.widen (by omega) (by omega) (k4  rfl H locs ls hw hS (lv_sub hl [] rfl))
      have j_130 : ∀  (x3 : Option Nat) (x4 : Int32) (x5 : Int32) (x6 : Int32) (x7 : Int32) (q9 : (Int32 × Int32) ⊕ ((Unit) ⊕ (Unit) ⊕ (Unit) ⊕ (Unit) ⊕ (Unit) ⊕ (Unit))) (h9 : hH) (cells slots dn ds nx : Nat) (h : hH) (H : Heap) (locs : List Loc) (ls : Array Slot), f_Arguments_readNext_j130 n a0 a2 x3 x4 x5 x6 x7 nx h = some (q9, dn, ds, h9) → cells + dn ≤ dnZ → slots + ds ≤ dsZ → hW D dA classes b0 nx h H → va_S (hA b0) s.heap H locs → lv_has ls 8 [(0, .ref a0), (2, .ref a2), (3, va_rf x3), (4, .int x4), (5, .int x5), (6, .int x6), (7, .int x7)] → (∀ (z4 : Int32) (z5 : Int32), q9 = .inl (z4, z5) → ∀ (H : Heap) (locs : List Loc) (ls : Array Slot), hW D dA classes b0 (nx + dn) h9 H → va_S (hA b0) s.heap H locs → lv_has ls 8 [(0, .ref a0), (2, .ref a2), (3, va_rf x3), (4, .int z4), (5, .int z5)] → W p l e (headSpec w_Arguments_readNext ({ frames := 3, cells := dnZ, slots := dsZ, locals := 91 } : Room)).room s m ([.ref a0, .int i1, .ref a2] : List Value).toArray below meth c H locs (cells + dn) (slots + ds) (MQ below (va_Qi (fun r' (_ : Unit) => r' = r) (fun (_ : Unit) t => hW D dA classes b0 (nxZ + dnZ) h' t.heap) (hA b0)) ([.ref a0, .int i1, .ref a2] : List Value).toArray s dnZ dsZ (hA b0)) (F0 m 55 ls [])) → (q9 = .inr (.inl ()) → ∀ (H : Heap) (locs : List Loc) (ls : Array Slot), hW D dA classes b0 (nx + dn) h9 H → va_S (hA b0) s.heap H locs → lv_has ls 8 [] → W p l e (headSpec w_Arguments_readNext ({ frames := 3, cells := dnZ, slots := dsZ, locals := 91 } : Room)).room s m ([.ref a0, .int i1, .ref a2] : List Value).toArray below meth c H locs (cells + dn) (slots + ds) (MQ below (va_Qi (fun r' (_ : Unit) => r' = r) (fun (_ : Unit) t => hW D dA classes b0 (nxZ + dnZ) h' t.heap) (hA b0)) ([.ref a0, .int i1, .ref a2] : List Value).toArray s dnZ dsZ (hA b0)) (F0 m 92 ls [])) → (q9 = .inr (.inr (.inl ())) → ∀ (H : Heap) (locs : List Loc) (ls : Array Slot), hW D dA classes b0 (nx + dn) h9 H → va_S (hA b0) s.heap H locs → lv_has ls 8 [] → W p l e (headSpec w_Arguments_readNext ({ frames := 3, cells := dnZ, slots := dsZ, locals := 91 } : Room)).room s m ([.ref a0, .int i1, .ref a2] : List Value).toArray below meth c H locs (cells + dn) (slots + ds) (MQ below (va_Qi (fun r' (_ : Unit) => r' = r) (fun (_ : Unit) t => hW D dA classes b0 (nxZ + dnZ) h' t.heap) (hA b0)) ([.ref a0, .int i1, .ref a2] : List Value).toArray s dnZ dsZ (hA b0)) (F0 m 113 ls [])) → (q9 = .inr (.inr (.inr (.inl ()))) → ∀ (H : Heap) (locs : List Loc) (ls : Array Slot), hW D dA classes b0 (nx + dn) h9 H → va_S (hA b0) s.heap H locs → lv_has ls 8 [] → W p l e (headSpec w_Arguments_readNext ({ frames := 3, cells := dnZ, slots := dsZ, locals := 91 } : Room)).room s m ([.ref a0, .int i1, .ref a2] : List Value).toArray below meth c H locs (cells + dn) (slots + ds) (MQ below (va_Qi (fun r' (_ : Unit) => r' = r) (fun (_ : Unit) t => hW D dA classes b0 (nxZ + dnZ) h' t.heap) (hA b0)) ([.ref a0, .int i1, .ref a2] : List Value).toArray s dnZ dsZ (hA b0)) (F0 m 141 ls [])) → (q9 = .inr (.inr (.inr (.inr (.inl ())))) → ∀ (H : Heap) (locs : List Loc) (ls : Array Slot), hW D dA classes b0 (nx + dn) h9 H → va_S (hA b0) s.heap H locs → lv_has ls 8 [] → W p l e (headSpec w_Arguments_readNext ({ frames := 3, cells := dnZ, slots := dsZ, locals := 91 } : Room)).room s m ([.ref a0, .int i1, .ref a2] : List Value).toArray below meth c H locs (cells + dn) (slots + ds) (MQ below (va_Qi (fun r' (_ : Unit) => r' = r) (fun (_ : Unit) t => hW D dA classes b0 (nxZ + dnZ) h' t.heap) (hA b0)) ([.ref a0, .int i1, .ref a2] : List Value).toArray s dnZ dsZ (hA b0)) (F0 m 150 ls [])) → (q9 = .inr (.inr (.inr (.inr (.inr (.inl ()))))) → ∀ (H : Heap) (locs : List Loc) (ls : Array Slot), hW D dA classes b0 (nx + dn) h9 H → va_S (hA b0) s.heap H locs → lv_has ls 8 [] → W p l e (headSpec w_Arguments_readNext ({ frames := 3, cells := dnZ, slots := dsZ, locals := 91 } : Room)).room s m ([.ref a0, .int i1, .ref a2] : List Value).toArray below meth c H locs (cells + dn) (slots + ds) (MQ below (va_Qi (fun r' (_ : Unit) => r' = r) (fun (_ : Unit) t => hW D dA classes b0 (nxZ + dnZ) h' t.heap) (hA b0)) ([.ref a0, .int i1, .ref a2] : List Value).toArray s dnZ dsZ (hA b0)) (F0 m 164 ls [])) → (q9 = .inr (.inr (.inr (.inr (.inr (.inr (())))))) → ∀ (H : Heap) (locs : List Loc) (ls : Array Slot), hW D dA classes b0 (nx + dn) h9 H → va_S (hA b0) s.heap H locs → lv_has ls 8 [] → W p l e (headSpec w_Arguments_readNext ({ frames := 3, cells := dnZ, slots := dsZ, locals := 91 } : Room)).room s m ([.ref a0, .int i1, .ref a2] : List Value).toArray below meth c H locs (cells + dn) (slots + ds) (MQ below (va_Qi (fun r' (_ : Unit) => r' = r) (fun (_ : Unit) t => hW D dA classes b0 (nxZ + dnZ) h' t.heap) (hA b0)) ([.ref a0, .int i1, .ref a2] : List Value).toArray s dnZ dsZ (hA b0)) (F0 m 172 ls [])) → W p l e (headSpec w_Arguments_readNext ({ frames := 3, cells := dnZ, slots := dsZ, locals := 91 } : Room)).room s m ([.ref a0, .int i1, .ref a2] : List Value).toArray below meth c H locs cells slots (MQ below (va_Qi (fun r' (_ : Unit) => r' = r) (fun (_ : Unit) t => hW D dA classes b0 (nxZ + dnZ) h' t.heap) (hA b0)) ([.ref a0, .int i1, .ref a2] : List Value).toArray s dnZ dsZ (hA b0)) (F0 m 130 ls []) := by
        intro x3 x4 x5 x6 x7 q9 h9 cells slots dn ds nx h H locs ls hrun hcB hsB hw hS hl k0 k1 k2 k3 k4 k5 k6
        unfold f_Arguments_readNext_j130 at hrun
        have hcR : cells + dn = cells + dn := rfl
        have hsR : slots + ds = slots + ds := rfl
        have hnR : nx + dn = nx + dn := rfl
        refine lv_iload hx hb d_Arguments_readNext_130 (lv_at hl 6 rfl) ?_
        refine lv_iconst (v := (1 : Int32)) hx hb d_Arguments_readNext_132 (by decide) ?_
        refine lv_icmp_ne (tgt := 143) hx hb d_Arguments_readNext_133 (by decide) (fun c133 => ?_) (fun c133 => ?_)
        · rw [if_neg c133] at hrun
          exact j_143 x3 x4 x5 x6 _ _ cells slots _ _ nx h _ _ _ hrun (by omega) (by omega) hw hS (lv_sub hl [0, 1, 2, 3, 4, 5] rfl) k0 k1 k2 k3 k4 k5 k6
        · rw [if_pos c133] at hrun
          refine lv_iload hx hb d_Arguments_readNext_136 (lv_at hl 3 rfl) ?_
          refine lv_if_ne (tgt := 143) hx hb d_Arguments_readNext_138 (by decide) (fun c138 => ?_) (fun c138 => ?_)
          · rw [if_neg c138] at hrun
            exact j_143 x3 x4 x5 x6 _ _ cells slots _ _ nx h _ _ _ hrun (by omega) (by omega) hw hS (lv_sub hl [0, 1, 2, 3, 4, 5] rfl) k0 k1 k2 k3 k4 k5 k6
          · rw [if_pos c138] at hrun
            cases hrun
            exact W.widen (by omega) (by omega) (k3  rfl H locs ls hw hS (lv_sub hl [] rfl))
      dsimp only [f_Arguments_readNext_b55] at hrun
      have hcR : cells + dnb = cells + dnb := rfl
      have hsR : slots + dsb = slots + dsb := rfl
      have hnR : nx + dnb = nx + dnb := rfl
      refine lv_iload hx hb d_Arguments_readNext_55 (lv_at hl 4 rfl) ?_
      refine lv_sipush (v := (3000 : Int32)) hx hb d_Arguments_readNext_57 (by decide) ?_
      refine lv_icmp_ge (tgt := 172) hx hb d_Arguments_readNext_60 (by decide) (fun c60 => ?_) (fun c60 => ?_)
      · rw [if_pos c60] at hrun
        cases hrun
        exact W.widen (by omega) (by omega) (K6  rfl H locs ls hw hS (lv_sub hl [] rfl))
      · rw [if_neg c60] at hrun
        refine lv_aload_n hx hb d_Arguments_readNext_63 rfl (lv_at hl 0 rfl) ?_
        replace hrun := hb_some hrun
        obtain ⟨v64, g64, hrun⟩ := hrun
        refine h_getR S (fun w q => hT w (i_Arguments w q)) hK (ci := 2) rfl 0 (by decide) (hT _ fl_Arguments_9) hw g64 d_Arguments_readNext_64 ?_
        replace hrun := hb_some hrun
        obtain ⟨p67, rfl, hrun⟩ := hrun
        replace hrun := hb_some hrun
        obtain ⟨c67, k67, hrun⟩ := hrun
        replace hrun := hb_some hrun
        obtain ⟨v67, g67, hrun⟩ := hrun
        refine h_ci (h_runV S (As := []) (rest := []) (c_Input_isEmpty l D dA b0 p67 nx g67) (cwV 0 S.2.2.2.2 (h_good _ (h_in4 ml_Arguments_45 im_Input_isEmpty se_Input_isEmpty it_Input) cd_Input_isEmpty) rfl rfl rfl (by decide +kernel) ⟨Nat.le_of_ble_eq_true rfl, Nat.le_of_ble_eq_true rfl⟩) hK hN hw (ci := 6) rfl k67 rfl hl.1 (lv_room (Nat.le_of_ble_eq_true rfl)) d_Arguments_readNext_67 ⟨show cells + 0 ≤ dnZ by omega, show slots + 0 ≤ dsZ by omega⟩) hS (fun H locs hw hS => ?_)
        refine lv_if_ne (tgt := 172) hx hb d_Arguments_readNext_70 (by decide) (fun c70 => ?_) (fun c70 => ?_)
        · rw [if_neg c70] at hrun
          cases hrun
          exact W.widen (by omega) (by omega) (K6  rfl H locs ls hw hS (lv_sub hl [] rfl))
        · rw [if_pos c70] at hrun
          refine lv_aload_n hx hb d_Arguments_readNext_73 rfl (lv_at hl 0 rfl) ?_
          replace hrun := hb_some hrun
          obtain ⟨v74, g74, hrun⟩ := hrun
          refine h_getR S (fun w q => hT w (i_Arguments w q)) hK (ci := 2) rfl 0 (by decide) (hT _ fl_Arguments_9) hw g74 d_Arguments_readNext_74 ?_
          replace hrun := hb_some hrun
          obtain ⟨p77, rfl, hrun⟩ := hrun
          replace hrun := hb_some hrun
          obtain ⟨c77, k77, hrun⟩ := hrun
          replace hrun := hbW_some hrun
          obtain ⟨v77, h77, g77, hrun⟩ := hrun
          refine h_ci (h_runV S (As := []) (rest := []) (c_Input_take l D dA b0 p77 nx g77) (cwV 0 S.2.2.2.2 (h_good _ (h_in4 ml_Arguments_51 im_Input_take se_Input_take it_Input) cd_Input_take) rfl rfl rfl (by decide +kernel) ⟨Nat.le_of_ble_eq_true rfl, Nat.le_of_ble_eq_true rfl⟩) hK hN hw (ci := 6) rfl k77 rfl hl.1 (lv_room (Nat.le_of_ble_eq_true rfl)) d_Arguments_readNext_77 ⟨show cells + 0 ≤ dnZ by omega, show slots + 0 ≤ dsZ by omega⟩) hS (fun H locs hw hS => ?_)
          refine lv_istore (lv' := [(6, .int v77), (0, .ref a0), (2, .ref a2), (3, va_rf x3), (4, .int x4), (5, .int x5)]) hx hb d_Arguments_readNext_80 hl (by decide) rfl (fun ls hl => ?_)
          refine lv_aload_n hx hb d_Arguments_readNext_82 rfl (lv_at hl 1 rfl) ?_
          refine lv_iload hx hb d_Arguments_readNext_83 (lv_at hl 0 rfl) ?_
          refine lv_aload_n hx hb d_Arguments_readNext_85 rfl (lv_at hl 2 rfl) ?_
          replace hrun := hb_some hrun
          obtain ⟨c86, k86, hrun⟩ := hrun
          replace hrun := hb_some hrun
          obtain ⟨v86, g86, hrun⟩ := hrun
          refine h_ci (h_runV S (As := [.int v77, .ref a2]) (rest := []) (c_Arguments_isForbidden l D dA b0 a0 v77 a2 nx g86) (cwV 2 S.2.2.2.2 (h_good _ (h_in4 ml_Arguments_69 im_Arguments_isForbidden se_Arguments_isForbidden it_Arguments) cd_Arguments_isForbidden) rfl rfl rfl (by decide +kernel) ⟨Nat.le_of_ble_eq_true rfl, Nat.le_of_ble_eq_true rfl⟩) hK hN hw (ci := 2) rfl k86 rfl hl.1 (lv_room (Nat.le_of_ble_eq_true rfl)) d_Arguments_readNext_86 ⟨show cells + 0 ≤ dnZ by omega, show slots + 0 ≤ dsZ by omega⟩) hS (fun H locs hw hS => ?_)
          refine lv_if_eq (tgt := 94) hx hb d_Arguments_readNext_89 (by decide) (fun c89 => ?_) (fun c89 => ?_)
          · rw [if_pos c89] at hrun
            refine lv_iload hx hb d_Arguments_readNext_94 (lv_at hl 4 rfl) ?_
            refine lv_istore (lv' := [(7, .int x4), (6, .int v77), (0, .ref a0), (2, .ref a2), (3, va_rf x3), (4, .int x4), (5, .int x5)]) hx hb d_Arguments_readNext_96 hl (by decide) rfl (fun ls hl => ?_)
            refine lv_iload hx hb d_Arguments_readNext_98 (lv_at hl 5 rfl) ?_
            refine lv_iload hx hb d_Arguments_readNext_100 (lv_at hl 1 rfl) ?_
            replace hrun := hb_some hrun
            obtain ⟨v102, g102, hrun⟩ := hrun
            refine h_ci (h_runS S (As := [.int v77]) (rest := [.int x4]) (c_Kind_nesting l D dA b0 v77 nx g102) (va_cwS 1 S.2.2.2.2 (h_good _ (h_in3 ml_Arguments_73 sm_Kind_nesting it_Kind) cd_Kind_nesting) rfl rfl rfl (by decide +kernel) ⟨Nat.le_of_ble_eq_true rfl, Nat.le_of_ble_eq_true rfl⟩) hK hN hw rfl hl.1 (lv_room (Nat.le_of_ble_eq_true rfl)) d_Arguments_readNext_102 ⟨show cells + 0 ≤ dnZ by omega, show slots + 0 ≤ dsZ by omega⟩) hS (fun H locs hw hS => ?_)
            refine lv_iadd hx hb d_Arguments_readNext_105 ?_
            refine lv_istore (lv' := [(4, .int (x4 + v102)), (7, .int x4), (6, .int v77), (0, .ref a0), (2, .ref a2), (3, va_rf x3), (5, .int x5)]) hx hb d_Arguments_readNext_106 hl (by decide) (by simp [h_cat]) (fun ls hl => ?_)
            refine lv_iload hx hb d_Arguments_readNext_108 (lv_at hl 0 rfl) ?_
            refine lv_if_ge (tgt := 116) hx hb d_Arguments_readNext_110 (by decide) (fun c110 => ?_) (fun c110 => ?_)
            · rw [if_pos c110] at hrun
              refine lv_iload hx hb d_Arguments_readNext_116 (lv_at hl 1 rfl) ?_
              refine lv_if_ne (tgt := 130) hx hb d_Arguments_readNext_118 (by decide) (fun c118 => ?_) (fun c118 => ?_)
              · rw [if_neg c118] at hrun
                exact j_130 x3 (x4 + v102) x5 v77 x4 _ _ cells slots _ _ nx h77 _ _ _ hrun (by omega) (by omega) hw hS (lv_sub hl [3, 4, 5, 0, 6, 2, 1] rfl) K0 K1 K2 K3 K4 K5 K6
              · rw [if_pos c118] at hrun
                refine lv_iload hx hb d_Arguments_readNext_121 (lv_at hl 0 rfl) ?_
                refine lv_iconst (v := (1 : Int32)) hx hb d_Arguments_readNext_123 (by decide) ?_
                refine lv_icmp_ne (tgt := 130) hx hb d_Arguments_readNext_124 (by decide) (fun c124 => ?_) (fun c124 => ?_)
                · rw [if_neg c124] at hrun
                  exact j_130 x3 (x4 + v102) x5 v77 x4 _ _ cells slots _ _ nx h77 _ _ _ hrun (by omega) (by omega) hw hS (lv_sub hl [3, 4, 5, 0, 6, 2, 1] rfl) K0 K1 K2 K3 K4 K5 K6
                · rw [if_pos c124] at hrun
                  refine lv_goto (tgt := 166) hx hb d_Arguments_readNext_127 (by decide) ?_
                  exact j_166 x3 (x4 + v102) x5 _ _ cells slots _ _ nx h77 _ _ _ hrun (by omega) (by omega) hw hS (lv_sub hl [3, 4, 5, 0, 6] rfl) K0 K1 K2 K3 K4 K5 K6
            · rw [if_neg c110] at hrun
              cases hrun
              exact W.widen (by omega) (by omega) (K2  rfl H locs ls hw hS (lv_sub hl [] rfl))
          · rw [if_neg c89] at hrun
            cases hrun
            exact W.widen (by omega) (by omega) (K1  rfl H locs ls hw hS (lv_sub hl [] rfl))
  have l_13 : ∀ (x3 : Option Nat) (n9 : Nat) (x9 : Int32) (cells slots dn ds nx : Nat) (h : hH) (b9 : (Unit)) (h9 : hH) (H : Heap) (locs : List Loc) (ls : Array Slot), hloopA (f_Arguments_readNext_b13 n a0 a2 x3) n9 x9 nx h = some (b9, dn, ds, h9) → cells + dn ≤ dnZ → slots + ds ≤ dsZ → hW D dA classes b0 nx h H → va_S (hA b0) s.heap H locs → lv_has ls 8 (match x9 with | x4 => [(0, .ref a0), (2, .ref a2), (3, va_rf x3), (4, .int x4)]) → (b9 = () → ∀ (H : Heap) (locs : List Loc) (ls : Array Slot), hW D dA classes b0 (nx + dn) h9 H → va_S (hA b0) s.heap H locs → lv_has ls 8 [(0, .ref a0), (2, .ref a2), (3, va_rf x3)] → W p l e (headSpec w_Arguments_readNext ({ frames := 3, cells := dnZ, slots := dsZ, locals := 91 } : Room)).room s m ([.ref a0, .int i1, .ref a2] : List Value).toArray below meth c H locs (cells + dn) (slots + ds) (MQ below (va_Qi (fun r' (_ : Unit) => r' = r) (fun (_ : Unit) t => hW D dA classes b0 (nxZ + dnZ) h' t.heap) (hA b0)) ([.ref a0, .int i1, .ref a2] : List Value).toArray s dnZ dsZ (hA b0)) (F0 m 49 ls [])) → W p l e (headSpec w_Arguments_readNext ({ frames := 3, cells := dnZ, slots := dsZ, locals := 91 } : Room)).room s m ([.ref a0, .int i1, .ref a2] : List Value).toArray below meth c H locs cells slots (MQ below (va_Qi (fun r' (_ : Unit) => r' = r) (fun (_ : Unit) t => hW D dA classes b0 (nxZ + dnZ) h' t.heap) (hA b0)) ([.ref a0, .int i1, .ref a2] : List Value).toArray s dnZ dsZ (hA b0)) (F0 m 13 ls []) := by
    intro x3 n9
    induction n9 with
    | zero =>
      intro x9 cells slots dn ds nx h b9 h9 H locs ls hrun
      cases hrun
    | succ n9 ih =>
      rintro x4 cells slots dn ds nx h b9 h9 H locs ls hrun hcB hsB hw hS hl k0
      have hl : lv_has ls 8 [(0, .ref a0), (2, .ref a2), (3, va_rf x3), (4, .int x4)] := hl
      unfold hloopA at hrun
      obtain ⟨q9, dnb, dsb, h9b, dnr, dsr, hbody, hrun9, edn, eds⟩ := hbind_some hrun
      have K0 : (∀ (z4 : Int32), q9 = .inl z4 → ∀ (H : Heap) (locs : List Loc) (ls : Array Slot), hW D dA classes b0 (nx + dnb) h9b H → va_S (hA b0) s.heap H locs → lv_has ls 8 [(0, .ref a0), (2, .ref a2), (3, va_rf x3), (4, .int z4)] → W p l e (headSpec w_Arguments_readNext ({ frames := 3, cells := dnZ, slots := dsZ, locals := 91 } : Room)).room s m ([.ref a0, .int i1, .ref a2] : List Value).toArray below meth c H locs (cells + dnb) (slots + dsb) (MQ below (va_Qi (fun r' (_ : Unit) => r' = r) (fun (_ : Unit) t => hW D dA classes b0 (nxZ + dnZ) h' t.heap) (hA b0)) ([.ref a0, .int i1, .ref a2] : List Value).toArray s dnZ dsZ (hA b0)) (F0 m 13 ls [])) := by
        intro z4 eq9 H locs ls hw hS hl
        subst eq9
        exact ih z4 (cells + dnb) (slots + dsb) dnr dsr (nx + dnb) h9b b9 h9 H locs ls hrun9 (by omega) (by omega) hw hS hl (by have q := k0; rw [show nx + dn = nx + dnb + dnr by omega, show cells + dn = cells + dnb + dnr by omega, show slots + ds = slots + dsb + dsr by omega] at q; exact q)
      have K1 : (q9 = .inr () → ∀ (H : Heap) (locs : List Loc) (ls : Array Slot), hW D dA classes b0 (nx + dnb) h9b H → va_S (hA b0) s.heap H locs → lv_has ls 8 [(0, .ref a0), (2, .ref a2), (3, va_rf x3)] → W p l e (headSpec w_Arguments_readNext ({ frames := 3, cells := dnZ, slots := dsZ, locals := 91 } : Room)).room s m ([.ref a0, .int i1, .ref a2] : List Value).toArray below meth c H locs (cells + dnb) (slots + dsb) (MQ below (va_Qi (fun r' (_ : Unit) => r' = r) (fun (_ : Unit) t => hW D dA classes b0 (nxZ + dnZ) h' t.heap) (hA b0)) ([.ref a0, .int i1, .ref a2] : List Value).toArray s dnZ dsZ (hA b0)) (F0 m 49 ls [])) := by
        intro  eq9 H locs ls hw hS hl
        subst eq9
        cases hrun9
        subst edn; subst eds
        exact k0  rfl H locs ls hw hS hl
      clear hrun hrun9 ih k0
      have hrun := hbody
      clear hbody
      replace hcB : cells + dnb ≤ dnZ := by omega
      replace hsB : slots + dsb ≤ dsZ := by omega
      clear edn eds
      dsimp only [f_Arguments_readNext_b13] at hrun
      have hcR : cells + dnb = cells + dnb := rfl
      have hsR : slots + dsb = slots + dsb := rfl
      have hnR : nx + dnb = nx + dnb := rfl
      refine lv_iload hx hb d_Arguments_readNext_13 (lv_at hl 3 rfl) ?_
      refine lv_sipush (v := (3000 : Int32)) hx hb d_Arguments_readNext_15 (by decide) ?_
      refine lv_icmp_ge (tgt := 49) hx hb d_Arguments_readNext_18 (by decide) (fun c18 => ?_) (fun c18 => ?_)
      · rw [if_pos c18] at hrun
        cases hrun
        exact W.widen (by omega) (by omega) (K1  rfl H locs ls hw hS (lv_sub hl [0, 1, 2] rfl))
      · rw [if_neg c18] at hrun
        refine lv_aload_n hx hb d_Arguments_readNext_21 rfl (lv_at hl 0 rfl) ?_
        replace hrun := hb_some hrun
        obtain ⟨v22, g22, hrun⟩ := hrun
        refine h_getR S (fun w q => hT w (i_Arguments w q)) hK (ci := 2) rfl 0 (by decide) (hT _ fl_Arguments_9) hw g22 d_Arguments_readNext_22 ?_
        refine lv_iconst (v := (0 : Int32)) hx hb d_Arguments_readNext_25 (by decide) ?_
        replace hrun := hb_some hrun
        obtain ⟨p26, rfl, hrun⟩ := hrun
        replace hrun := hb_some hrun
        obtain ⟨c26, k26, hrun⟩ := hrun
        replace hrun := hb_some hrun
        obtain ⟨v26, g26, hrun⟩ := hrun
        refine h_ci (h_runV S (As := [.int (0 : Int32)]) (rest := []) (c_Input_get l D dA b0 p26 (0 : Int32) nx g26) (cwV 1 S.2.2.2.2 (h_good _ (h_in4 ml_Arguments_68 im_Input_get se_Input_get it_Input) cd_Input_get) rfl rfl rfl (by decide +kernel) ⟨Nat.le_of_ble_eq_true rfl, Nat.le_of_ble_eq_true rfl⟩) hK hN hw (ci := 6) rfl k26 rfl hl.1 (lv_room (Nat.le_of_ble_eq_true rfl)) d_Arguments_readNext_26 ⟨show cells + 0 ≤ dnZ by omega, show slots + 0 ≤ dsZ by omega⟩) hS (fun H locs hw hS => ?_)
        refine lv_sipush (v := (256 : Int32)) hx hb d_Arguments_readNext_29 (by decide) ?_
        refine lv_icmp_ne (tgt := 49) hx hb d_Arguments_readNext_32 (by decide) (fun c32 => ?_) (fun c32 => ?_)
        · rw [if_neg c32] at hrun
          cases hrun
          exact W.widen (by omega) (by omega) (K1  rfl H locs ls hw hS (lv_sub hl [0, 1, 2] rfl))
        · rw [if_pos c32] at hrun
          refine lv_aload_n hx hb d_Arguments_readNext_35 rfl (lv_at hl 0 rfl) ?_
          replace hrun := hb_some hrun
          obtain ⟨v36, g36, hrun⟩ := hrun
          refine h_getR S (fun w q => hT w (i_Arguments w q)) hK (ci := 2) rfl 0 (by decide) (hT _ fl_Arguments_9) hw g36 d_Arguments_readNext_36 ?_
          replace hrun := hb_some hrun
          obtain ⟨p39, rfl, hrun⟩ := hrun
          replace hrun := hb_some hrun
          obtain ⟨c39, k39, hrun⟩ := hrun
          replace hrun := hbW_some hrun
          obtain ⟨v39, h39, g39, hrun⟩ := hrun
          refine h_ci (h_runV S (As := []) (rest := []) (c_Input_take l D dA b0 p39 nx g39) (cwV 0 S.2.2.2.2 (h_good _ (h_in4 ml_Arguments_51 im_Input_take se_Input_take it_Input) cd_Input_take) rfl rfl rfl (by decide +kernel) ⟨Nat.le_of_ble_eq_true rfl, Nat.le_of_ble_eq_true rfl⟩) hK hN hw (ci := 6) rfl k39 rfl hl.1 (lv_room (Nat.le_of_ble_eq_true rfl)) d_Arguments_readNext_39 ⟨show cells + 0 ≤ dnZ by omega, show slots + 0 ≤ dsZ by omega⟩) hS (fun H locs hw hS => ?_)
          refine lv_pop hx hb d_Arguments_readNext_42 rfl ?_
          refine lv_iinc (v := (x4 + (1 : Int32))) (lv' := [(4, .int (x4 + (1 : Int32))), (0, .ref a0), (2, .ref a2), (3, va_rf x3)]) hx hb d_Arguments_readNext_43 hl (k := 3) rfl rfl (by decide) (by simp [h_cat]) (fun ls hl => ?_)
          refine lv_goto (tgt := 13) hx hb d_Arguments_readNext_46 (by decide) ?_
          cases hrun
          exact W.widen (by omega) (by omega) (K0 (x4 + (1 : Int32)) rfl H locs ls hw hS (lv_sub hl [1, 2, 3, 0] rfl))
  unfold f_Arguments_readNext at hrun
  refine lv_aload_n hx hb d_Arguments_readNext_0 rfl (lv_at hl 0 rfl) ?_
  refine lv_iload_n hx hb d_Arguments_readNext_1 rfl (lv_at hl 1 rfl) ?_
  replace hrun := hb_some hrun
  obtain ⟨c2, k2, hrun⟩ := hrun
  replace hrun := hb_some hrun
  obtain ⟨v2, g2, hrun⟩ := hrun
  refine h_cq (h_runV S (As := [.int i1]) (rest := []) (c_Arguments_argument l D dA b0 a0 i1 nx g2) (cwV 1 S.2.2.2.2 (h_good _ (h_in4 ml_Arguments_37 im_Arguments_argument se_Arguments_argument it_Arguments) cd_Arguments_argument) rfl rfl rfl (by decide +kernel) ⟨Nat.le_of_ble_eq_true rfl, Nat.le_of_ble_eq_true rfl⟩) hK hN hw (ci := 2) rfl k2 rfl hl.1 (lv_room (Nat.le_of_ble_eq_true rfl)) d_Arguments_readNext_2 ⟨show 0 + 0 ≤ dnZ by omega, show 0 + 0 ≤ dsZ by omega⟩) hS (fun H locs hw hS => ?_)
  refine h_astore_n (lv' := [(3, va_rf v2), (0, .ref a0), (1, .int i1), (2, .ref a2)]) hx hb d_Arguments_readNext_5 rfl hl (by decide) rfl (fun ls hl => ?_)
  refine h_aload_n hx hb d_Arguments_readNext_6 rfl (lv_at hl 0 rfl) ?_
  replace hrun := hb_some hrun
  obtain ⟨p7, rfl, hrun⟩ := hrun
  replace hrun := hb_some hrun
  obtain ⟨c7, k7, hrun⟩ := hrun
  replace hrun := hbW_some hrun
  obtain ⟨_u7, h7, g7, hrun⟩ := hrun
  refine h_cv (h_runV S (As := []) (rest := []) (c_Row_clear l D dA b0 p7 nx g7) (cwV 0 S.2.2.2.2 (h_good _ (h_in4 ml_Arguments_65 im_Row_clear se_Row_clear it_Row) cd_Row_clear) rfl rfl rfl (by decide +kernel) ⟨Nat.le_of_ble_eq_true rfl, Nat.le_of_ble_eq_true rfl⟩) hK hN hw (ci := 8) rfl k7 rfl hl.1 (lv_room (Nat.le_of_ble_eq_true rfl)) d_Arguments_readNext_7 ⟨show 0 + 0 ≤ dnZ by omega, show 0 + 0 ≤ dsZ by omega⟩) hS (fun H locs hw hS => ?_)
  refine lv_iconst (v := (0 : Int32)) hx hb d_Arguments_readNext_10 (by decide) ?_
  refine lv_istore (lv' := [(4, .int (0 : Int32)), (3, .ref p7), (0, .ref a0), (1, .int i1), (2, .ref a2)]) hx hb d_Arguments_readNext_11 hl (by decide) rfl (fun ls hl => ?_)
  replace hrun := hbind_some hrun
  obtain ⟨b13, d13, s13, h13l, dn13, ds13, g13, hrun, en13, es13⟩ := hrun
  refine l_13 (some p7) n (0 : Int32) 0 0 _ _ nx h7 _ _ _ _ _ g13 (by omega) (by omega) hw hS (lv_sub hl [2, 4, 1, 0] rfl) ?_
  · rintro  eq9 H locs ls hw hS hl
    obtain rfl := eq9.symm
    obtain ⟨nx13l, ex13⟩ : ∃ z, z = nx + d13 := ⟨_, rfl⟩
    rw [← ex13] at hw
    try rw [← ex13] at hrun
    replace hcR : (0 + d13) + dn13 = dnZ := by omega
    replace hsR : (0 + s13) + ds13 = dsZ := by omega
    replace hnR : nx13l + dn13 = nxZ + dnZ := by omega
    clear en13 es13 ex13
    try dsimp only at hrun
    refine lv_iconst (v := (0 : Int32)) hx hb d_Arguments_readNext_49 (by decide) ?_
    refine lv_istore (lv' := [(4, .int (0 : Int32)), (0, .ref a0), (2, .ref a2), (3, .ref p7)]) hx hb d_Arguments_readNext_50 hl (by decide) rfl (fun ls hl => ?_)
    refine lv_iconst (v := (0 : Int32)) hx hb d_Arguments_readNext_52 (by decide) ?_
    refine lv_istore (lv' := [(5, .int (0 : Int32)), (4, .int (0 : Int32)), (0, .ref a0), (2, .ref a2), (3, .ref p7)]) hx hb d_Arguments_readNext_53 hl (by decide) rfl (fun ls hl => ?_)
    replace hrun := hbind_some hrun
    obtain ⟨b55, d55, s55, h55l, dn55, ds55, g55, hrun, en55, es55⟩ := hrun
    refine l_55 (some p7) n ((0 : Int32), (0 : Int32)) (0 + d13) (0 + s13) _ _ nx13l h13l _ _ _ _ _ g55 (by omega) (by omega) hw hS (lv_sub hl [2, 3, 4, 1, 0] rfl) ?_ ?_ ?_ ?_ ?_ ?_
    · rintro  eq9 H locs ls hw hS hl
      obtain rfl := eq9.symm
      obtain ⟨nx55l, ex55⟩ : ∃ z, z = nx13l + d55 := ⟨_, rfl⟩
      rw [← ex55] at hw
      try rw [← ex55] at hrun
      replace hcR : ((0 + d13) + d55) + dn55 = dnZ := by omega
      replace hsR : ((0 + s13) + s55) + ds55 = dsZ := by omega
      replace hnR : nx55l + dn55 = nxZ + dnZ := by omega
      clear en55 es55 ex55
      try dsimp only at hrun
      refine lv_iconst (v := (2 : Int32)) hx hb d_Arguments_readNext_92 (by decide) ?_
      cases hrun
      refine W.widen (k := dnZ) (n := dsZ) (by omega) (by omega) ?_
      rw [show nx55l = nxZ + dnZ by omega] at hw
      exact W.iret hx hb hr (fun t ht hW9 => ⟨⟨_, (), rfl, rfl, by show hW D dA classes b0 _ _ t.heap; rw [ht]; exact hw⟩, hS.F ht⟩) hS.2.2 d_Arguments_readNext_93
    · rintro  eq9 H locs ls hw hS hl
      obtain rfl := eq9.symm
      obtain ⟨nx55l, ex55⟩ : ∃ z, z = nx13l + d55 := ⟨_, rfl⟩
      rw [← ex55] at hw
      try rw [← ex55] at hrun
      replace hcR : ((0 + d13) + d55) + dn55 = dnZ := by omega
      replace hsR : ((0 + s13) + s55) + ds55 = dsZ := by omega
      replace hnR : nx55l + dn55 = nxZ + dnZ := by omega
      clear en55 es55 ex55
      try dsimp only at hrun
      refine lv_bipush (v := (7 : Int32)) hx hb d_Arguments_readNext_113 (by decide) ?_
      cases hrun
      refine W.widen (k := dnZ) (n := dsZ) (by omega) (by omega) ?_
      rw [show nx55l = nxZ + dnZ by omega] at hw
      exact W.iret hx hb hr (fun t ht hW9 => ⟨⟨_, (), rfl, rfl, by show hW D dA classes b0 _ _ t.heap; rw [ht]; exact hw⟩, hS.F ht⟩) hS.2.2 d_Arguments_readNext_115
    · rintro  eq9 H locs ls hw hS hl
      obtain rfl := eq9.symm
      obtain ⟨nx55l, ex55⟩ : ∃ z, z = nx13l + d55 := ⟨_, rfl⟩
      rw [← ex55] at hw
      try rw [← ex55] at hrun
      replace hcR : ((0 + d13) + d55) + dn55 = dnZ := by omega
      replace hsR : ((0 + s13) + s55) + ds55 = dsZ := by omega
      replace hnR : nx55l + dn55 = nxZ + dnZ := by omega
      clear en55 es55 ex55
      try dsimp only at hrun
      refine lv_iconst (v := (0 : Int32)) hx hb d_Arguments_readNext_141 (by decide) ?_
      cases hrun
      refine W.widen (k := dnZ) (n := dsZ) (by omega) (by omega) ?_
      rw [show nx55l = nxZ + dnZ by omega] at hw
      exact W.iret hx hb hr (fun t ht hW9 => ⟨⟨_, (), rfl, rfl, by show hW D dA classes b0 _ _ t.heap; rw [ht]; exact hw⟩, hS.F ht⟩) hS.2.2 d_Arguments_readNext_142
    · rintro  eq9 H locs ls hw hS hl
      obtain rfl := eq9.symm
      obtain ⟨nx55l, ex55⟩ : ∃ z, z = nx13l + d55 := ⟨_, rfl⟩
      rw [← ex55] at hw
      try rw [← ex55] at hrun
      replace hcR : ((0 + d13) + d55) + dn55 = dnZ := by omega
      replace hsR : ((0 + s13) + s55) + ds55 = dsZ := by omega
      replace hnR : nx55l + dn55 = nxZ + dnZ := by omega
      clear en55 es55 ex55
      try dsimp only at hrun
      refine lv_bipush (v := (8 : Int32)) hx hb d_Arguments_readNext_150 (by decide) ?_
      cases hrun
      refine W.widen (k := dnZ) (n := dsZ) (by omega) (by omega) ?_
      rw [show nx55l = nxZ + dnZ by omega] at hw
      exact W.iret hx hb hr (fun t ht hW9 => ⟨⟨_, (), rfl, rfl, by show hW D dA classes b0 _ _ t.heap; rw [ht]; exact hw⟩, hS.F ht⟩) hS.2.2 d_Arguments_readNext_152
    · rintro  eq9 H locs ls hw hS hl
      obtain rfl := eq9.symm
      obtain ⟨nx55l, ex55⟩ : ∃ z, z = nx13l + d55 := ⟨_, rfl⟩
      rw [← ex55] at hw
      try rw [← ex55] at hrun
      replace hcR : ((0 + d13) + d55) + dn55 = dnZ := by omega
      replace hsR : ((0 + s13) + s55) + ds55 = dsZ := by omega
      replace hnR : nx55l + dn55 = nxZ + dnZ := by omega
      clear en55 es55 ex55
      try dsimp only at hrun
      refine lv_iconst (v := (0 : Int32)) hx hb d_Arguments_readNext_164 (by decide) ?_
      cases hrun
      refine W.widen (k := dnZ) (n := dsZ) (by omega) (by omega) ?_
      rw [show nx55l = nxZ + dnZ by omega] at hw
      exact W.iret hx hb hr (fun t ht hW9 => ⟨⟨_, (), rfl, rfl, by show hW D dA classes b0 _ _ t.heap; rw [ht]; exact hw⟩, hS.F ht⟩) hS.2.2 d_Arguments_readNext_165
    · rintro  eq9 H locs ls hw hS hl
      obtain rfl := eq9.symm
      obtain ⟨nx55l, ex55⟩ : ∃ z, z = nx13l + d55 := ⟨_, rfl⟩
      rw [← ex55] at hw
      try rw [← ex55] at hrun
      replace hcR : ((0 + d13) + d55) + dn55 = dnZ := by omega
      replace hsR : ((0 + s13) + s55) + ds55 = dsZ := by omega
      replace hnR : nx55l + dn55 = nxZ + dnZ := by omega
      clear en55 es55 ex55
      try dsimp only at hrun
      refine lv_iconst (v := (1 : Int32)) hx hb d_Arguments_readNext_172 (by decide) ?_
      cases hrun
      refine W.widen (k := dnZ) (n := dsZ) (by omega) (by omega) ?_
      rw [show nx55l = nxZ + dnZ by omega] at hw
      exact W.iret hx hb hr (fun t ht hW9 => ⟨⟨_, (), rfl, rfl, by show hW D dA classes b0 _ _ t.heap; rw [ht]; exact hw⟩, hS.F ht⟩) hS.2.2 d_Arguments_readNext_173
