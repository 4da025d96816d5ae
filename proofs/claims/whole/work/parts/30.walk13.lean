set_option maxHeartbeats 4000000 in
set_option maxRecDepth 100000 in
theorem c_MacroExpand_traced (l : Launch) (D : va_G) (dA : Nat → ClassId) (b0 : Nat) (a0 : Nat) (i1 : Int32) (i2 : Int32) (nx : Nat) {h : hH} {r : Int32} (hrun : f_MacroExpand_traced a0 i1 i2 h = some r) : Met l y_MacroExpand_traced w_MacroExpand_traced ({ frames := 1, cells := 0, slots := 0, locals := 22 } : Room) (va_Pc [.ref a0, .int i1, .int i2] (hB D dA b0 nx h)) (va_Qi (fun r' (_ : Unit) => r' = r) (fun (_ : Unit) t => hW D dA classes b0 nx h t.heap) (hA b0)) 0 0 (hA b0) := by
  refine Met.ofW (cc := b_MacroExpand_traced) (maxL := 3) (ret := (some .int)) (by decide) rfl ?_
  intro p e s m args below meth c s₁ B hml hv
  obtain ⟨rfl, hw, hK, hN⟩ := hv
  have hx := B.exec
  have hb := B.bytes
  have hr := B.returns
  have hlocks := B.notSynchronized
  have S : CallFix p m c b_MacroExpand_traced 3 s ([.ref a0, .int i1, .int i2] : List Value).toArray w_MacroExpand_traced R_MacroExpand := ⟨hx, hb, hml, findClass_of_methodNamed B.named, atoms_spec (ws := w_MacroExpand_traced) B.pre⟩
  have hT : ∀ w ∈ tbl, w ∈ w_MacroExpand_traced := fun _ q => List.mem_cons_of_mem _ q
  have hS : va_S (hA b0) s.heap s.heap [] := va_S.rf
  have hl := lv_entry ([.ref a0, .int i1, .int i2]) (n := 3) (Nat.le_of_ble_eq_true rfl)
  rw [lg_entry_eq]
  generalize (lg_sl ([.ref a0, .int i1, .int i2]) ++ List.replicate (3 - (lg_sl ([.ref a0, .int i1, .int i2])).length) Slot.unset).toArray = ls at hl ⊢
  have hl : lv_has ls 3 [(0, .ref a0), (1, .int i1), (2, .int i2)] := hl
  unfold f_MacroExpand_traced at hrun
  refine lv_aload_n hx hb d_MacroExpand_traced_0 rfl (lv_at hl 0 rfl) ?_
  replace hrun := hb_some hrun
  obtain ⟨v1, g1, hrun⟩ := hrun
  refine h_getR S (fun w q => hT w (i_MacroExpand w q)) hK (ci := 0) rfl 3 (by decide) (hT _ fl_MacroExpand_46) hw g1 d_MacroExpand_traced_1 ?_
  replace hrun := hb_some hrun
  obtain ⟨p4, rfl, hrun⟩ := hrun
  replace hrun := hb_some hrun
  obtain ⟨v4, g4, hrun⟩ := hrun
  refine h_getNR S (fun w q => hT w (i_Expander w q)) hK (ci := 5) rfl 4 (by decide) (hN.1 _ nf_MacroExpand_162) hw g4 d_MacroExpand_traced_4 ?_
  refine lv_iload_n hx hb d_MacroExpand_traced_7 rfl (lv_at hl 1 rfl) ?_
  refine lv_iload_n hx hb d_MacroExpand_traced_8 rfl (lv_at hl 2 rfl) ?_
  replace hrun := hb_some hrun
  obtain ⟨p9, rfl, hrun⟩ := hrun
  replace hrun := hb_some hrun
  obtain ⟨c9, k9, hrun⟩ := hrun
  replace hrun := hb_some hrun
  obtain ⟨v9, g9, hrun⟩ := hrun
  refine h_ci (h_runV S (As := [.int i1, .int i2]) (rest := []) (c_Trace_get l D dA b0 p9 i1 i2 nx g9) (cwV 2 S.2.2.2.2 (h_good _ (h_in4 ml_MacroExpand_166 im_Trace_get se_Trace_get it_Trace) cd_Trace_get) rfl rfl rfl (by decide +kernel) ⟨Nat.le_of_ble_eq_true rfl, Nat.le_of_ble_eq_true rfl⟩) hK hN hw (ci := 10) rfl k9 rfl hl.1 (lv_room (Nat.le_of_ble_eq_true rfl)) d_MacroExpand_traced_9 ⟨Nat.le_refl _, Nat.le_refl _⟩) hS (fun H locs hw hS => ?_)
  cases hrun
  exact W.iret hx hb hr (fun t ht hW9 => ⟨⟨_, (), rfl, rfl, by show hW D dA classes b0 _ _ t.heap; rw [ht]; exact hw⟩, hS.F ht⟩) hS.2.2 d_MacroExpand_traced_12
set_option maxHeartbeats 4000000 in
set_option maxRecDepth 100000 in
theorem c_MacroExpand_input (l : Launch) (D : va_G) (dA : Nat → ClassId) (b0 : Nat) (a0 : Nat) (i1 : Int32) (nx : Nat) {h : hH} {r : Int32} (hrun : f_MacroExpand_input a0 i1 h = some r) : Met l y_MacroExpand_input w_MacroExpand_input ({ frames := 1, cells := 0, slots := 0, locals := 21 } : Room) (va_Pc [.ref a0, .int i1] (hB D dA b0 nx h)) (va_Qi (fun r' (_ : Unit) => r' = r) (fun (_ : Unit) t => hW D dA classes b0 nx h t.heap) (hA b0)) 0 0 (hA b0) := by
  refine Met.ofW (cc := b_MacroExpand_input) (maxL := 2) (ret := (some .int)) (by decide) rfl ?_
  intro p e s m args below meth c s₁ B hml hv
  obtain ⟨rfl, hw, hK, hN⟩ := hv
  have hx := B.exec
  have hb := B.bytes
  have hr := B.returns
  have hlocks := B.notSynchronized
  have S : CallFix p m c b_MacroExpand_input 2 s ([.ref a0, .int i1] : List Value).toArray w_MacroExpand_input R_MacroExpand := ⟨hx, hb, hml, findClass_of_methodNamed B.named, atoms_spec (ws := w_MacroExpand_input) B.pre⟩
  have hT : ∀ w ∈ tbl, w ∈ w_MacroExpand_input := fun _ q => List.mem_cons_of_mem _ q
  have hS : va_S (hA b0) s.heap s.heap [] := va_S.rf
  have hl := lv_entry ([.ref a0, .int i1]) (n := 2) (Nat.le_of_ble_eq_true rfl)
  rw [lg_entry_eq]
  generalize (lg_sl ([.ref a0, .int i1]) ++ List.replicate (2 - (lg_sl ([.ref a0, .int i1])).length) Slot.unset).toArray = ls at hl ⊢
  have hl : lv_has ls 2 [(0, .ref a0), (1, .int i1)] := hl
  unfold f_MacroExpand_input at hrun
  refine lv_aload_n hx hb d_MacroExpand_input_0 rfl (lv_at hl 0 rfl) ?_
  replace hrun := hb_some hrun
  obtain ⟨v1, g1, hrun⟩ := hrun
  refine h_getR S (fun w q => hT w (i_MacroExpand w q)) hK (ci := 0) rfl 2 (by decide) (hT _ fl_MacroExpand_37) hw g1 d_MacroExpand_input_1 ?_
  refine lv_iload_n hx hb d_MacroExpand_input_4 rfl (lv_at hl 1 rfl) ?_
  replace hrun := hb_some hrun
  obtain ⟨p5, rfl, hrun⟩ := hrun
  replace hrun := hb_some hrun
  obtain ⟨c5, k5, hrun⟩ := hrun
  replace hrun := hb_some hrun
  obtain ⟨v5, g5, hrun⟩ := hrun
  refine h_ci (h_runV S (As := [.int i1]) (rest := []) (c_Input_get l D dA b0 p5 i1 nx g5) (cwV 1 S.2.2.2.2 (h_good _ (h_in4 ml_MacroExpand_171 im_Input_get se_Input_get it_Input) cd_Input_get) rfl rfl rfl (by decide +kernel) ⟨Nat.le_of_ble_eq_true rfl, Nat.le_of_ble_eq_true rfl⟩) hK hN hw (ci := 6) rfl k5 rfl hl.1 (lv_room (Nat.le_of_ble_eq_true rfl)) d_MacroExpand_input_5 ⟨Nat.le_refl _, Nat.le_refl _⟩) hS (fun H locs hw hS => ?_)
  cases hrun
  exact W.iret hx hb hr (fun t ht hW9 => ⟨⟨_, (), rfl, rfl, by show hW D dA classes b0 _ _ t.heap; rw [ht]; exact hw⟩, hS.F ht⟩) hS.2.2 d_MacroExpand_input_8
set_option maxHeartbeats 4000000 in
set_option maxRecDepth 100000 in
theorem c_MacroExpand_macro (l : Launch) (D : va_G) (dA : Nat → ClassId) (b0 : Nat) (a0 : Nat) (i1 : Int32) (nx : Nat) {h : hH} {r : Int32} (hrun : f_MacroExpand_macro a0 i1 h = some r) : Met l y_MacroExpand_macro w_MacroExpand_macro ({ frames := 1, cells := 0, slots := 0, locals := 21 } : Room) (va_Pc [.ref a0, .int i1] (hB D dA b0 nx h)) (va_Qi (fun r' (_ : Unit) => r' = r) (fun (_ : Unit) t => hW D dA classes b0 nx h t.heap) (hA b0)) 0 0 (hA b0) := by
  refine Met.ofW (cc := b_MacroExpand_macro) (maxL := 2) (ret := (some .int)) (by decide) rfl ?_
  intro p e s m args below meth c s₁ B hml hv
  obtain ⟨rfl, hw, hK, hN⟩ := hv
  have hx := B.exec
  have hb := B.bytes
  have hr := B.returns
  have hlocks := B.notSynchronized
  have S : CallFix p m c b_MacroExpand_macro 2 s ([.ref a0, .int i1] : List Value).toArray w_MacroExpand_macro R_MacroExpand := ⟨hx, hb, hml, findClass_of_methodNamed B.named, atoms_spec (ws := w_MacroExpand_macro) B.pre⟩
  have hT : ∀ w ∈ tbl, w ∈ w_MacroExpand_macro := fun _ q => List.mem_cons_of_mem _ q
  have hS : va_S (hA b0) s.heap s.heap [] := va_S.rf
  have hl := lv_entry ([.ref a0, .int i1]) (n := 2) (Nat.le_of_ble_eq_true rfl)
  rw [lg_entry_eq]
  generalize (lg_sl ([.ref a0, .int i1]) ++ List.replicate (2 - (lg_sl ([.ref a0, .int i1])).length) Slot.unset).toArray = ls at hl ⊢
  have hl : lv_has ls 2 [(0, .ref a0), (1, .int i1)] := hl
  unfold f_MacroExpand_macro at hrun
  refine lv_aload_n hx hb d_MacroExpand_macro_0 rfl (lv_at hl 0 rfl) ?_
  replace hrun := hb_some hrun
  obtain ⟨v1, g1, hrun⟩ := hrun
  refine h_getR S (fun w q => hT w (i_MacroExpand w q)) hK (ci := 0) rfl 0 (by decide) (hT _ fl_MacroExpand_23) hw g1 d_MacroExpand_macro_1 ?_
  refine lv_iload_n hx hb d_MacroExpand_macro_4 rfl (lv_at hl 1 rfl) ?_
  replace hrun := hb_some hrun
  obtain ⟨p5, rfl, hrun⟩ := hrun
  replace hrun := hb_some hrun
  obtain ⟨c5, k5, hrun⟩ := hrun
  replace hrun := hb_some hrun
  obtain ⟨v5, g5, hrun⟩ := hrun
  refine h_ci (h_runV S (As := [.int i1]) (rest := []) (c_Book_numberOf l D dA b0 p5 i1 nx g5) (cwV 1 S.2.2.2.2 (h_good _ (h_in4 ml_MacroExpand_172 im_Book_numberOf se_Book_numberOf it_Book) cd_Book_numberOf) rfl rfl rfl (by decide +kernel) ⟨Nat.le_of_ble_eq_true rfl, Nat.le_of_ble_eq_true rfl⟩) hK hN hw (ci := 3) rfl k5 rfl hl.1 (lv_room (Nat.le_of_ble_eq_true rfl)) d_MacroExpand_macro_5 ⟨Nat.le_refl _, Nat.le_refl _⟩) hS (fun H locs hw hS => ?_)
  cases hrun
  exact W.iret hx hb hr (fun t ht hW9 => ⟨⟨_, (), rfl, rfl, by show hW D dA classes b0 _ _ t.heap; rw [ht]; exact hw⟩, hS.F ht⟩) hS.2.2 d_MacroExpand_macro_8
set_option maxHeartbeats 4000000 in
set_option maxRecDepth 100000 in
theorem c_MacroExpandModel_init (l : Launch) (D : va_G) (dA : Nat → ClassId) (b0 : Nat) (n : Nat) (a0 : Nat) (i1 : Int64) (nxZ : Nat) {h h' : hH} {r : Unit} {dnZ dsZ : Nat} (hrun : f_MacroExpandModel_init n a0 i1 nxZ h = some (r, dnZ, dsZ, h')) : Met l y_MacroExpandModel_init w_MacroExpandModel_init ({ frames := 1, cells := dnZ, slots := dsZ, locals := 20 } : Room) (va_Pc [.ref a0, .long i1] (hB D dA b0 nxZ h)) (va_Qv (fun (_ : Unit) => True) (fun (_ : Unit) t => hW D dA classes b0 (nxZ + dnZ) h' t.heap) (hA b0)) dnZ dsZ (hA b0) := by
  refine Met.ofW (cc := b_MacroExpandModel_init) (maxL := 4) (ret := none) (by decide) rfl ?_
  intro p e s m args below meth c s₁ B hml hv
  obtain ⟨rfl, hw, hK, hN⟩ := hv
  have hx := B.exec
  have hb := B.bytes
  have hr := B.returns
  have hlocks := B.notSynchronized
  have hin : meth.name = "<init>" := (name_of_methodNamed B.named B.method).1
  have S : CallFix p m c b_MacroExpandModel_init 4 s ([.ref a0, .long i1] : List Value).toArray w_MacroExpandModel_init R_MacroExpandModel := ⟨hx, hb, hml, findClass_of_methodNamed B.named, atoms_spec (ws := w_MacroExpandModel_init) B.pre⟩
  have hT : ∀ w ∈ tbl, w ∈ w_MacroExpandModel_init := fun _ q => List.mem_cons_of_mem _ q
  have hS : va_S (hA b0) s.heap s.heap [] := va_S.rf
  have hl := lv_entry ([.ref a0, .long i1]) (n := 4) (Nat.le_of_ble_eq_true rfl)
  rw [lg_entry_eq]
  generalize (lg_sl ([.ref a0, .long i1]) ++ List.replicate (4 - (lg_sl ([.ref a0, .long i1])).length) Slot.unset).toArray = ls at hl ⊢
  have hl : lv_has ls 4 [(0, .ref a0), (1, .long i1)] := hl
  obtain ⟨dn, edn⟩ : ∃ z, z = dnZ := ⟨_, rfl⟩
  obtain ⟨ds, eds⟩ : ∃ z, z = dsZ := ⟨_, rfl⟩
  obtain ⟨nx, enx⟩ : ∃ z, z = nxZ := ⟨_, rfl⟩
  rw [← edn, ← eds, ← enx] at hrun
  rw [← enx] at hw
  have hcR : 0 + dn ≤ dnZ := by omega
  have hsR : 0 + ds ≤ dsZ := by omega
  have l_224 : ∀ (n9 : Nat) (x9 : Int32) (cells slots dn ds nx : Nat) (h : hH) (b9 : (Unit)) (h9 : hH) (H : Heap) (locs : List Loc) (ls : Array Slot), hloopA (f_MacroExpandModel_init_b224 n a0) n9 x9 nx h = some (b9, dn, ds, h9) → cells + dn ≤ dnZ → slots + ds ≤ dsZ → hW D dA classes b0 nx h H → va_S (hA b0) s.heap H locs → lv_has ls 4 (match x9 with | x3 => [(0, .ref a0), (3, .int x3)]) → (b9 = () → ∀ (H : Heap) (locs : List Loc) (ls : Array Slot), hW D dA classes b0 (nx + dn) h9 H → va_S (hA b0) s.heap H locs → lv_has ls 4 [] → W p l e (headSpec w_MacroExpandModel_init ({ frames := 1, cells := dnZ, slots := dsZ, locals := 20 } : Room)).room s m ([.ref a0, .long i1] : List Value).toArray below meth c H locs (cells + dn) (slots + ds) (MQ below (va_Qv (fun (_ : Unit) => True) (fun (_ : Unit) t => hW D dA classes b0 (nxZ + dnZ) h' t.heap) (hA b0)) ([.ref a0, .long i1] : List Value).toArray s dnZ dsZ (hA b0)) (F0 m 244 ls [])) → W p l e (headSpec w_MacroExpandModel_init ({ frames := 1, cells := dnZ, slots := dsZ, locals := 20 } : Room)).room s m ([.ref a0, .long i1] : List Value).toArray below meth c H locs cells slots (MQ below (va_Qv (fun (_ : Unit) => True) (fun (_ : Unit) t => hW D dA classes b0 (nxZ + dnZ) h' t.heap) (hA b0)) ([.ref a0, .long i1] : List Value).toArray s dnZ dsZ (hA b0)) (F0 m 224 ls []) := by
    intro  n9
    induction n9 with
    | zero =>
      intro x9 cells slots dn ds nx h b9 h9 H locs ls hrun
      cases hrun
    | succ n9 ih =>
      rintro x3 cells slots dn ds nx h b9 h9 H locs ls hrun hcR hsR hw hS hl k0
      have hl : lv_has ls 4 [(0, .ref a0), (3, .int x3)] := hl
      unfold hloopA at hrun
      obtain ⟨q9, dnb, dsb, h9b, dnr, dsr, hbody, hrun9, edn, eds⟩ := hbind_some hrun
      have K0 : (∀ (z3 : Int32), q9 = .inl z3 → ∀ (H : Heap) (locs : List Loc) (ls : Array Slot), hW D dA classes b0 (nx + dnb) h9b H → va_S (hA b0) s.heap H locs → lv_has ls 4 [(0, .ref a0), (3, .int z3)] → W p l e (headSpec w_MacroExpandModel_init ({ frames := 1, cells := dnZ, slots := dsZ, locals := 20 } : Room)).room s m ([.ref a0, .long i1] : List Value).toArray below meth c H locs (cells + dnb) (slots + dsb) (MQ below (va_Qv (fun (_ : Unit) => True) (fun (_ : Unit) t => hW D dA classes b0 (nxZ + dnZ) h' t.heap) (hA b0)) ([.ref a0, .long i1] : List Value).toArray s dnZ dsZ (hA b0)) (F0 m 224 ls [])) := by
        intro z3 eq9 H locs ls hw hS hl
        subst eq9
        exact ih z3 (cells + dnb) (slots + dsb) dnr dsr (nx + dnb) h9b b9 h9 H locs ls hrun9 (by omega) (by omega) hw hS hl (by have q := k0; rw [show nx + dn = nx + dnb + dnr by omega, show cells + dn = cells + dnb + dnr by omega, show slots + ds = slots + dsb + dsr by omega] at q; exact q)
      have K1 : (q9 = .inr () → ∀ (H : Heap) (locs : List Loc) (ls : Array Slot), hW D dA classes b0 (nx + dnb) h9b H → va_S (hA b0) s.heap H locs → lv_has ls 4 [] → W p l e (headSpec w_MacroExpandModel_init ({ frames := 1, cells := dnZ, slots := dsZ, locals := 20 } : Room)).room s m ([.ref a0, .long i1] : List Value).toArray below meth c H locs (cells + dnb) (slots + dsb) (MQ below (va_Qv (fun (_ : Unit) => True) (fun (_ : Unit) t => hW D dA classes b0 (nxZ + dnZ) h' t.heap) (hA b0)) ([.ref a0, .long i1] : List Value).toArray s dnZ dsZ (hA b0)) (F0 m 244 ls [])) := by
        intro  eq9 H locs ls hw hS hl
        subst eq9
        cases hrun9
        subst edn; subst eds
        exact k0  rfl H locs ls hw hS hl
      clear hrun hrun9 ih k0
      have hrun := hbody
      clear hbody
      have hcR : cells + dnb ≤ dnZ := by omega
      have hsR : slots + dsb ≤ dsZ := by omega
      clear edn eds
      dsimp only [f_MacroExpandModel_init_b224] at hrun
      refine lv_iload_n hx hb d_MacroExpandModel_init_224 rfl (lv_at hl 1 rfl) ?_
      refine lv_sipush (v := (200 : Int32)) hx hb d_MacroExpandModel_init_225 (by decide) ?_
      refine lv_icmp_ge (tgt := 244) hx hb d_MacroExpandModel_init_228 (by decide) (fun c228 => ?_) (fun c228 => ?_)
      · rw [if_pos c228] at hrun
        cases hrun
        exact W.widen (by omega) (by omega) (K1  rfl H locs ls hw hS (lv_sub hl [] rfl))
      · rw [if_neg c228] at hrun
        refine lv_aload_n hx hb d_MacroExpandModel_init_231 rfl (lv_at hl 0 rfl) ?_
        replace hrun := hb_some hrun
        obtain ⟨v232, g232, hrun⟩ := hrun
        refine h_getR S (fun w q => hT w (i_MacroExpandModel w q)) hK (ci := 1) rfl 13 (by decide) (hT _ fl_MacroExpandModel_35) hw g232 d_MacroExpandModel_init_232 ?_
        refine lv_iload_n hx hb d_MacroExpandModel_init_235 rfl (lv_at hl 1 rfl) ?_
        refine lv_iconst (v := (-1 : Int32)) hx hb d_MacroExpandModel_init_236 (by decide) ?_
        replace hrun := hb_some hrun
        obtain ⟨p237, rfl, hrun⟩ := hrun
        replace hrun := hb_some hrun
        obtain ⟨h237, g237, hrun⟩ := hrun
        refine h_iast S hK (kd := 0) rfl hw hS g237 d_MacroExpandModel_init_237 (fun H locs hw hS => ?_)
        refine lv_iinc (v := (x3 + (1 : Int32))) (lv' := [(3, .int (x3 + (1 : Int32))), (0, .ref a0)]) hx hb d_MacroExpandModel_init_238 hl (k := 1) rfl rfl (by decide) rfl (fun ls hl => ?_)
        refine lv_goto (tgt := 224) hx hb d_MacroExpandModel_init_241 (by decide) ?_
        cases hrun
        exact W.widen (by omega) (by omega) (K0 (x3 + (1 : Int32)) rfl H locs ls hw hS (lv_sub hl [1, 0] rfl))
  have j_219 : ∀  (y0 : Option Nat) (y1 : Int32) (cells slots dn ds nx : Nat) (h : hH) (H : Heap) (locs : List Loc) (ls : Array Slot), f_MacroExpandModel_init_j219 n a0 y0 y1 nx h = some (r, dn, ds, h') → cells + dn ≤ dnZ → slots + ds ≤ dsZ → nx + dn = nxZ + dnZ → hW D dA classes b0 nx h H → va_S (hA b0) s.heap H locs → lv_has ls 4 [(0, .ref a0)] → W p l e (headSpec w_MacroExpandModel_init ({ frames := 1, cells := dnZ, slots := dsZ, locals := 20 } : Room)).room s m ([.ref a0, .long i1] : List Value).toArray below meth c H locs cells slots (MQ below (va_Qv (fun (_ : Unit) => True) (fun (_ : Unit) t => hW D dA classes b0 (nxZ + dnZ) h' t.heap) (hA b0)) ([.ref a0, .long i1] : List Value).toArray s dnZ dsZ (hA b0)) (F0 m 219 ls [.int y1, va_rf y0]) := by
    intro y0 y1 cells slots dn ds nx h H locs ls hrun hcR hsR hnR hw hS hl
    unfold f_MacroExpandModel_init_j219 at hrun
    replace hrun := hb_some hrun
    obtain ⟨p219, rfl, hrun⟩ := hrun
    replace hrun := hb_some hrun
    obtain ⟨h219, g219, hrun⟩ := hrun
    refine h_putF S (fun w q => hT w (i_MacroExpandModel w q)) t_MacroExpandModel t_MacroExpandModel_ok n_MacroExpandModel hK (ci := 1) rfl 0 (by decide) (hT _ fl_MacroExpandModel_79) rfl hin rfl rfl rfl hw hS g219 d_MacroExpandModel_init_219 (fun H locs hw hS => ?_)
    refine lv_iconst (v := (0 : Int32)) hx hb d_MacroExpandModel_init_222 (by decide) ?_
    refine lv_istore_n (lv' := [(3, .int (0 : Int32)), (0, .ref a0)]) hx hb d_MacroExpandModel_init_223 rfl hl (by decide) rfl (fun ls hl => ?_)
    replace hrun := hbind_some hrun
    obtain ⟨b224, d224, s224, h224l, dn224, ds224, g224, hrun, en224, es224⟩ := hrun
    refine l_224 n (0 : Int32) cells slots _ _ nx h219 _ _ _ _ _ g224 (by omega) (by omega) hw hS (lv_sub hl [1, 0] rfl) ?_
    · rintro  eq9 H locs ls hw hS hl
      obtain rfl := eq9.symm
      obtain ⟨nx224l, ex224⟩ : ∃ z, z = nx + d224 := ⟨_, rfl⟩
      rw [← ex224] at hw
      try rw [← ex224] at hrun
      have hcR : (cells + d224) + dn224 ≤ dnZ := by omega
      have hsR : (slots + s224) + ds224 ≤ dsZ := by omega
      try dsimp only at hrun
      cases hrun
      refine W.widen (k := dnZ) (n := dsZ) (by omega) (by omega) ?_
      rw [show nx224l = nxZ + dnZ by omega] at hw
      exact W.vret hx hb hr (fun t ht hW9 => ⟨⟨(), rfl, trivial, by show hW D dA classes b0 _ _ t.heap; rw [ht]; exact hw⟩, hS.F ht⟩) hS.2.2 d_MacroExpandModel_init_244
  unfold f_MacroExpandModel_init at hrun
  refine lv_aload_n hx hb d_MacroExpandModel_init_0 rfl (lv_at hl 0 rfl) ?_
  refine W.objInit hx hb S.2.2.2.1 (S.2.2.2.2 _ (hT _ ml_MacroExpandModel_1)) (S.2.2.2.2 _ (hT _ k_objinst)) (S.2.2.2.2 _ (hT _ k_objcode)) rfl (by rw [hml]; exact hl.1) rfl d_MacroExpandModel_init_1 (Nat.le_of_ble_eq_true rfl) (Nat.le_of_ble_eq_true rfl) ?_
  refine W.eq (g2 := F0 m 4 ls []) rfl ?_
  refine lv_aload_n hx hb d_MacroExpandModel_init_4 rfl (lv_at hl 0 rfl) ?_
  refine lv_sipush (v := (4096 : Int32)) hx hb d_MacroExpandModel_init_5 (by decide) ?_
  have z8 : ¬ ((4096 : Int32) < 0 ∨ 134217728 < (4096 : Int32).toNatClampNeg) := fun q => by rw [if_pos q] at hrun; cases hrun
  rw [if_neg z8] at hrun
  replace hrun := hnew_some hrun
  obtain ⟨h8, dn8, ds8, eh8, hrun, en8, es8⟩ := hrun
  refine h_newi S (hT _ ac_int) hK (kd := 0) rfl hw hS (fun q => z8 (Or.inl q)) (h_bytes z8) (show 0 + 1 ≤ dnZ by omega) (show 0 + ((4096 : Int32).toNatClampNeg) ≤ dsZ by omega) d_MacroExpandModel_init_8 (fun H hw hS => ?_)
  rw [← eh8] at hw
  obtain ⟨nx8, ex8⟩ : ∃ z, z = nx + 1 := ⟨_, rfl⟩
  rw [← ex8] at hw
  try rw [← ex8] at hrun
  have hcR : (0 + 1) + dn8 ≤ dnZ := by omega
  have hsR : (0 + (4096 : Int32).toNatClampNeg) + ds8 ≤ dsZ := by omega
  replace hrun := hb_some hrun
  obtain ⟨h10, g10, hrun⟩ := hrun
  refine h_putF S (fun w q => hT w (i_MacroExpandModel w q)) t_MacroExpandModel t_MacroExpandModel_ok n_MacroExpandModel hK (ci := 1) rfl 1 (by decide) (hT _ fl_MacroExpandModel_7) rfl hin rfl rfl rfl hw hS g10 d_MacroExpandModel_init_10 (fun H locs hw hS => ?_)
  refine lv_aload_n hx hb d_MacroExpandModel_init_13 rfl (lv_at hl 0 rfl) ?_
  refine lv_sipush (v := (3000 : Int32)) hx hb d_MacroExpandModel_init_14 (by decide) ?_
  have z17 : ¬ ((3000 : Int32) < 0 ∨ 134217728 < (3000 : Int32).toNatClampNeg) := fun q => by rw [if_pos q] at hrun; cases hrun
  rw [if_neg z17] at hrun
  replace hrun := hnew_some hrun
  obtain ⟨h17, dn17, ds17, eh17, hrun, en17, es17⟩ := hrun
  refine h_newi S (hT _ ac_int) hK (kd := 0) rfl hw hS (fun q => z17 (Or.inl q)) (h_bytes z17) (show (0 + 1) + 1 ≤ dnZ by omega) (show (0 + (4096 : Int32).toNatClampNeg) + ((3000 : Int32).toNatClampNeg) ≤ dsZ by omega) d_MacroExpandModel_init_17 (fun H hw hS => ?_)
  rw [← eh17] at hw
  obtain ⟨nx17, ex17⟩ : ∃ z, z = nx8 + 1 := ⟨_, rfl⟩
  rw [← ex17] at hw
  try rw [← ex17] at hrun
  have hcR : ((0 + 1) + 1) + dn17 ≤ dnZ := by omega
  have hsR : ((0 + (4096 : Int32).toNatClampNeg) + (3000 : Int32).toNatClampNeg) + ds17 ≤ dsZ := by omega
  replace hrun := hb_some hrun
  obtain ⟨h19, g19, hrun⟩ := hrun
  refine h_putF S (fun w q => hT w (i_MacroExpandModel w q)) t_MacroExpandModel t_MacroExpandModel_ok n_MacroExpandModel hK (ci := 1) rfl 5 (by decide) (hT _ fl_MacroExpandModel_13) rfl hin rfl rfl rfl hw hS g19 d_MacroExpandModel_init_19 (fun H locs hw hS => ?_)
  refine lv_aload_n hx hb d_MacroExpandModel_init_22 rfl (lv_at hl 0 rfl) ?_
  refine lv_bipush (v := (100 : Int32)) hx hb d_MacroExpandModel_init_23 (by decide) ?_
  have z25 : ¬ ((100 : Int32) < 0 ∨ 134217728 < (100 : Int32).toNatClampNeg) := fun q => by rw [if_pos q] at hrun; cases hrun
  rw [if_neg z25] at hrun
  replace hrun := hnew_some hrun
  obtain ⟨h25, dn25, ds25, eh25, hrun, en25, es25⟩ := hrun
  refine h_newi S (hT _ ac_int) hK (kd := 0) rfl hw hS (fun q => z25 (Or.inl q)) (h_bytes z25) (show ((0 + 1) + 1) + 1 ≤ dnZ by omega) (show ((0 + (4096 : Int32).toNatClampNeg) + (3000 : Int32).toNatClampNeg) + ((100 : Int32).toNatClampNeg) ≤ dsZ by omega) d_MacroExpandModel_init_25 (fun H hw hS => ?_)
  rw [← eh25] at hw
  obtain ⟨nx25, ex25⟩ : ∃ z, z = nx17 + 1 := ⟨_, rfl⟩
  rw [← ex25] at hw
  try rw [← ex25] at hrun
  have hcR : (((0 + 1) + 1) + 1) + dn25 ≤ dnZ := by omega
  have hsR : (((0 + (4096 : Int32).toNatClampNeg) + (3000 : Int32).toNatClampNeg) + (100 : Int32).toNatClampNeg) + ds25 ≤ dsZ := by omega
  replace hrun := hb_some hrun
  obtain ⟨h27, g27, hrun⟩ := hrun
  refine h_putF S (fun w q => hT w (i_MacroExpandModel w q)) t_MacroExpandModel t_MacroExpandModel_ok n_MacroExpandModel hK (ci := 1) rfl 7 (by decide) (hT _ fl_MacroExpandModel_16) rfl hin rfl rfl rfl hw hS g27 d_MacroExpandModel_init_27 (fun H locs hw hS => ?_)
  refine lv_aload_n hx hb d_MacroExpandModel_init_30 rfl (lv_at hl 0 rfl) ?_
  refine lv_bipush (v := (100 : Int32)) hx hb d_MacroExpandModel_init_31 (by decide) ?_
  have z33 : ¬ ((100 : Int32) < 0 ∨ 134217728 < (100 : Int32).toNatClampNeg) := fun q => by rw [if_pos q] at hrun; cases hrun
  rw [if_neg z33] at hrun
  replace hrun := hnew_some hrun
  obtain ⟨h33, dn33, ds33, eh33, hrun, en33, es33⟩ := hrun
  refine h_newi S (hT _ ac_int) hK (kd := 0) rfl hw hS (fun q => z33 (Or.inl q)) (h_bytes z33) (show (((0 + 1) + 1) + 1) + 1 ≤ dnZ by omega) (show (((0 + (4096 : Int32).toNatClampNeg) + (3000 : Int32).toNatClampNeg) + (100 : Int32).toNatClampNeg) + ((100 : Int32).toNatClampNeg) ≤ dsZ by omega) d_MacroExpandModel_init_33 (fun H hw hS => ?_)
  rw [← eh33] at hw
  obtain ⟨nx33, ex33⟩ : ∃ z, z = nx25 + 1 := ⟨_, rfl⟩
  rw [← ex33] at hw
  try rw [← ex33] at hrun
  have hcR : ((((0 + 1) + 1) + 1) + 1) + dn33 ≤ dnZ := by omega
  have hsR : ((((0 + (4096 : Int32).toNatClampNeg) + (3000 : Int32).toNatClampNeg) + (100 : Int32).toNatClampNeg) + (100 : Int32).toNatClampNeg) + ds33 ≤ dsZ := by omega
  replace hrun := hb_some hrun
  obtain ⟨h35, g35, hrun⟩ := hrun
  refine h_putF S (fun w q => hT w (i_MacroExpandModel w q)) t_MacroExpandModel t_MacroExpandModel_ok n_MacroExpandModel hK (ci := 1) rfl 8 (by decide) (hT _ fl_MacroExpandModel_19) rfl hin rfl rfl rfl hw hS g35 d_MacroExpandModel_init_35 (fun H locs hw hS => ?_)
  refine lv_aload_n hx hb d_MacroExpandModel_init_38 rfl (lv_at hl 0 rfl) ?_
  refine lv_bipush (v := (100 : Int32)) hx hb d_MacroExpandModel_init_39 (by decide) ?_
  have z41 : ¬ ((100 : Int32) < 0 ∨ 134217728 < (100 : Int32).toNatClampNeg) := fun q => by rw [if_pos q] at hrun; cases hrun
  rw [if_neg z41] at hrun
  replace hrun := hnew_some hrun
  obtain ⟨h41, dn41, ds41, eh41, hrun, en41, es41⟩ := hrun
  refine h_newi S (hT _ ac_int) hK (kd := 0) rfl hw hS (fun q => z41 (Or.inl q)) (h_bytes z41) (show ((((0 + 1) + 1) + 1) + 1) + 1 ≤ dnZ by omega) (show ((((0 + (4096 : Int32).toNatClampNeg) + (3000 : Int32).toNatClampNeg) + (100 : Int32).toNatClampNeg) + (100 : Int32).toNatClampNeg) + ((100 : Int32).toNatClampNeg) ≤ dsZ by omega) d_MacroExpandModel_init_41 (fun H hw hS => ?_)
  rw [← eh41] at hw
  obtain ⟨nx41, ex41⟩ : ∃ z, z = nx33 + 1 := ⟨_, rfl⟩
  rw [← ex41] at hw
  try rw [← ex41] at hrun
  have hcR : (((((0 + 1) + 1) + 1) + 1) + 1) + dn41 ≤ dnZ := by omega
  have hsR : (((((0 + (4096 : Int32).toNatClampNeg) + (3000 : Int32).toNatClampNeg) + (100 : Int32).toNatClampNeg) + (100 : Int32).toNatClampNeg) + (100 : Int32).toNatClampNeg) + ds41 ≤ dsZ := by omega
  replace hrun := hb_some hrun
  obtain ⟨h43, g43, hrun⟩ := hrun
  refine h_putF S (fun w q => hT w (i_MacroExpandModel w q)) t_MacroExpandModel t_MacroExpandModel_ok n_MacroExpandModel hK (ci := 1) rfl 9 (by decide) (hT _ fl_MacroExpandModel_22) rfl hin rfl rfl rfl hw hS g43 d_MacroExpandModel_init_43 (fun H locs hw hS => ?_)
  refine lv_aload_n hx hb d_MacroExpandModel_init_46 rfl (lv_at hl 0 rfl) ?_
  refine lv_sipush (v := (20000 : Int32)) hx hb d_MacroExpandModel_init_47 (by decide) ?_
  have z50 : ¬ ((20000 : Int32) < 0 ∨ 134217728 < (20000 : Int32).toNatClampNeg) := fun q => by rw [if_pos q] at hrun; cases hrun
  rw [if_neg z50] at hrun
  replace hrun := hnew_some hrun
  obtain ⟨h50, dn50, ds50, eh50, hrun, en50, es50⟩ := hrun
  refine h_newi S (hT _ ac_int) hK (kd := 0) rfl hw hS (fun q => z50 (Or.inl q)) (h_bytes z50) (show (((((0 + 1) + 1) + 1) + 1) + 1) + 1 ≤ dnZ by omega) (show (((((0 + (4096 : Int32).toNatClampNeg) + (3000 : Int32).toNatClampNeg) + (100 : Int32).toNatClampNeg) + (100 : Int32).toNatClampNeg) + (100 : Int32).toNatClampNeg) + ((20000 : Int32).toNatClampNeg) ≤ dsZ by omega) d_MacroExpandModel_init_50 (fun H hw hS => ?_)
  rw [← eh50] at hw
  obtain ⟨nx50, ex50⟩ : ∃ z, z = nx41 + 1 := ⟨_, rfl⟩
  rw [← ex50] at hw
  try rw [← ex50] at hrun
  have hcR : ((((((0 + 1) + 1) + 1) + 1) + 1) + 1) + dn50 ≤ dnZ := by omega
  have hsR : ((((((0 + (4096 : Int32).toNatClampNeg) + (3000 : Int32).toNatClampNeg) + (100 : Int32).toNatClampNeg) + (100 : Int32).toNatClampNeg) + (100 : Int32).toNatClampNeg) + (20000 : Int32).toNatClampNeg) + ds50 ≤ dsZ := by omega
  replace hrun := hb_some hrun
  obtain ⟨h52, g52, hrun⟩ := hrun
  refine h_putF S (fun w q => hT w (i_MacroExpandModel w q)) t_MacroExpandModel t_MacroExpandModel_ok n_MacroExpandModel hK (ci := 1) rfl 10 (by decide) (hT _ fl_MacroExpandModel_25) rfl hin rfl rfl rfl hw hS g52 d_MacroExpandModel_init_52 (fun H locs hw hS => ?_)
  refine lv_aload_n hx hb d_MacroExpandModel_init_55 rfl (lv_at hl 0 rfl) ?_
  refine lv_sipush (v := (1000 : Int32)) hx hb d_MacroExpandModel_init_56 (by decide) ?_
  have z59 : ¬ ((1000 : Int32) < 0 ∨ 134217728 < (1000 : Int32).toNatClampNeg) := fun q => by rw [if_pos q] at hrun; cases hrun
  rw [if_neg z59] at hrun
  replace hrun := hnew_some hrun
  obtain ⟨h59, dn59, ds59, eh59, hrun, en59, es59⟩ := hrun
  refine h_newi S (hT _ ac_int) hK (kd := 0) rfl hw hS (fun q => z59 (Or.inl q)) (h_bytes z59) (show ((((((0 + 1) + 1) + 1) + 1) + 1) + 1) + 1 ≤ dnZ by omega) (show ((((((0 + (4096 : Int32).toNatClampNeg) + (3000 : Int32).toNatClampNeg) + (100 : Int32).toNatClampNeg) + (100 : Int32).toNatClampNeg) + (100 : Int32).toNatClampNeg) + (20000 : Int32).toNatClampNeg) + ((1000 : Int32).toNatClampNeg) ≤ dsZ by omega) d_MacroExpandModel_init_59 (fun H hw hS => ?_)
  rw [← eh59] at hw
  obtain ⟨nx59, ex59⟩ : ∃ z, z = nx50 + 1 := ⟨_, rfl⟩
  rw [← ex59] at hw
  try rw [← ex59] at hrun
  have hcR : (((((((0 + 1) + 1) + 1) + 1) + 1) + 1) + 1) + dn59 ≤ dnZ := by omega
  have hsR : (((((((0 + (4096 : Int32).toNatClampNeg) + (3000 : Int32).toNatClampNeg) + (100 : Int32).toNatClampNeg) + (100 : Int32).toNatClampNeg) + (100 : Int32).toNatClampNeg) + (20000 : Int32).toNatClampNeg) + (1000 : Int32).toNatClampNeg) + ds59 ≤ dsZ := by omega
  replace hrun := hb_some hrun
  obtain ⟨h61, g61, hrun⟩ := hrun
  refine h_putF S (fun w q => hT w (i_MacroExpandModel w q)) t_MacroExpandModel t_MacroExpandModel_ok n_MacroExpandModel hK (ci := 1) rfl 11 (by decide) (hT _ fl_MacroExpandModel_28) rfl hin rfl rfl rfl hw hS g61 d_MacroExpandModel_init_61 (fun H locs hw hS => ?_)
  refine lv_aload_n hx hb d_MacroExpandModel_init_64 rfl (lv_at hl 0 rfl) ?_
  refine lv_ldc hx hb S.2.2.2.1 (S.2.2.2.2 _ (hT _ ct_MacroExpandModel_31)) d_MacroExpandModel_init_65 ?_
  have z67 : ¬ ((200000 : Int32) < 0 ∨ 134217728 < (200000 : Int32).toNatClampNeg) := fun q => by rw [if_pos q] at hrun; cases hrun
  rw [if_neg z67] at hrun
  replace hrun := hnew_some hrun
  obtain ⟨h67, dn67, ds67, eh67, hrun, en67, es67⟩ := hrun
  refine h_newi S (hT _ ac_int) hK (kd := 0) rfl hw hS (fun q => z67 (Or.inl q)) (h_bytes z67) (show (((((((0 + 1) + 1) + 1) + 1) + 1) + 1) + 1) + 1 ≤ dnZ by omega) (show (((((((0 + (4096 : Int32).toNatClampNeg) + (3000 : Int32).toNatClampNeg) + (100 : Int32).toNatClampNeg) + (100 : Int32).toNatClampNeg) + (100 : Int32).toNatClampNeg) + (20000 : Int32).toNatClampNeg) + (1000 : Int32).toNatClampNeg) + ((200000 : Int32).toNatClampNeg) ≤ dsZ by omega) d_MacroExpandModel_init_67 (fun H hw hS => ?_)
  rw [← eh67] at hw
  obtain ⟨nx67, ex67⟩ : ∃ z, z = nx59 + 1 := ⟨_, rfl⟩
  rw [← ex67] at hw
  try rw [← ex67] at hrun
  have hcR : ((((((((0 + 1) + 1) + 1) + 1) + 1) + 1) + 1) + 1) + dn67 ≤ dnZ := by omega
  have hsR : ((((((((0 + (4096 : Int32).toNatClampNeg) + (3000 : Int32).toNatClampNeg) + (100 : Int32).toNatClampNeg) + (100 : Int32).toNatClampNeg) + (100 : Int32).toNatClampNeg) + (20000 : Int32).toNatClampNeg) + (1000 : Int32).toNatClampNeg) + (200000 : Int32).toNatClampNeg) + ds67 ≤ dsZ := by omega
  replace hrun := hb_some hrun
  obtain ⟨h69, g69, hrun⟩ := hrun
  refine h_putF S (fun w q => hT w (i_MacroExpandModel w q)) t_MacroExpandModel t_MacroExpandModel_ok n_MacroExpandModel hK (ci := 1) rfl 12 (by decide) (hT _ fl_MacroExpandModel_32) rfl hin rfl rfl rfl hw hS g69 d_MacroExpandModel_init_69 (fun H locs hw hS => ?_)
  refine lv_aload_n hx hb d_MacroExpandModel_init_72 rfl (lv_at hl 0 rfl) ?_
  refine lv_sipush (v := (200 : Int32)) hx hb d_MacroExpandModel_init_73 (by decide) ?_
  have z76 : ¬ ((200 : Int32) < 0 ∨ 134217728 < (200 : Int32).toNatClampNeg) := fun q => by rw [if_pos q] at hrun; cases hrun
  rw [if_neg z76] at hrun
  replace hrun := hnew_some hrun
  obtain ⟨h76, dn76, ds76, eh76, hrun, en76, es76⟩ := hrun
  refine h_newi S (hT _ ac_int) hK (kd := 0) rfl hw hS (fun q => z76 (Or.inl q)) (h_bytes z76) (show ((((((((0 + 1) + 1) + 1) + 1) + 1) + 1) + 1) + 1) + 1 ≤ dnZ by omega) (show ((((((((0 + (4096 : Int32).toNatClampNeg) + (3000 : Int32).toNatClampNeg) + (100 : Int32).toNatClampNeg) + (100 : Int32).toNatClampNeg) + (100 : Int32).toNatClampNeg) + (20000 : Int32).toNatClampNeg) + (1000 : Int32).toNatClampNeg) + (200000 : Int32).toNatClampNeg) + ((200 : Int32).toNatClampNeg) ≤ dsZ by omega) d_MacroExpandModel_init_76 (fun H hw hS => ?_)
  rw [← eh76] at hw
  obtain ⟨nx76, ex76⟩ : ∃ z, z = nx67 + 1 := ⟨_, rfl⟩
  rw [← ex76] at hw
  try rw [← ex76] at hrun
  have hcR : (((((((((0 + 1) + 1) + 1) + 1) + 1) + 1) + 1) + 1) + 1) + dn76 ≤ dnZ := by omega
  have hsR : (((((((((0 + (4096 : Int32).toNatClampNeg) + (3000 : Int32).toNatClampNeg) + (100 : Int32).toNatClampNeg) + (100 : Int32).toNatClampNeg) + (100 : Int32).toNatClampNeg) + (20000 : Int32).toNatClampNeg) + (1000 : Int32).toNatClampNeg) + (200000 : Int32).toNatClampNeg) + (200 : Int32).toNatClampNeg) + ds76 ≤ dsZ := by omega
  replace hrun := hb_some hrun
  obtain ⟨h78, g78, hrun⟩ := hrun
  refine h_putF S (fun w q => hT w (i_MacroExpandModel w q)) t_MacroExpandModel t_MacroExpandModel_ok n_MacroExpandModel hK (ci := 1) rfl 13 (by decide) (hT _ fl_MacroExpandModel_35) rfl hin rfl rfl rfl hw hS g78 d_MacroExpandModel_init_78 (fun H locs hw hS => ?_)
  refine lv_aload_n hx hb d_MacroExpandModel_init_81 rfl (lv_at hl 0 rfl) ?_
  refine lv_sipush (v := (4000 : Int32)) hx hb d_MacroExpandModel_init_82 (by decide) ?_
  have z85 : ¬ ((4000 : Int32) < 0 ∨ 134217728 < (4000 : Int32).toNatClampNeg) := fun q => by rw [if_pos q] at hrun; cases hrun
  rw [if_neg z85] at hrun
  replace hrun := hnew_some hrun
  obtain ⟨h85, dn85, ds85, eh85, hrun, en85, es85⟩ := hrun
  refine h_newi S (hT _ ac_int) hK (kd := 0) rfl hw hS (fun q => z85 (Or.inl q)) (h_bytes z85) (show (((((((((0 + 1) + 1) + 1) + 1) + 1) + 1) + 1) + 1) + 1) + 1 ≤ dnZ by omega) (show (((((((((0 + (4096 : Int32).toNatClampNeg) + (3000 : Int32).toNatClampNeg) + (100 : Int32).toNatClampNeg) + (100 : Int32).toNatClampNeg) + (100 : Int32).toNatClampNeg) + (20000 : Int32).toNatClampNeg) + (1000 : Int32).toNatClampNeg) + (200000 : Int32).toNatClampNeg) + (200 : Int32).toNatClampNeg) + ((4000 : Int32).toNatClampNeg) ≤ dsZ by omega) d_MacroExpandModel_init_85 (fun H hw hS => ?_)
  rw [← eh85] at hw
  obtain ⟨nx85, ex85⟩ : ∃ z, z = nx76 + 1 := ⟨_, rfl⟩
  rw [← ex85] at hw
  try rw [← ex85] at hrun
  have hcR : ((((((((((0 + 1) + 1) + 1) + 1) + 1) + 1) + 1) + 1) + 1) + 1) + dn85 ≤ dnZ := by omega
  have hsR : ((((((((((0 + (4096 : Int32).toNatClampNeg) + (3000 : Int32).toNatClampNeg) + (100 : Int32).toNatClampNeg) + (100 : Int32).toNatClampNeg) + (100 : Int32).toNatClampNeg) + (20000 : Int32).toNatClampNeg) + (1000 : Int32).toNatClampNeg) + (200000 : Int32).toNatClampNeg) + (200 : Int32).toNatClampNeg) + (4000 : Int32).toNatClampNeg) + ds85 ≤ dsZ := by omega
  replace hrun := hb_some hrun
  obtain ⟨h87, g87, hrun⟩ := hrun
  refine h_putF S (fun w q => hT w (i_MacroExpandModel w q)) t_MacroExpandModel t_MacroExpandModel_ok n_MacroExpandModel hK (ci := 1) rfl 15 (by decide) (hT _ fl_MacroExpandModel_38) rfl hin rfl rfl rfl hw hS g87 d_MacroExpandModel_init_87 (fun H locs hw hS => ?_)
  refine lv_aload_n hx hb d_MacroExpandModel_init_90 rfl (lv_at hl 0 rfl) ?_
  refine lv_bipush (v := (100 : Int32)) hx hb d_MacroExpandModel_init_91 (by decide) ?_
  have z93 : ¬ ((100 : Int32) < 0 ∨ 134217728 < (100 : Int32).toNatClampNeg) := fun q => by rw [if_pos q] at hrun; cases hrun
  rw [if_neg z93] at hrun
  replace hrun := hnew_some hrun
  obtain ⟨h93, dn93, ds93, eh93, hrun, en93, es93⟩ := hrun
  refine h_newi S (hT _ ac_int) hK (kd := 0) rfl hw hS (fun q => z93 (Or.inl q)) (h_bytes z93) (show ((((((((((0 + 1) + 1) + 1) + 1) + 1) + 1) + 1) + 1) + 1) + 1) + 1 ≤ dnZ by omega) (show ((((((((((0 + (4096 : Int32).toNatClampNeg) + (3000 : Int32).toNatClampNeg) + (100 : Int32).toNatClampNeg) + (100 : Int32).toNatClampNeg) + (100 : Int32).toNatClampNeg) + (20000 : Int32).toNatClampNeg) + (1000 : Int32).toNatClampNeg) + (200000 : Int32).toNatClampNeg) + (200 : Int32).toNatClampNeg) + (4000 : Int32).toNatClampNeg) + ((100 : Int32).toNatClampNeg) ≤ dsZ by omega) d_MacroExpandModel_init_93 (fun H hw hS => ?_)
  rw [← eh93] at hw
  obtain ⟨nx93, ex93⟩ : ∃ z, z = nx85 + 1 := ⟨_, rfl⟩
  rw [← ex93] at hw
  try rw [← ex93] at hrun
  have hcR : (((((((((((0 + 1) + 1) + 1) + 1) + 1) + 1) + 1) + 1) + 1) + 1) + 1) + dn93 ≤ dnZ := by omega
  have hsR : (((((((((((0 + (4096 : Int32).toNatClampNeg) + (3000 : Int32).toNatClampNeg) + (100 : Int32).toNatClampNeg) + (100 : Int32).toNatClampNeg) + (100 : Int32).toNatClampNeg) + (20000 : Int32).toNatClampNeg) + (1000 : Int32).toNatClampNeg) + (200000 : Int32).toNatClampNeg) + (200 : Int32).toNatClampNeg) + (4000 : Int32).toNatClampNeg) + (100 : Int32).toNatClampNeg) + ds93 ≤ dsZ := by omega
  replace hrun := hb_some hrun
  obtain ⟨h95, g95, hrun⟩ := hrun
  refine h_putF S (fun w q => hT w (i_MacroExpandModel w q)) t_MacroExpandModel t_MacroExpandModel_ok n_MacroExpandModel hK (ci := 1) rfl 17 (by decide) (hT _ fl_MacroExpandModel_41) rfl hin rfl rfl rfl hw hS g95 d_MacroExpandModel_init_95 (fun H locs hw hS => ?_)
  refine lv_aload_n hx hb d_MacroExpandModel_init_98 rfl (lv_at hl 0 rfl) ?_
  refine lv_sipush (v := (800 : Int32)) hx hb d_MacroExpandModel_init_99 (by decide) ?_
  have z102 : ¬ ((800 : Int32) < 0 ∨ 134217728 < (800 : Int32).toNatClampNeg) := fun q => by rw [if_pos q] at hrun; cases hrun
  rw [if_neg z102] at hrun
  replace hrun := hnew_some hrun
  obtain ⟨h102, dn102, ds102, eh102, hrun, en102, es102⟩ := hrun
  refine h_newi S (hT _ ac_int) hK (kd := 0) rfl hw hS (fun q => z102 (Or.inl q)) (h_bytes z102) (show (((((((((((0 + 1) + 1) + 1) + 1) + 1) + 1) + 1) + 1) + 1) + 1) + 1) + 1 ≤ dnZ by omega) (show (((((((((((0 + (4096 : Int32).toNatClampNeg) + (3000 : Int32).toNatClampNeg) + (100 : Int32).toNatClampNeg) + (100 : Int32).toNatClampNeg) + (100 : Int32).toNatClampNeg) + (20000 : Int32).toNatClampNeg) + (1000 : Int32).toNatClampNeg) + (200000 : Int32).toNatClampNeg) + (200 : Int32).toNatClampNeg) + (4000 : Int32).toNatClampNeg) + (100 : Int32).toNatClampNeg) + ((800 : Int32).toNatClampNeg) ≤ dsZ by omega) d_MacroExpandModel_init_102 (fun H hw hS => ?_)
  rw [← eh102] at hw
  obtain ⟨nx102, ex102⟩ : ∃ z, z = nx93 + 1 := ⟨_, rfl⟩
  rw [← ex102] at hw
  try rw [← ex102] at hrun
  have hcR : ((((((((((((0 + 1) + 1) + 1) + 1) + 1) + 1) + 1) + 1) + 1) + 1) + 1) + 1) + dn102 ≤ dnZ := by omega
  have hsR : ((((((((((((0 + (4096 : Int32).toNatClampNeg) + (3000 : Int32).toNatClampNeg) + (100 : Int32).toNatClampNeg) + (100 : Int32).toNatClampNeg) + (100 : Int32).toNatClampNeg) + (20000 : Int32).toNatClampNeg) + (1000 : Int32).toNatClampNeg) + (200000 : Int32).toNatClampNeg) + (200 : Int32).toNatClampNeg) + (4000 : Int32).toNatClampNeg) + (100 : Int32).toNatClampNeg) + (800 : Int32).toNatClampNeg) + ds102 ≤ dsZ := by omega
  replace hrun := hb_some hrun
  obtain ⟨h104, g104, hrun⟩ := hrun
  refine h_putF S (fun w q => hT w (i_MacroExpandModel w q)) t_MacroExpandModel t_MacroExpandModel_ok n_MacroExpandModel hK (ci := 1) rfl 18 (by decide) (hT _ fl_MacroExpandModel_44) rfl hin rfl rfl rfl hw hS g104 d_MacroExpandModel_init_104 (fun H locs hw hS => ?_)
  refine lv_aload_n hx hb d_MacroExpandModel_init_107 rfl (lv_at hl 0 rfl) ?_
  refine lv_bipush (v := (10 : Int32)) hx hb d_MacroExpandModel_init_108 (by decide) ?_
  have z110 : ¬ ((10 : Int32) < 0 ∨ 134217728 < (10 : Int32).toNatClampNeg) := fun q => by rw [if_pos q] at hrun; cases hrun
  rw [if_neg z110] at hrun
  replace hrun := hnew_some hrun
  obtain ⟨h110, dn110, ds110, eh110, hrun, en110, es110⟩ := hrun
  refine h_newi S (hT _ ac_int) hK (kd := 0) rfl hw hS (fun q => z110 (Or.inl q)) (h_bytes z110) (show ((((((((((((0 + 1) + 1) + 1) + 1) + 1) + 1) + 1) + 1) + 1) + 1) + 1) + 1) + 1 ≤ dnZ by omega) (show ((((((((((((0 + (4096 : Int32).toNatClampNeg) + (3000 : Int32).toNatClampNeg) + (100 : Int32).toNatClampNeg) + (100 : Int32).toNatClampNeg) + (100 : Int32).toNatClampNeg) + (20000 : Int32).toNatClampNeg) + (1000 : Int32).toNatClampNeg) + (200000 : Int32).toNatClampNeg) + (200 : Int32).toNatClampNeg) + (4000 : Int32).toNatClampNeg) + (100 : Int32).toNatClampNeg) + (800 : Int32).toNatClampNeg) + ((10 : Int32).toNatClampNeg) ≤ dsZ by omega) d_MacroExpandModel_init_110 (fun H hw hS => ?_)
  rw [← eh110] at hw
  obtain ⟨nx110, ex110⟩ : ∃ z, z = nx102 + 1 := ⟨_, rfl⟩
  rw [← ex110] at hw
  try rw [← ex110] at hrun
  have hcR : (((((((((((((0 + 1) + 1) + 1) + 1) + 1) + 1) + 1) + 1) + 1) + 1) + 1) + 1) + 1) + dn110 ≤ dnZ := by omega
  have hsR : (((((((((((((0 + (4096 : Int32).toNatClampNeg) + (3000 : Int32).toNatClampNeg) + (100 : Int32).toNatClampNeg) + (100 : Int32).toNatClampNeg) + (100 : Int32).toNatClampNeg) + (20000 : Int32).toNatClampNeg) + (1000 : Int32).toNatClampNeg) + (200000 : Int32).toNatClampNeg) + (200 : Int32).toNatClampNeg) + (4000 : Int32).toNatClampNeg) + (100 : Int32).toNatClampNeg) + (800 : Int32).toNatClampNeg) + (10 : Int32).toNatClampNeg) + ds110 ≤ dsZ := by omega
  replace hrun := hb_some hrun
  obtain ⟨h112, g112, hrun⟩ := hrun
  refine h_putF S (fun w q => hT w (i_MacroExpandModel w q)) t_MacroExpandModel t_MacroExpandModel_ok n_MacroExpandModel hK (ci := 1) rfl 19 (by decide) (hT _ fl_MacroExpandModel_47) rfl hin rfl rfl rfl hw hS g112 d_MacroExpandModel_init_112 (fun H locs hw hS => ?_)
  refine lv_aload_n hx hb d_MacroExpandModel_init_115 rfl (lv_at hl 0 rfl) ?_
  refine lv_sipush (v := (4000 : Int32)) hx hb d_MacroExpandModel_init_116 (by decide) ?_
  have z119 : ¬ ((4000 : Int32) < 0 ∨ 134217728 < (4000 : Int32).toNatClampNeg) := fun q => by rw [if_pos q] at hrun; cases hrun
  rw [if_neg z119] at hrun
  replace hrun := hnew_some hrun
  obtain ⟨h119, dn119, ds119, eh119, hrun, en119, es119⟩ := hrun
  refine h_newi S (hT _ ac_int) hK (kd := 0) rfl hw hS (fun q => z119 (Or.inl q)) (h_bytes z119) (show (((((((((((((0 + 1) + 1) + 1) + 1) + 1) + 1) + 1) + 1) + 1) + 1) + 1) + 1) + 1) + 1 ≤ dnZ by omega) (show (((((((((((((0 + (4096 : Int32).toNatClampNeg) + (3000 : Int32).toNatClampNeg) + (100 : Int32).toNatClampNeg) + (100 : Int32).toNatClampNeg) + (100 : Int32).toNatClampNeg) + (20000 : Int32).toNatClampNeg) + (1000 : Int32).toNatClampNeg) + (200000 : Int32).toNatClampNeg) + (200 : Int32).toNatClampNeg) + (4000 : Int32).toNatClampNeg) + (100 : Int32).toNatClampNeg) + (800 : Int32).toNatClampNeg) + (10 : Int32).toNatClampNeg) + ((4000 : Int32).toNatClampNeg) ≤ dsZ by omega) d_MacroExpandModel_init_119 (fun H hw hS => ?_)
  rw [← eh119] at hw
  obtain ⟨nx119, ex119⟩ : ∃ z, z = nx110 + 1 := ⟨_, rfl⟩
  rw [← ex119] at hw
  try rw [← ex119] at hrun
  have hcR : ((((((((((((((0 + 1) + 1) + 1) + 1) + 1) + 1) + 1) + 1) + 1) + 1) + 1) + 1) + 1) + 1) + dn119 ≤ dnZ := by omega
  have hsR : ((((((((((((((0 + (4096 : Int32).toNatClampNeg) + (3000 : Int32).toNatClampNeg) + (100 : Int32).toNatClampNeg) + (100 : Int32).toNatClampNeg) + (100 : Int32).toNatClampNeg) + (20000 : Int32).toNatClampNeg) + (1000 : Int32).toNatClampNeg) + (200000 : Int32).toNatClampNeg) + (200 : Int32).toNatClampNeg) + (4000 : Int32).toNatClampNeg) + (100 : Int32).toNatClampNeg) + (800 : Int32).toNatClampNeg) + (10 : Int32).toNatClampNeg) + (4000 : Int32).toNatClampNeg) + ds119 ≤ dsZ := by omega
  replace hrun := hb_some hrun
  obtain ⟨h121, g121, hrun⟩ := hrun
  refine h_putF S (fun w q => hT w (i_MacroExpandModel w q)) t_MacroExpandModel t_MacroExpandModel_ok n_MacroExpandModel hK (ci := 1) rfl 20 (by decide) (hT _ fl_MacroExpandModel_50) rfl hin rfl rfl rfl hw hS g121 d_MacroExpandModel_init_121 (fun H locs hw hS => ?_)
  refine lv_aload_n hx hb d_MacroExpandModel_init_124 rfl (lv_at hl 0 rfl) ?_
  refine lv_sipush (v := (300 : Int32)) hx hb d_MacroExpandModel_init_125 (by decide) ?_
  have z128 : ¬ ((300 : Int32) < 0 ∨ 134217728 < (300 : Int32).toNatClampNeg) := fun q => by rw [if_pos q] at hrun; cases hrun
  rw [if_neg z128] at hrun
  replace hrun := hnew_some hrun
  obtain ⟨h128, dn128, ds128, eh128, hrun, en128, es128⟩ := hrun
  refine h_newi S (hT _ ac_int) hK (kd := 0) rfl hw hS (fun q => z128 (Or.inl q)) (h_bytes z128) (show ((((((((((((((0 + 1) + 1) + 1) + 1) + 1) + 1) + 1) + 1) + 1) + 1) + 1) + 1) + 1) + 1) + 1 ≤ dnZ by omega) (show ((((((((((((((0 + (4096 : Int32).toNatClampNeg) + (3000 : Int32).toNatClampNeg) + (100 : Int32).toNatClampNeg) + (100 : Int32).toNatClampNeg) + (100 : Int32).toNatClampNeg) + (20000 : Int32).toNatClampNeg) + (1000 : Int32).toNatClampNeg) + (200000 : Int32).toNatClampNeg) + (200 : Int32).toNatClampNeg) + (4000 : Int32).toNatClampNeg) + (100 : Int32).toNatClampNeg) + (800 : Int32).toNatClampNeg) + (10 : Int32).toNatClampNeg) + (4000 : Int32).toNatClampNeg) + ((300 : Int32).toNatClampNeg) ≤ dsZ by omega) d_MacroExpandModel_init_128 (fun H hw hS => ?_)
  rw [← eh128] at hw
  obtain ⟨nx128, ex128⟩ : ∃ z, z = nx119 + 1 := ⟨_, rfl⟩
  rw [← ex128] at hw
  try rw [← ex128] at hrun
  have hcR : (((((((((((((((0 + 1) + 1) + 1) + 1) + 1) + 1) + 1) + 1) + 1) + 1) + 1) + 1) + 1) + 1) + 1) + dn128 ≤ dnZ := by omega
  have hsR : (((((((((((((((0 + (4096 : Int32).toNatClampNeg) + (3000 : Int32).toNatClampNeg) + (100 : Int32).toNatClampNeg) + (100 : Int32).toNatClampNeg) + (100 : Int32).toNatClampNeg) + (20000 : Int32).toNatClampNeg) + (1000 : Int32).toNatClampNeg) + (200000 : Int32).toNatClampNeg) + (200 : Int32).toNatClampNeg) + (4000 : Int32).toNatClampNeg) + (100 : Int32).toNatClampNeg) + (800 : Int32).toNatClampNeg) + (10 : Int32).toNatClampNeg) + (4000 : Int32).toNatClampNeg) + (300 : Int32).toNatClampNeg) + ds128 ≤ dsZ := by omega
  replace hrun := hb_some hrun
  obtain ⟨h130, g130, hrun⟩ := hrun
  refine h_putF S (fun w q => hT w (i_MacroExpandModel w q)) t_MacroExpandModel t_MacroExpandModel_ok n_MacroExpandModel hK (ci := 1) rfl 26 (by decide) (hT _ fl_MacroExpandModel_53) rfl hin rfl rfl rfl hw hS g130 d_MacroExpandModel_init_130 (fun H locs hw hS => ?_)
  refine lv_aload_n hx hb d_MacroExpandModel_init_133 rfl (lv_at hl 0 rfl) ?_
  refine lv_sipush (v := (512 : Int32)) hx hb d_MacroExpandModel_init_134 (by decide) ?_
  have z137 : ¬ ((512 : Int32) < 0 ∨ 134217728 < (512 : Int32).toNatClampNeg) := fun q => by rw [if_pos q] at hrun; cases hrun
  rw [if_neg z137] at hrun
  replace hrun := hnew_some hrun
  obtain ⟨h137, dn137, ds137, eh137, hrun, en137, es137⟩ := hrun
  refine h_newi S (hT _ ac_int) hK (kd := 0) rfl hw hS (fun q => z137 (Or.inl q)) (h_bytes z137) (show (((((((((((((((0 + 1) + 1) + 1) + 1) + 1) + 1) + 1) + 1) + 1) + 1) + 1) + 1) + 1) + 1) + 1) + 1 ≤ dnZ by omega) (show (((((((((((((((0 + (4096 : Int32).toNatClampNeg) + (3000 : Int32).toNatClampNeg) + (100 : Int32).toNatClampNeg) + (100 : Int32).toNatClampNeg) + (100 : Int32).toNatClampNeg) + (20000 : Int32).toNatClampNeg) + (1000 : Int32).toNatClampNeg) + (200000 : Int32).toNatClampNeg) + (200 : Int32).toNatClampNeg) + (4000 : Int32).toNatClampNeg) + (100 : Int32).toNatClampNeg) + (800 : Int32).toNatClampNeg) + (10 : Int32).toNatClampNeg) + (4000 : Int32).toNatClampNeg) + (300 : Int32).toNatClampNeg) + ((512 : Int32).toNatClampNeg) ≤ dsZ by omega) d_MacroExpandModel_init_137 (fun H hw hS => ?_)
  rw [← eh137] at hw
  obtain ⟨nx137, ex137⟩ : ∃ z, z = nx128 + 1 := ⟨_, rfl⟩
  rw [← ex137] at hw
  try rw [← ex137] at hrun
  have hcR : ((((((((((((((((0 + 1) + 1) + 1) + 1) + 1) + 1) + 1) + 1) + 1) + 1) + 1) + 1) + 1) + 1) + 1) + 1) + dn137 ≤ dnZ := by omega
  have hsR : ((((((((((((((((0 + (4096 : Int32).toNatClampNeg) + (3000 : Int32).toNatClampNeg) + (100 : Int32).toNatClampNeg) + (100 : Int32).toNatClampNeg) + (100 : Int32).toNatClampNeg) + (20000 : Int32).toNatClampNeg) + (1000 : Int32).toNatClampNeg) + (200000 : Int32).toNatClampNeg) + (200 : Int32).toNatClampNeg) + (4000 : Int32).toNatClampNeg) + (100 : Int32).toNatClampNeg) + (800 : Int32).toNatClampNeg) + (10 : Int32).toNatClampNeg) + (4000 : Int32).toNatClampNeg) + (300 : Int32).toNatClampNeg) + (512 : Int32).toNatClampNeg) + ds137 ≤ dsZ := by omega
  replace hrun := hb_some hrun
  obtain ⟨h139, g139, hrun⟩ := hrun
  refine h_putF S (fun w q => hT w (i_MacroExpandModel w q)) t_MacroExpandModel t_MacroExpandModel_ok n_MacroExpandModel hK (ci := 1) rfl 27 (by decide) (hT _ fl_MacroExpandModel_56) rfl hin rfl rfl rfl hw hS g139 d_MacroExpandModel_init_139 (fun H locs hw hS => ?_)
  refine lv_aload_n hx hb d_MacroExpandModel_init_142 rfl (lv_at hl 0 rfl) ?_
  refine lv_bipush (v := (51 : Int32)) hx hb d_MacroExpandModel_init_143 (by decide) ?_
  have z145 : ¬ ((51 : Int32) < 0 ∨ 134217728 < (51 : Int32).toNatClampNeg) := fun q => by rw [if_pos q] at hrun; cases hrun
  rw [if_neg z145] at hrun
  replace hrun := hnew_some hrun
  obtain ⟨h145, dn145, ds145, eh145, hrun, en145, es145⟩ := hrun
  refine h_newi S (hT _ ac_int) hK (kd := 0) rfl hw hS (fun q => z145 (Or.inl q)) (h_bytes z145) (show ((((((((((((((((0 + 1) + 1) + 1) + 1) + 1) + 1) + 1) + 1) + 1) + 1) + 1) + 1) + 1) + 1) + 1) + 1) + 1 ≤ dnZ by omega) (show ((((((((((((((((0 + (4096 : Int32).toNatClampNeg) + (3000 : Int32).toNatClampNeg) + (100 : Int32).toNatClampNeg) + (100 : Int32).toNatClampNeg) + (100 : Int32).toNatClampNeg) + (20000 : Int32).toNatClampNeg) + (1000 : Int32).toNatClampNeg) + (200000 : Int32).toNatClampNeg) + (200 : Int32).toNatClampNeg) + (4000 : Int32).toNatClampNeg) + (100 : Int32).toNatClampNeg) + (800 : Int32).toNatClampNeg) + (10 : Int32).toNatClampNeg) + (4000 : Int32).toNatClampNeg) + (300 : Int32).toNatClampNeg) + (512 : Int32).toNatClampNeg) + ((51 : Int32).toNatClampNeg) ≤ dsZ by omega) d_MacroExpandModel_init_145 (fun H hw hS => ?_)
  rw [← eh145] at hw
  obtain ⟨nx145, ex145⟩ : ∃ z, z = nx137 + 1 := ⟨_, rfl⟩
  rw [← ex145] at hw
  try rw [← ex145] at hrun
  have hcR : (((((((((((((((((0 + 1) + 1) + 1) + 1) + 1) + 1) + 1) + 1) + 1) + 1) + 1) + 1) + 1) + 1) + 1) + 1) + 1) + dn145 ≤ dnZ := by omega
  have hsR : (((((((((((((((((0 + (4096 : Int32).toNatClampNeg) + (3000 : Int32).toNatClampNeg) + (100 : Int32).toNatClampNeg) + (100 : Int32).toNatClampNeg) + (100 : Int32).toNatClampNeg) + (20000 : Int32).toNatClampNeg) + (1000 : Int32).toNatClampNeg) + (200000 : Int32).toNatClampNeg) + (200 : Int32).toNatClampNeg) + (4000 : Int32).toNatClampNeg) + (100 : Int32).toNatClampNeg) + (800 : Int32).toNatClampNeg) + (10 : Int32).toNatClampNeg) + (4000 : Int32).toNatClampNeg) + (300 : Int32).toNatClampNeg) + (512 : Int32).toNatClampNeg) + (51 : Int32).toNatClampNeg) + ds145 ≤ dsZ := by omega
  replace hrun := hb_some hrun
  obtain ⟨h147, g147, hrun⟩ := hrun
  refine h_putF S (fun w q => hT w (i_MacroExpandModel w q)) t_MacroExpandModel t_MacroExpandModel_ok n_MacroExpandModel hK (ci := 1) rfl 29 (by decide) (hT _ fl_MacroExpandModel_59) rfl hin rfl rfl rfl hw hS g147 d_MacroExpandModel_init_147 (fun H locs hw hS => ?_)
  refine lv_aload_n hx hb d_MacroExpandModel_init_150 rfl (lv_at hl 0 rfl) ?_
  refine lv_bipush (v := (51 : Int32)) hx hb d_MacroExpandModel_init_151 (by decide) ?_
  have z153 : ¬ ((51 : Int32) < 0 ∨ 134217728 < (51 : Int32).toNatClampNeg) := fun q => by rw [if_pos q] at hrun; cases hrun
  rw [if_neg z153] at hrun
  replace hrun := hnew_some hrun
  obtain ⟨h153, dn153, ds153, eh153, hrun, en153, es153⟩ := hrun
  refine h_newi S (hT _ ac_int) hK (kd := 0) rfl hw hS (fun q => z153 (Or.inl q)) (h_bytes z153) (show (((((((((((((((((0 + 1) + 1) + 1) + 1) + 1) + 1) + 1) + 1) + 1) + 1) + 1) + 1) + 1) + 1) + 1) + 1) + 1) + 1 ≤ dnZ by omega) (show (((((((((((((((((0 + (4096 : Int32).toNatClampNeg) + (3000 : Int32).toNatClampNeg) + (100 : Int32).toNatClampNeg) + (100 : Int32).toNatClampNeg) + (100 : Int32).toNatClampNeg) + (20000 : Int32).toNatClampNeg) + (1000 : Int32).toNatClampNeg) + (200000 : Int32).toNatClampNeg) + (200 : Int32).toNatClampNeg) + (4000 : Int32).toNatClampNeg) + (100 : Int32).toNatClampNeg) + (800 : Int32).toNatClampNeg) + (10 : Int32).toNatClampNeg) + (4000 : Int32).toNatClampNeg) + (300 : Int32).toNatClampNeg) + (512 : Int32).toNatClampNeg) + (51 : Int32).toNatClampNeg) + ((51 : Int32).toNatClampNeg) ≤ dsZ by omega) d_MacroExpandModel_init_153 (fun H hw hS => ?_)
  rw [← eh153] at hw
  obtain ⟨nx153, ex153⟩ : ∃ z, z = nx145 + 1 := ⟨_, rfl⟩
  rw [← ex153] at hw
  try rw [← ex153] at hrun
  have hcR : ((((((((((((((((((0 + 1) + 1) + 1) + 1) + 1) + 1) + 1) + 1) + 1) + 1) + 1) + 1) + 1) + 1) + 1) + 1) + 1) + 1) + dn153 ≤ dnZ := by omega
  have hsR : ((((((((((((((((((0 + (4096 : Int32).toNatClampNeg) + (3000 : Int32).toNatClampNeg) + (100 : Int32).toNatClampNeg) + (100 : Int32).toNatClampNeg) + (100 : Int32).toNatClampNeg) + (20000 : Int32).toNatClampNeg) + (1000 : Int32).toNatClampNeg) + (200000 : Int32).toNatClampNeg) + (200 : Int32).toNatClampNeg) + (4000 : Int32).toNatClampNeg) + (100 : Int32).toNatClampNeg) + (800 : Int32).toNatClampNeg) + (10 : Int32).toNatClampNeg) + (4000 : Int32).toNatClampNeg) + (300 : Int32).toNatClampNeg) + (512 : Int32).toNatClampNeg) + (51 : Int32).toNatClampNeg) + (51 : Int32).toNatClampNeg) + ds153 ≤ dsZ := by omega
  replace hrun := hb_some hrun
  obtain ⟨h155, g155, hrun⟩ := hrun
  refine h_putF S (fun w q => hT w (i_MacroExpandModel w q)) t_MacroExpandModel t_MacroExpandModel_ok n_MacroExpandModel hK (ci := 1) rfl 30 (by decide) (hT _ fl_MacroExpandModel_62) rfl hin rfl rfl rfl hw hS g155 d_MacroExpandModel_init_155 (fun H locs hw hS => ?_)
  refine lv_aload_n hx hb d_MacroExpandModel_init_158 rfl (lv_at hl 0 rfl) ?_
  refine lv_bipush (v := (51 : Int32)) hx hb d_MacroExpandModel_init_159 (by decide) ?_
  have z161 : ¬ ((51 : Int32) < 0 ∨ 134217728 < (51 : Int32).toNatClampNeg) := fun q => by rw [if_pos q] at hrun; cases hrun
  rw [if_neg z161] at hrun
  replace hrun := hnew_some hrun
  obtain ⟨h161, dn161, ds161, eh161, hrun, en161, es161⟩ := hrun
  refine h_newi S (hT _ ac_int) hK (kd := 0) rfl hw hS (fun q => z161 (Or.inl q)) (h_bytes z161) (show ((((((((((((((((((0 + 1) + 1) + 1) + 1) + 1) + 1) + 1) + 1) + 1) + 1) + 1) + 1) + 1) + 1) + 1) + 1) + 1) + 1) + 1 ≤ dnZ by omega) (show ((((((((((((((((((0 + (4096 : Int32).toNatClampNeg) + (3000 : Int32).toNatClampNeg) + (100 : Int32).toNatClampNeg) + (100 : Int32).toNatClampNeg) + (100 : Int32).toNatClampNeg) + (20000 : Int32).toNatClampNeg) + (1000 : Int32).toNatClampNeg) + (200000 : Int32).toNatClampNeg) + (200 : Int32).toNatClampNeg) + (4000 : Int32).toNatClampNeg) + (100 : Int32).toNatClampNeg) + (800 : Int32).toNatClampNeg) + (10 : Int32).toNatClampNeg) + (4000 : Int32).toNatClampNeg) + (300 : Int32).toNatClampNeg) + (512 : Int32).toNatClampNeg) + (51 : Int32).toNatClampNeg) + (51 : Int32).toNatClampNeg) + ((51 : Int32).toNatClampNeg) ≤ dsZ by omega) d_MacroExpandModel_init_161 (fun H hw hS => ?_)
  rw [← eh161] at hw
  obtain ⟨nx161, ex161⟩ : ∃ z, z = nx153 + 1 := ⟨_, rfl⟩
  rw [← ex161] at hw
  try rw [← ex161] at hrun
  have hcR : (((((((((((((((((((0 + 1) + 1) + 1) + 1) + 1) + 1) + 1) + 1) + 1) + 1) + 1) + 1) + 1) + 1) + 1) + 1) + 1) + 1) + 1) + dn161 ≤ dnZ := by omega
  have hsR : (((((((((((((((((((0 + (4096 : Int32).toNatClampNeg) + (3000 : Int32).toNatClampNeg) + (100 : Int32).toNatClampNeg) + (100 : Int32).toNatClampNeg) + (100 : Int32).toNatClampNeg) + (20000 : Int32).toNatClampNeg) + (1000 : Int32).toNatClampNeg) + (200000 : Int32).toNatClampNeg) + (200 : Int32).toNatClampNeg) + (4000 : Int32).toNatClampNeg) + (100 : Int32).toNatClampNeg) + (800 : Int32).toNatClampNeg) + (10 : Int32).toNatClampNeg) + (4000 : Int32).toNatClampNeg) + (300 : Int32).toNatClampNeg) + (512 : Int32).toNatClampNeg) + (51 : Int32).toNatClampNeg) + (51 : Int32).toNatClampNeg) + (51 : Int32).toNatClampNeg) + ds161 ≤ dsZ := by omega
  replace hrun := hb_some hrun
  obtain ⟨h163, g163, hrun⟩ := hrun
  refine h_putF S (fun w q => hT w (i_MacroExpandModel w q)) t_MacroExpandModel t_MacroExpandModel_ok n_MacroExpandModel hK (ci := 1) rfl 31 (by decide) (hT _ fl_MacroExpandModel_65) rfl hin rfl rfl rfl hw hS g163 d_MacroExpandModel_init_163 (fun H locs hw hS => ?_)
  refine lv_aload_n hx hb d_MacroExpandModel_init_166 rfl (lv_at hl 0 rfl) ?_
  refine lv_sipush (v := (2000 : Int32)) hx hb d_MacroExpandModel_init_167 (by decide) ?_
  have z170 : ¬ ((2000 : Int32) < 0 ∨ 134217728 < (2000 : Int32).toNatClampNeg) := fun q => by rw [if_pos q] at hrun; cases hrun
  rw [if_neg z170] at hrun
  replace hrun := hnew_some hrun
  obtain ⟨h170, dn170, ds170, eh170, hrun, en170, es170⟩ := hrun
  refine h_newi S (hT _ ac_int) hK (kd := 0) rfl hw hS (fun q => z170 (Or.inl q)) (h_bytes z170) (show (((((((((((((((((((0 + 1) + 1) + 1) + 1) + 1) + 1) + 1) + 1) + 1) + 1) + 1) + 1) + 1) + 1) + 1) + 1) + 1) + 1) + 1) + 1 ≤ dnZ by omega) (show (((((((((((((((((((0 + (4096 : Int32).toNatClampNeg) + (3000 : Int32).toNatClampNeg) + (100 : Int32).toNatClampNeg) + (100 : Int32).toNatClampNeg) + (100 : Int32).toNatClampNeg) + (20000 : Int32).toNatClampNeg) + (1000 : Int32).toNatClampNeg) + (200000 : Int32).toNatClampNeg) + (200 : Int32).toNatClampNeg) + (4000 : Int32).toNatClampNeg) + (100 : Int32).toNatClampNeg) + (800 : Int32).toNatClampNeg) + (10 : Int32).toNatClampNeg) + (4000 : Int32).toNatClampNeg) + (300 : Int32).toNatClampNeg) + (512 : Int32).toNatClampNeg) + (51 : Int32).toNatClampNeg) + (51 : Int32).toNatClampNeg) + (51 : Int32).toNatClampNeg) + ((2000 : Int32).toNatClampNeg) ≤ dsZ by omega) d_MacroExpandModel_init_170 (fun H hw hS => ?_)
  rw [← eh170] at hw
  obtain ⟨nx170, ex170⟩ : ∃ z, z = nx161 + 1 := ⟨_, rfl⟩
  rw [← ex170] at hw
  try rw [← ex170] at hrun
  have hcR : ((((((((((((((((((((0 + 1) + 1) + 1) + 1) + 1) + 1) + 1) + 1) + 1) + 1) + 1) + 1) + 1) + 1) + 1) + 1) + 1) + 1) + 1) + 1) + dn170 ≤ dnZ := by omega
  have hsR : ((((((((((((((((((((0 + (4096 : Int32).toNatClampNeg) + (3000 : Int32).toNatClampNeg) + (100 : Int32).toNatClampNeg) + (100 : Int32).toNatClampNeg) + (100 : Int32).toNatClampNeg) + (20000 : Int32).toNatClampNeg) + (1000 : Int32).toNatClampNeg) + (200000 : Int32).toNatClampNeg) + (200 : Int32).toNatClampNeg) + (4000 : Int32).toNatClampNeg) + (100 : Int32).toNatClampNeg) + (800 : Int32).toNatClampNeg) + (10 : Int32).toNatClampNeg) + (4000 : Int32).toNatClampNeg) + (300 : Int32).toNatClampNeg) + (512 : Int32).toNatClampNeg) + (51 : Int32).toNatClampNeg) + (51 : Int32).toNatClampNeg) + (51 : Int32).toNatClampNeg) + (2000 : Int32).toNatClampNeg) + ds170 ≤ dsZ := by omega
  replace hrun := hb_some hrun
  obtain ⟨h172, g172, hrun⟩ := hrun
  refine h_putF S (fun w q => hT w (i_MacroExpandModel w q)) t_MacroExpandModel t_MacroExpandModel_ok n_MacroExpandModel hK (ci := 1) rfl 34 (by decide) (hT _ fl_MacroExpandModel_68) rfl hin rfl rfl rfl hw hS g172 d_MacroExpandModel_init_172 (fun H locs hw hS => ?_)
  refine lv_aload_n hx hb d_MacroExpandModel_init_175 rfl (lv_at hl 0 rfl) ?_
  refine lv_bipush (v := (10 : Int32)) hx hb d_MacroExpandModel_init_176 (by decide) ?_
  have z178 : ¬ ((10 : Int32) < 0 ∨ 134217728 < (10 : Int32).toNatClampNeg) := fun q => by rw [if_pos q] at hrun; cases hrun
  rw [if_neg z178] at hrun
  replace hrun := hnew_some hrun
  obtain ⟨h178, dn178, ds178, eh178, hrun, en178, es178⟩ := hrun
  refine h_newi S (hT _ ac_int) hK (kd := 0) rfl hw hS (fun q => z178 (Or.inl q)) (h_bytes z178) (show ((((((((((((((((((((0 + 1) + 1) + 1) + 1) + 1) + 1) + 1) + 1) + 1) + 1) + 1) + 1) + 1) + 1) + 1) + 1) + 1) + 1) + 1) + 1) + 1 ≤ dnZ by omega) (show ((((((((((((((((((((0 + (4096 : Int32).toNatClampNeg) + (3000 : Int32).toNatClampNeg) + (100 : Int32).toNatClampNeg) + (100 : Int32).toNatClampNeg) + (100 : Int32).toNatClampNeg) + (20000 : Int32).toNatClampNeg) + (1000 : Int32).toNatClampNeg) + (200000 : Int32).toNatClampNeg) + (200 : Int32).toNatClampNeg) + (4000 : Int32).toNatClampNeg) + (100 : Int32).toNatClampNeg) + (800 : Int32).toNatClampNeg) + (10 : Int32).toNatClampNeg) + (4000 : Int32).toNatClampNeg) + (300 : Int32).toNatClampNeg) + (512 : Int32).toNatClampNeg) + (51 : Int32).toNatClampNeg) + (51 : Int32).toNatClampNeg) + (51 : Int32).toNatClampNeg) + (2000 : Int32).toNatClampNeg) + ((10 : Int32).toNatClampNeg) ≤ dsZ by omega) d_MacroExpandModel_init_178 (fun H hw hS => ?_)
  rw [← eh178] at hw
  obtain ⟨nx178, ex178⟩ : ∃ z, z = nx170 + 1 := ⟨_, rfl⟩
  rw [← ex178] at hw
  try rw [← ex178] at hrun
  have hcR : (((((((((((((((((((((0 + 1) + 1) + 1) + 1) + 1) + 1) + 1) + 1) + 1) + 1) + 1) + 1) + 1) + 1) + 1) + 1) + 1) + 1) + 1) + 1) + 1) + dn178 ≤ dnZ := by omega
  have hsR : (((((((((((((((((((((0 + (4096 : Int32).toNatClampNeg) + (3000 : Int32).toNatClampNeg) + (100 : Int32).toNatClampNeg) + (100 : Int32).toNatClampNeg) + (100 : Int32).toNatClampNeg) + (20000 : Int32).toNatClampNeg) + (1000 : Int32).toNatClampNeg) + (200000 : Int32).toNatClampNeg) + (200 : Int32).toNatClampNeg) + (4000 : Int32).toNatClampNeg) + (100 : Int32).toNatClampNeg) + (800 : Int32).toNatClampNeg) + (10 : Int32).toNatClampNeg) + (4000 : Int32).toNatClampNeg) + (300 : Int32).toNatClampNeg) + (512 : Int32).toNatClampNeg) + (51 : Int32).toNatClampNeg) + (51 : Int32).toNatClampNeg) + (51 : Int32).toNatClampNeg) + (2000 : Int32).toNatClampNeg) + (10 : Int32).toNatClampNeg) + ds178 ≤ dsZ := by omega
  replace hrun := hb_some hrun
  obtain ⟨h180, g180, hrun⟩ := hrun
  refine h_putF S (fun w q => hT w (i_MacroExpandModel w q)) t_MacroExpandModel t_MacroExpandModel_ok n_MacroExpandModel hK (ci := 1) rfl 35 (by decide) (hT _ fl_MacroExpandModel_71) rfl hin rfl rfl rfl hw hS g180 d_MacroExpandModel_init_180 (fun H locs hw hS => ?_)
  refine lv_aload_n hx hb d_MacroExpandModel_init_183 rfl (lv_at hl 0 rfl) ?_
  refine lv_sipush (v := (200 : Int32)) hx hb d_MacroExpandModel_init_184 (by decide) ?_
  have z187 : ¬ ((200 : Int32) < 0 ∨ 134217728 < (200 : Int32).toNatClampNeg) := fun q => by rw [if_pos q] at hrun; cases hrun
  rw [if_neg z187] at hrun
  replace hrun := hnew_some hrun
  obtain ⟨h187, dn187, ds187, eh187, hrun, en187, es187⟩ := hrun
  refine h_newi S (hT _ ac_int) hK (kd := 0) rfl hw hS (fun q => z187 (Or.inl q)) (h_bytes z187) (show (((((((((((((((((((((0 + 1) + 1) + 1) + 1) + 1) + 1) + 1) + 1) + 1) + 1) + 1) + 1) + 1) + 1) + 1) + 1) + 1) + 1) + 1) + 1) + 1) + 1 ≤ dnZ by omega) (show (((((((((((((((((((((0 + (4096 : Int32).toNatClampNeg) + (3000 : Int32).toNatClampNeg) + (100 : Int32).toNatClampNeg) + (100 : Int32).toNatClampNeg) + (100 : Int32).toNatClampNeg) + (20000 : Int32).toNatClampNeg) + (1000 : Int32).toNatClampNeg) + (200000 : Int32).toNatClampNeg) + (200 : Int32).toNatClampNeg) + (4000 : Int32).toNatClampNeg) + (100 : Int32).toNatClampNeg) + (800 : Int32).toNatClampNeg) + (10 : Int32).toNatClampNeg) + (4000 : Int32).toNatClampNeg) + (300 : Int32).toNatClampNeg) + (512 : Int32).toNatClampNeg) + (51 : Int32).toNatClampNeg) + (51 : Int32).toNatClampNeg) + (51 : Int32).toNatClampNeg) + (2000 : Int32).toNatClampNeg) + (10 : Int32).toNatClampNeg) + ((200 : Int32).toNatClampNeg) ≤ dsZ by omega) d_MacroExpandModel_init_187 (fun H hw hS => ?_)
  rw [← eh187] at hw
  obtain ⟨nx187, ex187⟩ : ∃ z, z = nx178 + 1 := ⟨_, rfl⟩
  rw [← ex187] at hw
  try rw [← ex187] at hrun
  have hcR : ((((((((((((((((((((((0 + 1) + 1) + 1) + 1) + 1) + 1) + 1) + 1) + 1) + 1) + 1) + 1) + 1) + 1) + 1) + 1) + 1) + 1) + 1) + 1) + 1) + 1) + dn187 ≤ dnZ := by omega
  have hsR : ((((((((((((((((((((((0 + (4096 : Int32).toNatClampNeg) + (3000 : Int32).toNatClampNeg) + (100 : Int32).toNatClampNeg) + (100 : Int32).toNatClampNeg) + (100 : Int32).toNatClampNeg) + (20000 : Int32).toNatClampNeg) + (1000 : Int32).toNatClampNeg) + (200000 : Int32).toNatClampNeg) + (200 : Int32).toNatClampNeg) + (4000 : Int32).toNatClampNeg) + (100 : Int32).toNatClampNeg) + (800 : Int32).toNatClampNeg) + (10 : Int32).toNatClampNeg) + (4000 : Int32).toNatClampNeg) + (300 : Int32).toNatClampNeg) + (512 : Int32).toNatClampNeg) + (51 : Int32).toNatClampNeg) + (51 : Int32).toNatClampNeg) + (51 : Int32).toNatClampNeg) + (2000 : Int32).toNatClampNeg) + (10 : Int32).toNatClampNeg) + (200 : Int32).toNatClampNeg) + ds187 ≤ dsZ := by omega
  replace hrun := hb_some hrun
  obtain ⟨h189, g189, hrun⟩ := hrun
  refine h_putF S (fun w q => hT w (i_MacroExpandModel w q)) t_MacroExpandModel t_MacroExpandModel_ok n_MacroExpandModel hK (ci := 1) rfl 36 (by decide) (hT _ fl_MacroExpandModel_74) rfl hin rfl rfl rfl hw hS g189 d_MacroExpandModel_init_189 (fun H locs hw hS => ?_)
  refine lv_aload_n hx hb d_MacroExpandModel_init_192 rfl (lv_at hl 0 rfl) ?_
  refine lv_lload_n hx hb d_MacroExpandModel_init_193 rfl (lv_at hl 1 rfl) ?_
  refine lv_lconst (v := (1 : Int64)) hx hb d_MacroExpandModel_init_194 (by decide) ?_
  refine W.lcmp hx hb d_MacroExpandModel_init_195 ?_
  refine lv_if_ge (tgt := 203) hx hb d_MacroExpandModel_init_196 (by decide) (fun c196 => ?_) (fun c196 => ?_)
  · rw [if_pos c196] at hrun
    refine lv_lload_n hx hb d_MacroExpandModel_init_203 rfl (lv_at hl 1 rfl) ?_
    refine lv_ldc2 hx hb S.2.2.2.1 (S.2.2.2.2 _ (hT _ ct_MacroExpandModel_77)) d_MacroExpandModel_init_204 ?_
    refine W.lcmp hx hb d_MacroExpandModel_init_207 ?_
    refine lv_if_le (tgt := 217) hx hb d_MacroExpandModel_init_208 (by decide) (fun c208 => ?_) (fun c208 => ?_)
    · rw [if_pos c208] at hrun
      refine lv_lload_n hx hb d_MacroExpandModel_init_217 rfl (lv_at hl 1 rfl) ?_
      refine lv_l2i hx hb d_MacroExpandModel_init_218 rfl ?_
      exact j_219 (some a0) i1.toInt32 ((((((((((((((((((((((0 + 1) + 1) + 1) + 1) + 1) + 1) + 1) + 1) + 1) + 1) + 1) + 1) + 1) + 1) + 1) + 1) + 1) + 1) + 1) + 1) + 1) + 1) ((((((((((((((((((((((0 + (4096 : Int32).toNatClampNeg) + (3000 : Int32).toNatClampNeg) + (100 : Int32).toNatClampNeg) + (100 : Int32).toNatClampNeg) + (100 : Int32).toNatClampNeg) + (20000 : Int32).toNatClampNeg) + (1000 : Int32).toNatClampNeg) + (200000 : Int32).toNatClampNeg) + (200 : Int32).toNatClampNeg) + (4000 : Int32).toNatClampNeg) + (100 : Int32).toNatClampNeg) + (800 : Int32).toNatClampNeg) + (10 : Int32).toNatClampNeg) + (4000 : Int32).toNatClampNeg) + (300 : Int32).toNatClampNeg) + (512 : Int32).toNatClampNeg) + (51 : Int32).toNatClampNeg) + (51 : Int32).toNatClampNeg) + (51 : Int32).toNatClampNeg) + (2000 : Int32).toNatClampNeg) + (10 : Int32).toNatClampNeg) + (200 : Int32).toNatClampNeg) _ _ nx187 h189 _ _ _ hrun hcR hsR (by omega) hw hS (lv_sub hl [0] rfl)
    · rw [if_neg c208] at hrun
      refine lv_sipush (v := (20000 : Int32)) hx hb d_MacroExpandModel_init_211 (by decide) ?_
      refine lv_goto (tgt := 219) hx hb d_MacroExpandModel_init_214 (by decide) ?_
      exact j_219 (some a0) (20000 : Int32) ((((((((((((((((((((((0 + 1) + 1) + 1) + 1) + 1) + 1) + 1) + 1) + 1) + 1) + 1) + 1) + 1) + 1) + 1) + 1) + 1) + 1) + 1) + 1) + 1) + 1) ((((((((((((((((((((((0 + (4096 : Int32).toNatClampNeg) + (3000 : Int32).toNatClampNeg) + (100 : Int32).toNatClampNeg) + (100 : Int32).toNatClampNeg) + (100 : Int32).toNatClampNeg) + (20000 : Int32).toNatClampNeg) + (1000 : Int32).toNatClampNeg) + (200000 : Int32).toNatClampNeg) + (200 : Int32).toNatClampNeg) + (4000 : Int32).toNatClampNeg) + (100 : Int32).toNatClampNeg) + (800 : Int32).toNatClampNeg) + (10 : Int32).toNatClampNeg) + (4000 : Int32).toNatClampNeg) + (300 : Int32).toNatClampNeg) + (512 : Int32).toNatClampNeg) + (51 : Int32).toNatClampNeg) + (51 : Int32).toNatClampNeg) + (51 : Int32).toNatClampNeg) + (2000 : Int32).toNatClampNeg) + (10 : Int32).toNatClampNeg) + (200 : Int32).toNatClampNeg) _ _ nx187 h189 _ _ _ hrun hcR hsR (by omega) hw hS (lv_sub hl [0] rfl)
  · rw [if_neg c196] at hrun
    refine lv_iconst (v := (1 : Int32)) hx hb d_MacroExpandModel_init_199 (by decide) ?_
    refine lv_goto (tgt := 219) hx hb d_MacroExpandModel_init_200 (by decide) ?_
    exact j_219 (some a0) (1 : Int32) ((((((((((((((((((((((0 + 1) + 1) + 1) + 1) + 1) + 1) + 1) + 1) + 1) + 1) + 1) + 1) + 1) + 1) + 1) + 1) + 1) + 1) + 1) + 1) + 1) + 1) ((((((((((((((((((((((0 + (4096 : Int32).toNatClampNeg) + (3000 : Int32).toNatClampNeg) + (100 : Int32).toNatClampNeg) + (100 : Int32).toNatClampNeg) + (100 : Int32).toNatClampNeg) + (20000 : Int32).toNatClampNeg) + (1000 : Int32).toNatClampNeg) + (200000 : Int32).toNatClampNeg) + (200 : Int32).toNatClampNeg) + (4000 : Int32).toNatClampNeg) + (100 : Int32).toNatClampNeg) + (800 : Int32).toNatClampNeg) + (10 : Int32).toNatClampNeg) + (4000 : Int32).toNatClampNeg) + (300 : Int32).toNatClampNeg) + (512 : Int32).toNatClampNeg) + (51 : Int32).toNatClampNeg) + (51 : Int32).toNatClampNeg) + (51 : Int32).toNatClampNeg) + (2000 : Int32).toNatClampNeg) + (10 : Int32).toNatClampNeg) + (200 : Int32).toNatClampNeg) _ _ nx187 h189 _ _ _ hrun hcR hsR (by omega) hw hS (lv_sub hl [0] rfl)
set_option maxHeartbeats 4000000 in
set_option maxRecDepth 100000 in
theorem c_MacroExpandModel_in (l : Launch) (D : va_G) (dA : Nat → ClassId) (b0 : Nat) (i0 : Int32) (i1 : Int32) (i2 : Int32) (nx : Nat) {h : hH} {r : Int32} (hrun : f_MacroExpandModel_in i0 i1 i2 h = some r) : Met l y_MacroExpandModel_in w_MacroExpandModel_in ({ frames := 0, cells := 0, slots := 0, locals := 0 } : Room) (va_Pc [.int i0, .int i1, .int i2] (hB D dA b0 nx h)) (va_Qi (fun r' (_ : Unit) => r' = r) (fun (_ : Unit) t => hW D dA classes b0 nx h t.heap) (hA b0)) 0 0 (hA b0) := by
  refine Met.ofW (cc := b_MacroExpandModel_in) (maxL := 3) (ret := (some .boolean)) (by decide) rfl ?_
  intro p e s m args below meth c s₁ B hml hv
  obtain ⟨rfl, hw, hK, hN⟩ := hv
  have hx := B.exec
  have hb := B.bytes
  have hr := B.returns
  have hlocks := B.notSynchronized
  have S : CallFix p m c b_MacroExpandModel_in 3 s ([.int i0, .int i1, .int i2] : List Value).toArray w_MacroExpandModel_in R_MacroExpandModel := ⟨hx, hb, hml, findClass_of_methodNamed B.named, atoms_spec (ws := w_MacroExpandModel_in) B.pre⟩
  have hT : ∀ w ∈ tbl, w ∈ w_MacroExpandModel_in := fun _ q => List.mem_cons_of_mem _ q
  have hS : va_S (hA b0) s.heap s.heap [] := va_S.rf
  have hl := lv_entry ([.int i0, .int i1, .int i2]) (n := 3) (Nat.le_of_ble_eq_true rfl)
  rw [lg_entry_eq]
  generalize (lg_sl ([.int i0, .int i1, .int i2]) ++ List.replicate (3 - (lg_sl ([.int i0, .int i1, .int i2])).length) Slot.unset).toArray = ls at hl ⊢
  have hl : lv_has ls 3 [(0, .int i0), (1, .int i1), (2, .int i2)] := hl
  unfold f_MacroExpandModel_in at hrun
  refine lv_iload_n hx hb d_MacroExpandModel_in_0 rfl (lv_at hl 0 rfl) ?_
  refine lv_iload_n hx hb d_MacroExpandModel_in_1 rfl (lv_at hl 1 rfl) ?_
  refine lv_icmp_lt (tgt := 14) hx hb d_MacroExpandModel_in_2 (by decide) (fun c2 => ?_) (fun c2 => ?_)
  · rw [if_pos c2] at hrun
    refine lv_iconst (v := (0 : Int32)) hx hb d_MacroExpandModel_in_14 (by decide) ?_
    cases hrun
    exact W.zret hx hb hr (by decide) (fun t ht hW9 => ⟨⟨_, (), rfl, rfl, by show hW D dA classes b0 _ _ t.heap; rw [ht]; exact hw⟩, hS.F ht⟩) hS.2.2 d_MacroExpandModel_in_15
  · rw [if_neg c2] at hrun
    refine lv_iload_n hx hb d_MacroExpandModel_in_5 rfl (lv_at hl 0 rfl) ?_
    refine lv_iload_n hx hb d_MacroExpandModel_in_6 rfl (lv_at hl 2 rfl) ?_
    refine lv_icmp_gt (tgt := 14) hx hb d_MacroExpandModel_in_7 (by decide) (fun c7 => ?_) (fun c7 => ?_)
    · rw [if_pos c7] at hrun
      refine lv_iconst (v := (0 : Int32)) hx hb d_MacroExpandModel_in_14 (by decide) ?_
      cases hrun
      exact W.zret hx hb hr (by decide) (fun t ht hW9 => ⟨⟨_, (), rfl, rfl, by show hW D dA classes b0 _ _ t.heap; rw [ht]; exact hw⟩, hS.F ht⟩) hS.2.2 d_MacroExpandModel_in_15
    · rw [if_neg c7] at hrun
      refine lv_iconst (v := (1 : Int32)) hx hb d_MacroExpandModel_in_10 (by decide) ?_
      refine lv_goto (tgt := 15) hx hb d_MacroExpandModel_in_11 (by decide) ?_
      cases hrun
      exact W.zret hx hb hr (by decide) (fun t ht hW9 => ⟨⟨_, (), rfl, rfl, by show hW D dA classes b0 _ _ t.heap; rw [ht]; exact hw⟩, hS.F ht⟩) hS.2.2 d_MacroExpandModel_in_15
set_option maxHeartbeats 4000000 in
set_option maxRecDepth 100000 in
theorem c_MacroExpandModel_isName (l : Launch) (D : va_G) (dA : Nat → ClassId) (b0 : Nat) (i0 : Int32) (nx : Nat) {h : hH} {r : Int32} (hrun : f_MacroExpandModel_isName i0 h = some r) : Met l y_MacroExpandModel_isName w_MacroExpandModel_isName ({ frames := 1, cells := 0, slots := 0, locals := 22 } : Room) (va_Pc [.int i0] (hB D dA b0 nx h)) (va_Qi (fun r' (_ : Unit) => r' = r) (fun (_ : Unit) t => hW D dA classes b0 nx h t.heap) (hA b0)) 0 0 (hA b0) := by
  refine Met.ofW (cc := b_MacroExpandModel_isName) (maxL := 1) (ret := (some .boolean)) (by decide) rfl ?_
  intro p e s m args below meth c s₁ B hml hv
  obtain ⟨rfl, hw, hK, hN⟩ := hv
  have hx := B.exec
  have hb := B.bytes
  have hr := B.returns
  have hlocks := B.notSynchronized
  have S : CallFix p m c b_MacroExpandModel_isName 1 s ([.int i0] : List Value).toArray w_MacroExpandModel_isName R_MacroExpandModel := ⟨hx, hb, hml, findClass_of_methodNamed B.named, atoms_spec (ws := w_MacroExpandModel_isName) B.pre⟩
  have hT : ∀ w ∈ tbl, w ∈ w_MacroExpandModel_isName := fun _ q => List.mem_cons_of_mem _ q
  have hS : va_S (hA b0) s.heap s.heap [] := va_S.rf
  have hl := lv_entry ([.int i0]) (n := 1) (Nat.le_of_ble_eq_true rfl)
  rw [lg_entry_eq]
  generalize (lg_sl ([.int i0]) ++ List.replicate (1 - (lg_sl ([.int i0])).length) Slot.unset).toArray = ls at hl ⊢
  have hl : lv_has ls 1 [(0, .int i0)] := hl
  unfold f_MacroExpandModel_isName at hrun
  refine lv_iload_n hx hb d_MacroExpandModel_isName_0 rfl (lv_at hl 0 rfl) ?_
  refine lv_sipush (v := (1000 : Int32)) hx hb d_MacroExpandModel_isName_1 (by decide) ?_
  refine lv_sipush (v := (1199 : Int32)) hx hb d_MacroExpandModel_isName_4 (by decide) ?_
  replace hrun := hb_some hrun
  obtain ⟨v7, g7, hrun⟩ := hrun
  refine h_ci (h_runS S (As := [.int i0, .int (1000 : Int32), .int (1199 : Int32)]) (rest := []) (c_MacroExpandModel_in l D dA b0 i0 (1000 : Int32) (1199 : Int32) nx g7) (va_cwS 3 S.2.2.2.2 (h_good _ (h_in3 ml_MacroExpandModel_83 sm_MacroExpandModel_in it_MacroExpandModel) cd_MacroExpandModel_in) rfl rfl rfl (by decide +kernel) ⟨Nat.le_of_ble_eq_true rfl, Nat.le_of_ble_eq_true rfl⟩) hK hN hw rfl hl.1 (lv_room (Nat.le_of_ble_eq_true rfl)) d_MacroExpandModel_isName_7 ⟨Nat.le_refl _, Nat.le_refl _⟩) hS (fun H locs hw hS => ?_)
  have zz : v7 = 0 ∨ v7 = 1 := Classical.byContradiction fun q => by rw [if_neg q] at hrun; cases hrun
  rw [if_pos zz] at hrun
  cases hrun
  exact W.zret hx hb hr (h_narZ zz) (fun t ht hW9 => ⟨⟨_, (), rfl, rfl, by show hW D dA classes b0 _ _ t.heap; rw [ht]; exact hw⟩, hS.F ht⟩) hS.2.2 d_MacroExpandModel_isName_10
set_option maxHeartbeats 4000000 in
set_option maxRecDepth 100000 in
theorem c_MacroExpandModel_isParameter (l : Launch) (D : va_G) (dA : Nat → ClassId) (b0 : Nat) (i0 : Int32) (nx : Nat) {h : hH} {r : Int32} (hrun : f_MacroExpandModel_isParameter i0 h = some r) : Met l y_MacroExpandModel_isParameter w_MacroExpandModel_isParameter ({ frames := 1, cells := 0, slots := 0, locals := 22 } : Room) (va_Pc [.int i0] (hB D dA b0 nx h)) (va_Qi (fun r' (_ : Unit) => r' = r) (fun (_ : Unit) t => hW D dA classes b0 nx h t.heap) (hA b0)) 0 0 (hA b0) := by
  refine Met.ofW (cc := b_MacroExpandModel_isParameter) (maxL := 1) (ret := (some .boolean)) (by decide) rfl ?_
  intro p e s m args below meth c s₁ B hml hv
  obtain ⟨rfl, hw, hK, hN⟩ := hv
  have hx := B.exec
  have hb := B.bytes
  have hr := B.returns
  have hlocks := B.notSynchronized
  have S : CallFix p m c b_MacroExpandModel_isParameter 1 s ([.int i0] : List Value).toArray w_MacroExpandModel_isParameter R_MacroExpandModel := ⟨hx, hb, hml, findClass_of_methodNamed B.named, atoms_spec (ws := w_MacroExpandModel_isParameter) B.pre⟩
  have hT : ∀ w ∈ tbl, w ∈ w_MacroExpandModel_isParameter := fun _ q => List.mem_cons_of_mem _ q
  have hS : va_S (hA b0) s.heap s.heap [] := va_S.rf
  have hl := lv_entry ([.int i0]) (n := 1) (Nat.le_of_ble_eq_true rfl)
  rw [lg_entry_eq]
  generalize (lg_sl ([.int i0]) ++ List.replicate (1 - (lg_sl ([.int i0])).length) Slot.unset).toArray = ls at hl ⊢
  have hl : lv_has ls 1 [(0, .int i0)] := hl
  unfold f_MacroExpandModel_isParameter at hrun
  refine lv_iload_n hx hb d_MacroExpandModel_isParameter_0 rfl (lv_at hl 0 rfl) ?_
  refine lv_sipush (v := (311 : Int32)) hx hb d_MacroExpandModel_isParameter_1 (by decide) ?_
  refine lv_sipush (v := (399 : Int32)) hx hb d_MacroExpandModel_isParameter_4 (by decide) ?_
  replace hrun := hb_some hrun
  obtain ⟨v7, g7, hrun⟩ := hrun
  refine h_ci (h_runS S (As := [.int i0, .int (311 : Int32), .int (399 : Int32)]) (rest := []) (c_MacroExpandModel_in l D dA b0 i0 (311 : Int32) (399 : Int32) nx g7) (va_cwS 3 S.2.2.2.2 (h_good _ (h_in3 ml_MacroExpandModel_83 sm_MacroExpandModel_in it_MacroExpandModel) cd_MacroExpandModel_in) rfl rfl rfl (by decide +kernel) ⟨Nat.le_of_ble_eq_true rfl, Nat.le_of_ble_eq_true rfl⟩) hK hN hw rfl hl.1 (lv_room (Nat.le_of_ble_eq_true rfl)) d_MacroExpandModel_isParameter_7 ⟨Nat.le_refl _, Nat.le_refl _⟩) hS (fun H locs hw hS => ?_)
  refine lv_if_eq (tgt := 24) hx hb d_MacroExpandModel_isParameter_10 (by decide) (fun c10 => ?_) (fun c10 => ?_)
  · rw [if_pos c10] at hrun
    refine lv_iconst (v := (0 : Int32)) hx hb d_MacroExpandModel_isParameter_24 (by decide) ?_
    cases hrun
    exact W.zret hx hb hr (by decide) (fun t ht hW9 => ⟨⟨_, (), rfl, rfl, by show hW D dA classes b0 _ _ t.heap; rw [ht]; exact hw⟩, hS.F ht⟩) hS.2.2 d_MacroExpandModel_isParameter_25
  · rw [if_neg c10] at hrun
    refine lv_iload_n hx hb d_MacroExpandModel_isParameter_13 rfl (lv_at hl 0 rfl) ?_
    refine lv_bipush (v := (10 : Int32)) hx hb d_MacroExpandModel_isParameter_14 (by decide) ?_
    have z16 : ¬ (10 : Int32) = 0 := fun q => by rw [if_pos q] at hrun; cases hrun
    rw [if_neg z16] at hrun
    refine lv_irem hx hb d_MacroExpandModel_isParameter_16 z16 ?_
    refine lv_if_eq (tgt := 24) hx hb d_MacroExpandModel_isParameter_17 (by decide) (fun c17 => ?_) (fun c17 => ?_)
    · rw [if_pos c17] at hrun
      refine lv_iconst (v := (0 : Int32)) hx hb d_MacroExpandModel_isParameter_24 (by decide) ?_
      cases hrun
      exact W.zret hx hb hr (by decide) (fun t ht hW9 => ⟨⟨_, (), rfl, rfl, by show hW D dA classes b0 _ _ t.heap; rw [ht]; exact hw⟩, hS.F ht⟩) hS.2.2 d_MacroExpandModel_isParameter_25
    · rw [if_neg c17] at hrun
      refine lv_iconst (v := (1 : Int32)) hx hb d_MacroExpandModel_isParameter_20 (by decide) ?_
      refine lv_goto (tgt := 25) hx hb d_MacroExpandModel_isParameter_21 (by decide) ?_
      cases hrun
      exact W.zret hx hb hr (by decide) (fun t ht hW9 => ⟨⟨_, (), rfl, rfl, by show hW D dA classes b0 _ _ t.heap; rw [ht]; exact hw⟩, hS.F ht⟩) hS.2.2 d_MacroExpandModel_isParameter_25
set_option maxHeartbeats 4000000 in
set_option maxRecDepth 100000 in
theorem c_MacroExpandModel_isToken (l : Launch) (D : va_G) (dA : Nat → ClassId) (b0 : Nat) (i0 : Int32) (nx : Nat) {h : hH} {r : Int32} (hrun : f_MacroExpandModel_isToken i0 h = some r) : Met l y_MacroExpandModel_isToken w_MacroExpandModel_isToken ({ frames := 2, cells := 0, slots := 0, locals := 42 } : Room) (va_Pc [.int i0] (hB D dA b0 nx h)) (va_Qi (fun r' (_ : Unit) => r' = r) (fun (_ : Unit) t => hW D dA classes b0 nx h t.heap) (hA b0)) 0 0 (hA b0) := by
  refine Met.ofW (cc := b_MacroExpandModel_isToken) (maxL := 1) (ret := (some .boolean)) (by decide) rfl ?_
  intro p e s m args below meth c s₁ B hml hv
  obtain ⟨rfl, hw, hK, hN⟩ := hv
  have hx := B.exec
  have hb := B.bytes
  have hr := B.returns
  have hlocks := B.notSynchronized
  have S : CallFix p m c b_MacroExpandModel_isToken 1 s ([.int i0] : List Value).toArray w_MacroExpandModel_isToken R_MacroExpandModel := ⟨hx, hb, hml, findClass_of_methodNamed B.named, atoms_spec (ws := w_MacroExpandModel_isToken) B.pre⟩
  have hT : ∀ w ∈ tbl, w ∈ w_MacroExpandModel_isToken := fun _ q => List.mem_cons_of_mem _ q
  have hS : va_S (hA b0) s.heap s.heap [] := va_S.rf
  have hl := lv_entry ([.int i0]) (n := 1) (Nat.le_of_ble_eq_true rfl)
  rw [lg_entry_eq]
  generalize (lg_sl ([.int i0]) ++ List.replicate (1 - (lg_sl ([.int i0])).length) Slot.unset).toArray = ls at hl ⊢
  have hl : lv_has ls 1 [(0, .int i0)] := hl
  unfold f_MacroExpandModel_isToken at hrun
  refine lv_iload_n hx hb d_MacroExpandModel_isToken_0 rfl (lv_at hl 0 rfl) ?_
  refine lv_iconst (v := (0 : Int32)) hx hb d_MacroExpandModel_isToken_1 (by decide) ?_
  refine lv_sipush (v := (258 : Int32)) hx hb d_MacroExpandModel_isToken_2 (by decide) ?_
  replace hrun := hb_some hrun
  obtain ⟨v5, g5, hrun⟩ := hrun
  refine h_ci (h_runS S (As := [.int i0, .int (0 : Int32), .int (258 : Int32)]) (rest := []) (c_MacroExpandModel_in l D dA b0 i0 (0 : Int32) (258 : Int32) nx g5) (va_cwS 3 S.2.2.2.2 (h_good _ (h_in3 ml_MacroExpandModel_83 sm_MacroExpandModel_in it_MacroExpandModel) cd_MacroExpandModel_in) rfl rfl rfl (by decide +kernel) ⟨Nat.le_of_ble_eq_true rfl, Nat.le_of_ble_eq_true rfl⟩) hK hN hw rfl hl.1 (lv_room (Nat.le_of_ble_eq_true rfl)) d_MacroExpandModel_isToken_5 ⟨Nat.le_refl _, Nat.le_refl _⟩) hS (fun H locs hw hS => ?_)
  refine lv_if_ne (tgt := 38) hx hb d_MacroExpandModel_isToken_8 (by decide) (fun c8 => ?_) (fun c8 => ?_)
  · rw [if_neg c8] at hrun
    refine lv_iconst (v := (1 : Int32)) hx hb d_MacroExpandModel_isToken_38 (by decide) ?_
    refine lv_goto (tgt := 43) hx hb d_MacroExpandModel_isToken_39 (by decide) ?_
    cases hrun
    exact W.zret hx hb hr (by decide) (fun t ht hW9 => ⟨⟨_, (), rfl, rfl, by show hW D dA classes b0 _ _ t.heap; rw [ht]; exact hw⟩, hS.F ht⟩) hS.2.2 d_MacroExpandModel_isToken_43
  · rw [if_pos c8] at hrun
    refine lv_iload_n hx hb d_MacroExpandModel_isToken_11 rfl (lv_at hl 0 rfl) ?_
    refine lv_sipush (v := (260 : Int32)) hx hb d_MacroExpandModel_isToken_12 (by decide) ?_
    refine lv_sipush (v := (269 : Int32)) hx hb d_MacroExpandModel_isToken_15 (by decide) ?_
    replace hrun := hb_some hrun
    obtain ⟨v18, g18, hrun⟩ := hrun
    refine h_ci (h_runS S (As := [.int i0, .int (260 : Int32), .int (269 : Int32)]) (rest := []) (c_MacroExpandModel_in l D dA b0 i0 (260 : Int32) (269 : Int32) nx g18) (va_cwS 3 S.2.2.2.2 (h_good _ (h_in3 ml_MacroExpandModel_83 sm_MacroExpandModel_in it_MacroExpandModel) cd_MacroExpandModel_in) rfl rfl rfl (by decide +kernel) ⟨Nat.le_of_ble_eq_true rfl, Nat.le_of_ble_eq_true rfl⟩) hK hN hw rfl hl.1 (lv_room (Nat.le_of_ble_eq_true rfl)) d_MacroExpandModel_isToken_18 ⟨Nat.le_refl _, Nat.le_refl _⟩) hS (fun H locs hw hS => ?_)
    refine lv_if_ne (tgt := 38) hx hb d_MacroExpandModel_isToken_21 (by decide) (fun c21 => ?_) (fun c21 => ?_)
    · rw [if_neg c21] at hrun
      refine lv_iconst (v := (1 : Int32)) hx hb d_MacroExpandModel_isToken_38 (by decide) ?_
      refine lv_goto (tgt := 43) hx hb d_MacroExpandModel_isToken_39 (by decide) ?_
      cases hrun
      exact W.zret hx hb hr (by decide) (fun t ht hW9 => ⟨⟨_, (), rfl, rfl, by show hW D dA classes b0 _ _ t.heap; rw [ht]; exact hw⟩, hS.F ht⟩) hS.2.2 d_MacroExpandModel_isToken_43
    · rw [if_pos c21] at hrun
      refine lv_iload_n hx hb d_MacroExpandModel_isToken_24 rfl (lv_at hl 0 rfl) ?_
      replace hrun := hb_some hrun
      obtain ⟨v25, g25, hrun⟩ := hrun
      refine h_ci (h_runS S (As := [.int i0]) (rest := []) (c_MacroExpandModel_isParameter l D dA b0 i0 nx g25) (va_cwS 1 S.2.2.2.2 (h_good _ (h_in3 ml_MacroExpandModel_87 sm_MacroExpandModel_isParameter it_MacroExpandModel) cd_MacroExpandModel_isParameter) rfl rfl rfl (by decide +kernel) ⟨Nat.le_of_ble_eq_true rfl, Nat.le_of_ble_eq_true rfl⟩) hK hN hw rfl hl.1 (lv_room (Nat.le_of_ble_eq_true rfl)) d_MacroExpandModel_isToken_25 ⟨Nat.le_refl _, Nat.le_refl _⟩) hS (fun H locs hw hS => ?_)
      refine lv_if_ne (tgt := 38) hx hb d_MacroExpandModel_isToken_28 (by decide) (fun c28 => ?_) (fun c28 => ?_)
      · rw [if_neg c28] at hrun
        refine lv_iconst (v := (1 : Int32)) hx hb d_MacroExpandModel_isToken_38 (by decide) ?_
        refine lv_goto (tgt := 43) hx hb d_MacroExpandModel_isToken_39 (by decide) ?_
        cases hrun
        exact W.zret hx hb hr (by decide) (fun t ht hW9 => ⟨⟨_, (), rfl, rfl, by show hW D dA classes b0 _ _ t.heap; rw [ht]; exact hw⟩, hS.F ht⟩) hS.2.2 d_MacroExpandModel_isToken_43
      · rw [if_pos c28] at hrun
        refine lv_iload_n hx hb d_MacroExpandModel_isToken_31 rfl (lv_at hl 0 rfl) ?_
        replace hrun := hb_some hrun
        obtain ⟨v32, g32, hrun⟩ := hrun
        refine h_ci (h_runS S (As := [.int i0]) (rest := []) (c_MacroExpandModel_isName l D dA b0 i0 nx g32) (va_cwS 1 S.2.2.2.2 (h_good _ (h_in3 ml_MacroExpandModel_91 sm_MacroExpandModel_isName it_MacroExpandModel) cd_MacroExpandModel_isName) rfl rfl rfl (by decide +kernel) ⟨Nat.le_of_ble_eq_true rfl, Nat.le_of_ble_eq_true rfl⟩) hK hN hw rfl hl.1 (lv_room (Nat.le_of_ble_eq_true rfl)) d_MacroExpandModel_isToken_32 ⟨Nat.le_refl _, Nat.le_refl _⟩) hS (fun H locs hw hS => ?_)
        refine lv_if_eq (tgt := 42) hx hb d_MacroExpandModel_isToken_35 (by decide) (fun c35 => ?_) (fun c35 => ?_)
        · rw [if_pos c35] at hrun
          refine lv_iconst (v := (0 : Int32)) hx hb d_MacroExpandModel_isToken_42 (by decide) ?_
          cases hrun
          exact W.zret hx hb hr (by decide) (fun t ht hW9 => ⟨⟨_, (), rfl, rfl, by show hW D dA classes b0 _ _ t.heap; rw [ht]; exact hw⟩, hS.F ht⟩) hS.2.2 d_MacroExpandModel_isToken_43
        · rw [if_neg c35] at hrun
          refine lv_iconst (v := (1 : Int32)) hx hb d_MacroExpandModel_isToken_38 (by decide) ?_
          refine lv_goto (tgt := 43) hx hb d_MacroExpandModel_isToken_39 (by decide) ?_
          cases hrun
          exact W.zret hx hb hr (by decide) (fun t ht hW9 => ⟨⟨_, (), rfl, rfl, by show hW D dA classes b0 _ _ t.heap; rw [ht]; exact hw⟩, hS.F ht⟩) hS.2.2 d_MacroExpandModel_isToken_43
