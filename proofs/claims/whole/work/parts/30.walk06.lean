set_option maxHeartbeats 4000000 in
set_option maxRecDepth 100000 in
theorem c_MacroExpandModel_nameOf (l : Launch) (D : va_G) (dA : Nat → ClassId) (b0 : Nat) (n : Nat) (a0 : Nat) (i1 : Int32) (i2 : Int32) (nx : Nat) {h h' : hH} {r : Int32} (hrun : f_MacroExpandModel_nameOf n a0 i1 i2 h = some (r, h')) : Met l y_MacroExpandModel_nameOf w_MacroExpandModel_nameOf ({ frames := 1, cells := 0, slots := 0, locals := 21 } : Room) (va_Pc [.ref a0, .int i1, .int i2] (hB D dA b0 nx h)) (va_Qi (fun r' (_ : Unit) => r' = r) (fun (_ : Unit) t => hW D dA classes b0 nx h' t.heap) (hA b0)) 0 0 (hA b0) := by
  refine Met.ofW (cc := b_MacroExpandModel_nameOf) (maxL := 6) (ret := (some .int)) (by decide) rfl ?_
  intro p e s m args below meth c s₁ B hml hv
  obtain ⟨rfl, hw, hK, hN⟩ := hv
  have hx := B.exec
  have hb := B.bytes
  have hr := B.returns
  have hlocks := B.notSynchronized
  have S : CallFix p m c b_MacroExpandModel_nameOf 6 s ([.ref a0, .int i1, .int i2] : List Value).toArray w_MacroExpandModel_nameOf R_MacroExpandModel := ⟨hx, hb, hml, findClass_of_methodNamed B.named, atoms_spec (ws := w_MacroExpandModel_nameOf) B.pre⟩
  have hT : ∀ w ∈ tbl, w ∈ w_MacroExpandModel_nameOf := fun _ q => List.mem_cons_of_mem _ q
  have hS : va_S (hA b0) s.heap s.heap [] := va_S.rf
  have hl := lv_entry ([.ref a0, .int i1, .int i2]) (n := 6) (Nat.le_of_ble_eq_true rfl)
  rw [lg_entry_eq]
  generalize (lg_sl ([.ref a0, .int i1, .int i2]) ++ List.replicate (6 - (lg_sl ([.ref a0, .int i1, .int i2])).length) Slot.unset).toArray = ls at hl ⊢
  have hl : lv_has ls 6 [(0, .ref a0), (1, .int i1), (2, .int i2)] := hl
  have l_117 : ∀ (x1 : Int32) (x2 : Int32) (n9 : Nat) (x9 : Int32) (h : hH) (b9 : (Unit)) (h9 : hH) (H : Heap) (locs : List Loc) (ls : Array Slot), hloopW (f_MacroExpandModel_nameOf_b117 n a0 x1 x2) n9 x9 h = some (b9, h9) → hW D dA classes b0 nx h H → va_S (hA b0) s.heap H locs → lv_has ls 6 (match x9 with | x3 => [(0, .ref a0), (1, .int x1), (2, .int x2), (3, .int x3)]) → (b9 = () → ∀ (H : Heap) (locs : List Loc) (ls : Array Slot), hW D dA classes b0 nx h9 H → va_S (hA b0) s.heap H locs → lv_has ls 6 [(0, .ref a0), (2, .int x2)] → W p l e (headSpec w_MacroExpandModel_nameOf ({ frames := 1, cells := 0, slots := 0, locals := 21 } : Room)).room s m ([.ref a0, .int i1, .int i2] : List Value).toArray below meth c H locs 0 0 (MQ below (va_Qi (fun r' (_ : Unit) => r' = r) (fun (_ : Unit) t => hW D dA classes b0 nx h' t.heap) (hA b0)) ([.ref a0, .int i1, .int i2] : List Value).toArray s 0 0 (hA b0)) (F0 m 153 ls [])) → W p l e (headSpec w_MacroExpandModel_nameOf ({ frames := 1, cells := 0, slots := 0, locals := 21 } : Room)).room s m ([.ref a0, .int i1, .int i2] : List Value).toArray below meth c H locs 0 0 (MQ below (va_Qi (fun r' (_ : Unit) => r' = r) (fun (_ : Unit) t => hW D dA classes b0 nx h' t.heap) (hA b0)) ([.ref a0, .int i1, .int i2] : List Value).toArray s 0 0 (hA b0)) (F0 m 117 ls []) := by
    intro x1 x2 n9
    induction n9 with
    | zero =>
      intro x9 h b9 h9 H locs ls hrun
      cases hrun
    | succ n9 ih =>
      rintro x3 h b9 h9 H locs ls hrun hw hS hl k0
      have hl : lv_has ls 6 [(0, .ref a0), (1, .int x1), (2, .int x2), (3, .int x3)] := hl
      unfold hloopW at hrun
      obtain ⟨q9, h9b, hbody, hrun9⟩ := hbW_some hrun
      have K0 : (∀ (z3 : Int32), q9 = .inl z3 → ∀ (H : Heap) (locs : List Loc) (ls : Array Slot), hW D dA classes b0 nx h9b H → va_S (hA b0) s.heap H locs → lv_has ls 6 [(0, .ref a0), (1, .int x1), (2, .int x2), (3, .int z3)] → W p l e (headSpec w_MacroExpandModel_nameOf ({ frames := 1, cells := 0, slots := 0, locals := 21 } : Room)).room s m ([.ref a0, .int i1, .int i2] : List Value).toArray below meth c H locs 0 0 (MQ below (va_Qi (fun r' (_ : Unit) => r' = r) (fun (_ : Unit) t => hW D dA classes b0 nx h' t.heap) (hA b0)) ([.ref a0, .int i1, .int i2] : List Value).toArray s 0 0 (hA b0)) (F0 m 117 ls [])) := by
        intro z3 eq9 H locs ls hw hS hl
        subst eq9
        exact ih z3 h9b b9 h9 H locs ls hrun9 hw hS hl k0
      have K1 : (q9 = .inr () → ∀ (H : Heap) (locs : List Loc) (ls : Array Slot), hW D dA classes b0 nx h9b H → va_S (hA b0) s.heap H locs → lv_has ls 6 [(0, .ref a0), (2, .int x2)] → W p l e (headSpec w_MacroExpandModel_nameOf ({ frames := 1, cells := 0, slots := 0, locals := 21 } : Room)).room s m ([.ref a0, .int i1, .int i2] : List Value).toArray below meth c H locs 0 0 (MQ below (va_Qi (fun r' (_ : Unit) => r' = r) (fun (_ : Unit) t => hW D dA classes b0 nx h' t.heap) (hA b0)) ([.ref a0, .int i1, .int i2] : List Value).toArray s 0 0 (hA b0)) (F0 m 153 ls [])) := by
        intro  eq9 H locs ls hw hS hl
        subst eq9
        cases hrun9
        exact k0  rfl H locs ls hw hS hl
      clear hrun hrun9 ih k0
      have hrun := hbody
      clear hbody
      dsimp only [f_MacroExpandModel_nameOf_b117] at hrun
      refine lv_iload_n hx hb d_MacroExpandModel_nameOf_117 rfl (lv_at hl 3 rfl) ?_
      refine lv_iload_n hx hb d_MacroExpandModel_nameOf_118 rfl (lv_at hl 2 rfl) ?_
      refine lv_icmp_ge (tgt := 153) hx hb d_MacroExpandModel_nameOf_119 (by decide) (fun c119 => ?_) (fun c119 => ?_)
      · rw [if_pos c119] at hrun
        cases hrun
        exact K1  rfl H locs ls hw hS (lv_sub hl [0, 2] rfl)
      · rw [if_neg c119] at hrun
        refine lv_aload_n hx hb d_MacroExpandModel_nameOf_122 rfl (lv_at hl 0 rfl) ?_
        replace hrun := hb_some hrun
        obtain ⟨v123, g123, hrun⟩ := hrun
        refine h_getR S (fun w q => hT w (i_MacroExpandModel w q)) hK (ci := 1) rfl 18 (by decide) (hT _ fl_MacroExpandModel_44) hw g123 d_MacroExpandModel_nameOf_123 ?_
        refine lv_bipush (v := (8 : Int32)) hx hb d_MacroExpandModel_nameOf_126 (by decide) ?_
        refine lv_aload_n hx hb d_MacroExpandModel_nameOf_128 rfl (lv_at hl 0 rfl) ?_
        replace hrun := hb_some hrun
        obtain ⟨v129, g129, hrun⟩ := hrun
        refine h_getI S (fun w q => hT w (i_MacroExpandModel w q)) hK (ci := 1) rfl 16 (by decide) (hT _ fl_MacroExpandModel_172) hw g129 d_MacroExpandModel_nameOf_129 ?_
        refine lv_imul hx hb d_MacroExpandModel_nameOf_132 ?_
        refine lv_iload_n hx hb d_MacroExpandModel_nameOf_133 rfl (lv_at hl 3 rfl) ?_
        refine lv_iadd hx hb d_MacroExpandModel_nameOf_134 ?_
        refine lv_aload_n hx hb d_MacroExpandModel_nameOf_135 rfl (lv_at hl 0 rfl) ?_
        replace hrun := hb_some hrun
        obtain ⟨v136, g136, hrun⟩ := hrun
        refine h_getR S (fun w q => hT w (i_MacroExpandModel w q)) hK (ci := 1) rfl 27 (by decide) (hT _ fl_MacroExpandModel_56) hw g136 d_MacroExpandModel_nameOf_136 ?_
        refine lv_bipush (v := (8 : Int32)) hx hb d_MacroExpandModel_nameOf_139 (by decide) ?_
        refine lv_iload_n hx hb d_MacroExpandModel_nameOf_141 rfl (lv_at hl 1 rfl) ?_
        refine lv_imul hx hb d_MacroExpandModel_nameOf_142 ?_
        refine lv_iload_n hx hb d_MacroExpandModel_nameOf_143 rfl (lv_at hl 3 rfl) ?_
        refine lv_iadd hx hb d_MacroExpandModel_nameOf_144 ?_
        replace hrun := hb_some hrun
        obtain ⟨p145, rfl, hrun⟩ := hrun
        replace hrun := hb_some hrun
        obtain ⟨v145, g145, hrun⟩ := hrun
        refine h_iald S hK (kd := 0) rfl hw g145 d_MacroExpandModel_nameOf_145 ?_
        replace hrun := hb_some hrun
        obtain ⟨p146, rfl, hrun⟩ := hrun
        replace hrun := hb_some hrun
        obtain ⟨h146, g146, hrun⟩ := hrun
        refine h_iast S hK (kd := 0) rfl hw hS g146 d_MacroExpandModel_nameOf_146 (fun H locs hw hS => ?_)
        refine lv_iinc (v := (x3 + (1 : Int32))) (lv' := [(3, .int (x3 + (1 : Int32))), (0, .ref a0), (1, .int x1), (2, .int x2)]) hx hb d_MacroExpandModel_nameOf_147 hl (k := 3) rfl rfl (by decide) rfl (fun ls hl => ?_)
        refine lv_goto (tgt := 117) hx hb d_MacroExpandModel_nameOf_150 (by decide) ?_
        cases hrun
        exact K0 (x3 + (1 : Int32)) rfl H locs ls hw hS (lv_sub hl [1, 2, 3, 0] rfl)
  have l_2 : ∀ (x1 : Int32) (x2 : Int32) (n9 : Nat) (x9 : Int32) (h : hH) (b9 : (Int32) ⊕ (Unit)) (h9 : hH) (H : Heap) (locs : List Loc) (ls : Array Slot), hloopW (f_MacroExpandModel_nameOf_b2 n a0 x1 x2) n9 x9 h = some (b9, h9) → hW D dA classes b0 nx h H → va_S (hA b0) s.heap H locs → lv_has ls 6 (match x9 with | x3 => [(0, .ref a0), (1, .int x1), (2, .int x2), (3, .int x3)]) → (∀ (z3 : Int32), b9 = .inl z3 → ∀ (H : Heap) (locs : List Loc) (ls : Array Slot), hW D dA classes b0 nx h9 H → va_S (hA b0) s.heap H locs → lv_has ls 6 [(3, .int z3)] → W p l e (headSpec w_MacroExpandModel_nameOf ({ frames := 1, cells := 0, slots := 0, locals := 21 } : Room)).room s m ([.ref a0, .int i1, .int i2] : List Value).toArray below meth c H locs 0 0 (MQ below (va_Qi (fun r' (_ : Unit) => r' = r) (fun (_ : Unit) t => hW D dA classes b0 nx h' t.heap) (hA b0)) ([.ref a0, .int i1, .int i2] : List Value).toArray s 0 0 (hA b0)) (F0 m 86 ls [])) → (b9 = .inr (()) → ∀ (H : Heap) (locs : List Loc) (ls : Array Slot), hW D dA classes b0 nx h9 H → va_S (hA b0) s.heap H locs → lv_has ls 6 [(0, .ref a0), (1, .int x1), (2, .int x2)] → W p l e (headSpec w_MacroExpandModel_nameOf ({ frames := 1, cells := 0, slots := 0, locals := 21 } : Room)).room s m ([.ref a0, .int i1, .int i2] : List Value).toArray below meth c H locs 0 0 (MQ below (va_Qi (fun r' (_ : Unit) => r' = r) (fun (_ : Unit) t => hW D dA classes b0 nx h' t.heap) (hA b0)) ([.ref a0, .int i1, .int i2] : List Value).toArray s 0 0 (hA b0)) (F0 m 98 ls [])) → W p l e (headSpec w_MacroExpandModel_nameOf ({ frames := 1, cells := 0, slots := 0, locals := 21 } : Room)).room s m ([.ref a0, .int i1, .int i2] : List Value).toArray below meth c H locs 0 0 (MQ below (va_Qi (fun r' (_ : Unit) => r' = r) (fun (_ : Unit) t => hW D dA classes b0 nx h' t.heap) (hA b0)) ([.ref a0, .int i1, .int i2] : List Value).toArray s 0 0 (hA b0)) (F0 m 2 ls []) := by
    intro x1 x2 n9
    induction n9 with
    | zero =>
      intro x9 h b9 h9 H locs ls hrun
      cases hrun
    | succ n9 ih =>
      rintro x3 h b9 h9 H locs ls hrun hw hS hl k0 k1
      have hl : lv_has ls 6 [(0, .ref a0), (1, .int x1), (2, .int x2), (3, .int x3)] := hl
      unfold hloopW at hrun
      obtain ⟨q9, h9b, hbody, hrun9⟩ := hbW_some hrun
      have K0 : (∀ (z3 : Int32), q9 = .inl z3 → ∀ (H : Heap) (locs : List Loc) (ls : Array Slot), hW D dA classes b0 nx h9b H → va_S (hA b0) s.heap H locs → lv_has ls 6 [(0, .ref a0), (1, .int x1), (2, .int x2), (3, .int z3)] → W p l e (headSpec w_MacroExpandModel_nameOf ({ frames := 1, cells := 0, slots := 0, locals := 21 } : Room)).room s m ([.ref a0, .int i1, .int i2] : List Value).toArray below meth c H locs 0 0 (MQ below (va_Qi (fun r' (_ : Unit) => r' = r) (fun (_ : Unit) t => hW D dA classes b0 nx h' t.heap) (hA b0)) ([.ref a0, .int i1, .int i2] : List Value).toArray s 0 0 (hA b0)) (F0 m 2 ls [])) := by
        intro z3 eq9 H locs ls hw hS hl
        subst eq9
        exact ih z3 h9b b9 h9 H locs ls hrun9 hw hS hl k0 k1
      have K1 : (∀ (z3 : Int32), q9 = .inr (.inl z3) → ∀ (H : Heap) (locs : List Loc) (ls : Array Slot), hW D dA classes b0 nx h9b H → va_S (hA b0) s.heap H locs → lv_has ls 6 [(3, .int z3)] → W p l e (headSpec w_MacroExpandModel_nameOf ({ frames := 1, cells := 0, slots := 0, locals := 21 } : Room)).room s m ([.ref a0, .int i1, .int i2] : List Value).toArray below meth c H locs 0 0 (MQ below (va_Qi (fun r' (_ : Unit) => r' = r) (fun (_ : Unit) t => hW D dA classes b0 nx h' t.heap) (hA b0)) ([.ref a0, .int i1, .int i2] : List Value).toArray s 0 0 (hA b0)) (F0 m 86 ls [])) := by
        intro z3 eq9 H locs ls hw hS hl
        subst eq9
        cases hrun9
        exact k0 _ rfl H locs ls hw hS hl
      have K2 : (q9 = .inr (.inr (())) → ∀ (H : Heap) (locs : List Loc) (ls : Array Slot), hW D dA classes b0 nx h9b H → va_S (hA b0) s.heap H locs → lv_has ls 6 [(0, .ref a0), (1, .int x1), (2, .int x2)] → W p l e (headSpec w_MacroExpandModel_nameOf ({ frames := 1, cells := 0, slots := 0, locals := 21 } : Room)).room s m ([.ref a0, .int i1, .int i2] : List Value).toArray below meth c H locs 0 0 (MQ below (va_Qi (fun r' (_ : Unit) => r' = r) (fun (_ : Unit) t => hW D dA classes b0 nx h' t.heap) (hA b0)) ([.ref a0, .int i1, .int i2] : List Value).toArray s 0 0 (hA b0)) (F0 m 98 ls [])) := by
        intro  eq9 H locs ls hw hS hl
        subst eq9
        cases hrun9
        exact k1  rfl H locs ls hw hS hl
      clear hrun hrun9 ih k0 k1
      have hrun := hbody
      clear hbody
      have l_30 : ∀ (x1 : Int32) (x2 : Int32) (x3 : Int32) (n9 : Nat) (x9 : Int32 × Int32) (h : hH) (b9 : (Int32)) (h9 : hH) (H : Heap) (locs : List Loc) (ls : Array Slot), hloopW (f_MacroExpandModel_nameOf_b30 n a0 x1 x2 x3) n9 x9 h = some (b9, h9) → hW D dA classes b0 nx h H → va_S (hA b0) s.heap H locs → lv_has ls 6 (match x9 with | (x4, x5) => [(0, .ref a0), (1, .int x1), (2, .int x2), (3, .int x3), (4, .int x4), (5, .int x5)]) → (∀ (z4 : Int32), b9 = z4 → ∀ (H : Heap) (locs : List Loc) (ls : Array Slot), hW D dA classes b0 nx h9 H → va_S (hA b0) s.heap H locs → lv_has ls 6 [(0, .ref a0), (1, .int x1), (2, .int x2), (3, .int x3), (4, .int z4)] → W p l e (headSpec w_MacroExpandModel_nameOf ({ frames := 1, cells := 0, slots := 0, locals := 21 } : Room)).room s m ([.ref a0, .int i1, .int i2] : List Value).toArray below meth c H locs 0 0 (MQ below (va_Qi (fun r' (_ : Unit) => r' = r) (fun (_ : Unit) t => hW D dA classes b0 nx h' t.heap) (hA b0)) ([.ref a0, .int i1, .int i2] : List Value).toArray s 0 0 (hA b0)) (F0 m 81 ls [])) → W p l e (headSpec w_MacroExpandModel_nameOf ({ frames := 1, cells := 0, slots := 0, locals := 21 } : Room)).room s m ([.ref a0, .int i1, .int i2] : List Value).toArray below meth c H locs 0 0 (MQ below (va_Qi (fun r' (_ : Unit) => r' = r) (fun (_ : Unit) t => hW D dA classes b0 nx h' t.heap) (hA b0)) ([.ref a0, .int i1, .int i2] : List Value).toArray s 0 0 (hA b0)) (F0 m 30 ls []) := by
        intro x1 x2 x3 n9
        induction n9 with
        | zero =>
          intro x9 h b9 h9 H locs ls hrun
          cases hrun
        | succ n9 ih =>
          rintro ⟨x4, x5⟩ h b9 h9 H locs ls hrun hw hS hl k0
          have hl : lv_has ls 6 [(0, .ref a0), (1, .int x1), (2, .int x2), (3, .int x3), (4, .int x4), (5, .int x5)] := hl
          unfold hloopW at hrun
          obtain ⟨q9, h9b, hbody, hrun9⟩ := hbW_some hrun
          have K0 : (∀ (z4 : Int32) (z5 : Int32), q9 = .inl (z4, z5) → ∀ (H : Heap) (locs : List Loc) (ls : Array Slot), hW D dA classes b0 nx h9b H → va_S (hA b0) s.heap H locs → lv_has ls 6 [(0, .ref a0), (1, .int x1), (2, .int x2), (3, .int x3), (4, .int z4), (5, .int z5)] → W p l e (headSpec w_MacroExpandModel_nameOf ({ frames := 1, cells := 0, slots := 0, locals := 21 } : Room)).room s m ([.ref a0, .int i1, .int i2] : List Value).toArray below meth c H locs 0 0 (MQ below (va_Qi (fun r' (_ : Unit) => r' = r) (fun (_ : Unit) t => hW D dA classes b0 nx h' t.heap) (hA b0)) ([.ref a0, .int i1, .int i2] : List Value).toArray s 0 0 (hA b0)) (F0 m 30 ls [])) := by
            intro z4 z5 eq9 H locs ls hw hS hl
            subst eq9
            exact ih (z4, z5) h9b b9 h9 H locs ls hrun9 hw hS hl k0
          have K1 : (∀ (z4 : Int32), q9 = .inr z4 → ∀ (H : Heap) (locs : List Loc) (ls : Array Slot), hW D dA classes b0 nx h9b H → va_S (hA b0) s.heap H locs → lv_has ls 6 [(0, .ref a0), (1, .int x1), (2, .int x2), (3, .int x3), (4, .int z4)] → W p l e (headSpec w_MacroExpandModel_nameOf ({ frames := 1, cells := 0, slots := 0, locals := 21 } : Room)).room s m ([.ref a0, .int i1, .int i2] : List Value).toArray below meth c H locs 0 0 (MQ below (va_Qi (fun r' (_ : Unit) => r' = r) (fun (_ : Unit) t => hW D dA classes b0 nx h' t.heap) (hA b0)) ([.ref a0, .int i1, .int i2] : List Value).toArray s 0 0 (hA b0)) (F0 m 81 ls [])) := by
            intro z4 eq9 H locs ls hw hS hl
            subst eq9
            cases hrun9
            exact k0 _ rfl H locs ls hw hS hl
          clear hrun hrun9 ih k0
          have hrun := hbody
          clear hbody
          have j_73 : ∀  (x1 : Int32) (x2 : Int32) (x3 : Int32) (x5 : Int32) (y0 : Int32) (q9 : (Int32 × Int32) ⊕ ((Int32))) (h9 : hH) (h : hH) (H : Heap) (locs : List Loc) (ls : Array Slot), f_MacroExpandModel_nameOf_j73 n a0 x1 x2 x3 x5 y0 h = some (q9, h9) → hW D dA classes b0 nx h H → va_S (hA b0) s.heap H locs → lv_has ls 6 [(0, .ref a0), (1, .int x1), (2, .int x2), (3, .int x3), (5, .int x5)] → (∀ (z4 : Int32) (z5 : Int32), q9 = .inl (z4, z5) → ∀ (H : Heap) (locs : List Loc) (ls : Array Slot), hW D dA classes b0 nx h9 H → va_S (hA b0) s.heap H locs → lv_has ls 6 [(0, .ref a0), (1, .int x1), (2, .int x2), (3, .int x3), (4, .int z4), (5, .int z5)] → W p l e (headSpec w_MacroExpandModel_nameOf ({ frames := 1, cells := 0, slots := 0, locals := 21 } : Room)).room s m ([.ref a0, .int i1, .int i2] : List Value).toArray below meth c H locs 0 0 (MQ below (va_Qi (fun r' (_ : Unit) => r' = r) (fun (_ : Unit) t => hW D dA classes b0 nx h' t.heap) (hA b0)) ([.ref a0, .int i1, .int i2] : List Value).toArray s 0 0 (hA b0)) (F0 m 30 ls [])) → (∀ (z4 : Int32), q9 = .inr z4 → ∀ (H : Heap) (locs : List Loc) (ls : Array Slot), hW D dA classes b0 nx h9 H → va_S (hA b0) s.heap H locs → lv_has ls 6 [(0, .ref a0), (1, .int x1), (2, .int x2), (3, .int x3), (4, .int z4)] → W p l e (headSpec w_MacroExpandModel_nameOf ({ frames := 1, cells := 0, slots := 0, locals := 21 } : Room)).room s m ([.ref a0, .int i1, .int i2] : List Value).toArray below meth c H locs 0 0 (MQ below (va_Qi (fun r' (_ : Unit) => r' = r) (fun (_ : Unit) t => hW D dA classes b0 nx h' t.heap) (hA b0)) ([.ref a0, .int i1, .int i2] : List Value).toArray s 0 0 (hA b0)) (F0 m 81 ls [])) → W p l e (headSpec w_MacroExpandModel_nameOf ({ frames := 1, cells := 0, slots := 0, locals := 21 } : Room)).room s m ([.ref a0, .int i1, .int i2] : List Value).toArray below meth c H locs 0 0 (MQ below (va_Qi (fun r' (_ : Unit) => r' = r) (fun (_ : Unit) t => hW D dA classes b0 nx h' t.heap) (hA b0)) ([.ref a0, .int i1, .int i2] : List Value).toArray s 0 0 (hA b0)) (F0 m 73 ls [.int y0]) := by
            intro x1 x2 x3 x5 y0 q9 h9 h H locs ls hrun hw hS hl k0 k1
            unfold f_MacroExpandModel_nameOf_j73 at hrun
            refine lv_istore (lv' := [(4, .int y0), (0, .ref a0), (1, .int x1), (2, .int x2), (3, .int x3), (5, .int x5)]) hx hb d_MacroExpandModel_nameOf_73 hl (by decide) rfl (fun ls hl => ?_)
            refine lv_iinc (v := (x5 + (1 : Int32))) (lv' := [(5, .int (x5 + (1 : Int32))), (4, .int y0), (0, .ref a0), (1, .int x1), (2, .int x2), (3, .int x3)]) hx hb d_MacroExpandModel_nameOf_75 hl (k := 5) rfl rfl (by decide) rfl (fun ls hl => ?_)
            refine lv_goto (tgt := 30) hx hb d_MacroExpandModel_nameOf_78 (by decide) ?_
            cases hrun
            exact k0 y0 (x5 + (1 : Int32)) rfl H locs ls hw hS (lv_sub hl [2, 3, 4, 5, 1, 0] rfl)
          dsimp only [f_MacroExpandModel_nameOf_b30] at hrun
          refine lv_iload hx hb d_MacroExpandModel_nameOf_30 (lv_at hl 5 rfl) ?_
          refine lv_iload_n hx hb d_MacroExpandModel_nameOf_32 rfl (lv_at hl 2 rfl) ?_
          refine lv_icmp_ge (tgt := 81) hx hb d_MacroExpandModel_nameOf_33 (by decide) (fun c33 => ?_) (fun c33 => ?_)
          · rw [if_pos c33] at hrun
            cases hrun
            exact K1 x4 rfl H locs ls hw hS (lv_sub hl [0, 1, 2, 3, 4] rfl)
          · rw [if_neg c33] at hrun
            refine lv_iload hx hb d_MacroExpandModel_nameOf_36 (lv_at hl 4 rfl) ?_
            refine lv_if_eq (tgt := 81) hx hb d_MacroExpandModel_nameOf_38 (by decide) (fun c38 => ?_) (fun c38 => ?_)
            · rw [if_pos c38] at hrun
              cases hrun
              exact K1 x4 rfl H locs ls hw hS (lv_sub hl [0, 1, 2, 3, 4] rfl)
            · rw [if_neg c38] at hrun
              refine lv_aload_n hx hb d_MacroExpandModel_nameOf_41 rfl (lv_at hl 0 rfl) ?_
              replace hrun := hb_some hrun
              obtain ⟨v42, g42, hrun⟩ := hrun
              refine h_getR S (fun w q => hT w (i_MacroExpandModel w q)) hK (ci := 1) rfl 18 (by decide) (hT _ fl_MacroExpandModel_44) hw g42 d_MacroExpandModel_nameOf_42 ?_
              refine lv_bipush (v := (8 : Int32)) hx hb d_MacroExpandModel_nameOf_45 (by decide) ?_
              refine lv_iload_n hx hb d_MacroExpandModel_nameOf_47 rfl (lv_at hl 3 rfl) ?_
              refine lv_imul hx hb d_MacroExpandModel_nameOf_48 ?_
              refine lv_iload hx hb d_MacroExpandModel_nameOf_49 (lv_at hl 5 rfl) ?_
              refine lv_iadd hx hb d_MacroExpandModel_nameOf_51 ?_
              replace hrun := hb_some hrun
              obtain ⟨p52, rfl, hrun⟩ := hrun
              replace hrun := hb_some hrun
              obtain ⟨v52, g52, hrun⟩ := hrun
              refine h_iald S hK (kd := 0) rfl hw g52 d_MacroExpandModel_nameOf_52 ?_
              refine lv_aload_n hx hb d_MacroExpandModel_nameOf_53 rfl (lv_at hl 0 rfl) ?_
              replace hrun := hb_some hrun
              obtain ⟨v54, g54, hrun⟩ := hrun
              refine h_getR S (fun w q => hT w (i_MacroExpandModel w q)) hK (ci := 1) rfl 27 (by decide) (hT _ fl_MacroExpandModel_56) hw g54 d_MacroExpandModel_nameOf_54 ?_
              refine lv_bipush (v := (8 : Int32)) hx hb d_MacroExpandModel_nameOf_57 (by decide) ?_
              refine lv_iload_n hx hb d_MacroExpandModel_nameOf_59 rfl (lv_at hl 1 rfl) ?_
              refine lv_imul hx hb d_MacroExpandModel_nameOf_60 ?_
              refine lv_iload hx hb d_MacroExpandModel_nameOf_61 (lv_at hl 5 rfl) ?_
              refine lv_iadd hx hb d_MacroExpandModel_nameOf_63 ?_
              replace hrun := hb_some hrun
              obtain ⟨p64, rfl, hrun⟩ := hrun
              replace hrun := hb_some hrun
              obtain ⟨v64, g64, hrun⟩ := hrun
              refine h_iald S hK (kd := 0) rfl hw g64 d_MacroExpandModel_nameOf_64 ?_
              refine lv_icmp_ne (tgt := 72) hx hb d_MacroExpandModel_nameOf_65 (by decide) (fun c65 => ?_) (fun c65 => ?_)
              · rw [if_neg c65] at hrun
                refine lv_iconst (v := (0 : Int32)) hx hb d_MacroExpandModel_nameOf_72 (by decide) ?_
                exact j_73 x1 x2 x3 x5 (0 : Int32) _ _ h _ _ _ hrun hw hS (lv_sub hl [0, 1, 2, 3, 5] rfl) K0 K1
              · rw [if_pos c65] at hrun
                refine lv_iconst (v := (1 : Int32)) hx hb d_MacroExpandModel_nameOf_68 (by decide) ?_
                refine lv_goto (tgt := 73) hx hb d_MacroExpandModel_nameOf_69 (by decide) ?_
                exact j_73 x1 x2 x3 x5 (1 : Int32) _ _ h _ _ _ hrun hw hS (lv_sub hl [0, 1, 2, 3, 5] rfl) K0 K1
      have j_25 : ∀  (x1 : Int32) (x2 : Int32) (x3 : Int32) (y0 : Int32) (q9 : (Int32) ⊕ ((Int32) ⊕ (Unit))) (h9 : hH) (h : hH) (H : Heap) (locs : List Loc) (ls : Array Slot), f_MacroExpandModel_nameOf_j25 n a0 x1 x2 x3 y0 h = some (q9, h9) → hW D dA classes b0 nx h H → va_S (hA b0) s.heap H locs → lv_has ls 6 [(0, .ref a0), (1, .int x1), (2, .int x2), (3, .int x3)] → (∀ (z3 : Int32), q9 = .inl z3 → ∀ (H : Heap) (locs : List Loc) (ls : Array Slot), hW D dA classes b0 nx h9 H → va_S (hA b0) s.heap H locs → lv_has ls 6 [(0, .ref a0), (1, .int x1), (2, .int x2), (3, .int z3)] → W p l e (headSpec w_MacroExpandModel_nameOf ({ frames := 1, cells := 0, slots := 0, locals := 21 } : Room)).room s m ([.ref a0, .int i1, .int i2] : List Value).toArray below meth c H locs 0 0 (MQ below (va_Qi (fun r' (_ : Unit) => r' = r) (fun (_ : Unit) t => hW D dA classes b0 nx h' t.heap) (hA b0)) ([.ref a0, .int i1, .int i2] : List Value).toArray s 0 0 (hA b0)) (F0 m 2 ls [])) → (∀ (z3 : Int32), q9 = .inr (.inl z3) → ∀ (H : Heap) (locs : List Loc) (ls : Array Slot), hW D dA classes b0 nx h9 H → va_S (hA b0) s.heap H locs → lv_has ls 6 [(3, .int z3)] → W p l e (headSpec w_MacroExpandModel_nameOf ({ frames := 1, cells := 0, slots := 0, locals := 21 } : Room)).room s m ([.ref a0, .int i1, .int i2] : List Value).toArray below meth c H locs 0 0 (MQ below (va_Qi (fun r' (_ : Unit) => r' = r) (fun (_ : Unit) t => hW D dA classes b0 nx h' t.heap) (hA b0)) ([.ref a0, .int i1, .int i2] : List Value).toArray s 0 0 (hA b0)) (F0 m 86 ls [])) → (q9 = .inr (.inr (())) → ∀ (H : Heap) (locs : List Loc) (ls : Array Slot), hW D dA classes b0 nx h9 H → va_S (hA b0) s.heap H locs → lv_has ls 6 [(0, .ref a0), (1, .int x1), (2, .int x2)] → W p l e (headSpec w_MacroExpandModel_nameOf ({ frames := 1, cells := 0, slots := 0, locals := 21 } : Room)).room s m ([.ref a0, .int i1, .int i2] : List Value).toArray below meth c H locs 0 0 (MQ below (va_Qi (fun r' (_ : Unit) => r' = r) (fun (_ : Unit) t => hW D dA classes b0 nx h' t.heap) (hA b0)) ([.ref a0, .int i1, .int i2] : List Value).toArray s 0 0 (hA b0)) (F0 m 98 ls [])) → W p l e (headSpec w_MacroExpandModel_nameOf ({ frames := 1, cells := 0, slots := 0, locals := 21 } : Room)).room s m ([.ref a0, .int i1, .int i2] : List Value).toArray below meth c H locs 0 0 (MQ below (va_Qi (fun r' (_ : Unit) => r' = r) (fun (_ : Unit) t => hW D dA classes b0 nx h' t.heap) (hA b0)) ([.ref a0, .int i1, .int i2] : List Value).toArray s 0 0 (hA b0)) (F0 m 25 ls [.int y0]) := by
        intro x1 x2 x3 y0 q9 h9 h H locs ls hrun hw hS hl k0 k1 k2
        unfold f_MacroExpandModel_nameOf_j25 at hrun
        refine lv_istore (lv' := [(4, .int y0), (0, .ref a0), (1, .int x1), (2, .int x2), (3, .int x3)]) hx hb d_MacroExpandModel_nameOf_25 hl (by decide) rfl (fun ls hl => ?_)
        refine lv_iconst (v := (0 : Int32)) hx hb d_MacroExpandModel_nameOf_27 (by decide) ?_
        refine lv_istore (lv' := [(5, .int (0 : Int32)), (4, .int y0), (0, .ref a0), (1, .int x1), (2, .int x2), (3, .int x3)]) hx hb d_MacroExpandModel_nameOf_28 hl (by decide) rfl (fun ls hl => ?_)
        replace hrun := hbW_some hrun
        obtain ⟨b30, h30l, g30, hrun⟩ := hrun
        refine l_30 x1 x2 x3 n (y0, (0 : Int32)) h _ _ _ _ _ g30 hw hS (lv_sub hl [2, 3, 4, 5, 1, 0] rfl) ?_
        · rintro x4_30 eq9 H locs ls hw hS hl
          obtain rfl := eq9.symm
          try dsimp only at hrun
          refine lv_iload hx hb d_MacroExpandModel_nameOf_81 (lv_at hl 4 rfl) ?_
          refine lv_if_eq (tgt := 92) hx hb d_MacroExpandModel_nameOf_83 (by decide) (fun c83 => ?_) (fun c83 => ?_)
          · rw [if_pos c83] at hrun
            refine lv_iinc (v := (x3 + (1 : Int32))) (lv' := [(3, .int (x3 + (1 : Int32))), (0, .ref a0), (1, .int x1), (2, .int x2), (4, .int x4_30)]) hx hb d_MacroExpandModel_nameOf_92 hl (k := 3) rfl rfl (by decide) rfl (fun ls hl => ?_)
            refine lv_goto (tgt := 2) hx hb d_MacroExpandModel_nameOf_95 (by decide) ?_
            cases hrun
            exact k0 (x3 + (1 : Int32)) rfl H locs ls hw hS (lv_sub hl [1, 2, 3, 0] rfl)
          · rw [if_neg c83] at hrun
            cases hrun
            exact k1 x3 rfl H locs ls hw hS (lv_sub hl [3] rfl)
      dsimp only [f_MacroExpandModel_nameOf_b2] at hrun
      refine lv_iload_n hx hb d_MacroExpandModel_nameOf_2 rfl (lv_at hl 3 rfl) ?_
      refine lv_aload_n hx hb d_MacroExpandModel_nameOf_3 rfl (lv_at hl 0 rfl) ?_
      replace hrun := hb_some hrun
      obtain ⟨v4, g4, hrun⟩ := hrun
      refine h_getI S (fun w q => hT w (i_MacroExpandModel w q)) hK (ci := 1) rfl 16 (by decide) (hT _ fl_MacroExpandModel_172) hw g4 d_MacroExpandModel_nameOf_4 ?_
      refine lv_icmp_ge (tgt := 98) hx hb d_MacroExpandModel_nameOf_7 (by decide) (fun c7 => ?_) (fun c7 => ?_)
      · rw [if_pos c7] at hrun
        cases hrun
        exact K2  rfl H locs ls hw hS (lv_sub hl [0, 1, 2] rfl)
      · rw [if_neg c7] at hrun
        refine lv_aload_n hx hb d_MacroExpandModel_nameOf_10 rfl (lv_at hl 0 rfl) ?_
        replace hrun := hb_some hrun
        obtain ⟨v11, g11, hrun⟩ := hrun
        refine h_getR S (fun w q => hT w (i_MacroExpandModel w q)) hK (ci := 1) rfl 17 (by decide) (hT _ fl_MacroExpandModel_41) hw g11 d_MacroExpandModel_nameOf_11 ?_
        refine lv_iload_n hx hb d_MacroExpandModel_nameOf_14 rfl (lv_at hl 3 rfl) ?_
        replace hrun := hb_some hrun
        obtain ⟨p15, rfl, hrun⟩ := hrun
        replace hrun := hb_some hrun
        obtain ⟨v15, g15, hrun⟩ := hrun
        refine h_iald S hK (kd := 0) rfl hw g15 d_MacroExpandModel_nameOf_15 ?_
        refine lv_iload_n hx hb d_MacroExpandModel_nameOf_16 rfl (lv_at hl 2 rfl) ?_
        refine lv_icmp_ne (tgt := 24) hx hb d_MacroExpandModel_nameOf_17 (by decide) (fun c17 => ?_) (fun c17 => ?_)
        · rw [if_neg c17] at hrun
          refine lv_iconst (v := (0 : Int32)) hx hb d_MacroExpandModel_nameOf_24 (by decide) ?_
          exact j_25 x1 x2 x3 (0 : Int32) _ _ h _ _ _ hrun hw hS (lv_sub hl [0, 1, 2, 3] rfl) K0 K1 K2
        · rw [if_pos c17] at hrun
          refine lv_iconst (v := (1 : Int32)) hx hb d_MacroExpandModel_nameOf_20 (by decide) ?_
          refine lv_goto (tgt := 25) hx hb d_MacroExpandModel_nameOf_21 (by decide) ?_
          exact j_25 x1 x2 x3 (1 : Int32) _ _ h _ _ _ hrun hw hS (lv_sub hl [0, 1, 2, 3] rfl) K0 K1 K2
  unfold f_MacroExpandModel_nameOf at hrun
  refine lv_iconst (v := (0 : Int32)) hx hb d_MacroExpandModel_nameOf_0 (by decide) ?_
  refine lv_istore_n (lv' := [(3, .int (0 : Int32)), (0, .ref a0), (1, .int i1), (2, .int i2)]) hx hb d_MacroExpandModel_nameOf_1 rfl hl (by decide) rfl (fun ls hl => ?_)
  replace hrun := hbW_some hrun
  obtain ⟨b2, h2l, g2, hrun⟩ := hrun
  refine l_2 i1 i2 n (0 : Int32) h _ _ _ _ _ g2 hw hS (lv_sub hl [1, 2, 3, 0] rfl) ?_ ?_
  · rintro x3_2 eq9 H locs ls hw hS hl
    obtain rfl := eq9.symm
    try dsimp only at hrun
    refine lv_sipush (v := (1100 : Int32)) hx hb d_MacroExpandModel_nameOf_86 (by decide) ?_
    refine lv_iload_n hx hb d_MacroExpandModel_nameOf_89 rfl (lv_at hl 0 rfl) ?_
    refine lv_iadd hx hb d_MacroExpandModel_nameOf_90 ?_
    cases hrun
    exact W.iret hx hb hr (fun t ht hW9 => ⟨⟨_, (), rfl, rfl, by show hW D dA classes b0 _ _ t.heap; rw [ht]; exact hw⟩, hS.F ht⟩) hS.2.2 d_MacroExpandModel_nameOf_91
  · rintro  eq9 H locs ls hw hS hl
    obtain rfl := eq9.symm
    try dsimp only at hrun
    refine lv_aload_n hx hb d_MacroExpandModel_nameOf_98 rfl (lv_at hl 0 rfl) ?_
    replace hrun := hb_some hrun
    obtain ⟨v99, g99, hrun⟩ := hrun
    refine h_getI S (fun w q => hT w (i_MacroExpandModel w q)) hK (ci := 1) rfl 16 (by decide) (hT _ fl_MacroExpandModel_172) hw g99 d_MacroExpandModel_nameOf_99 ?_
    refine lv_bipush (v := (100 : Int32)) hx hb d_MacroExpandModel_nameOf_102 (by decide) ?_
    refine lv_icmp_ne (tgt := 115) hx hb d_MacroExpandModel_nameOf_104 (by decide) (fun c104 => ?_) (fun c104 => ?_)
    · rw [if_neg c104] at hrun
      refine lv_iconst (v := (0 : Int32)) hx hb d_MacroExpandModel_nameOf_115 (by decide) ?_
      refine lv_istore_n (lv' := [(3, .int (0 : Int32)), (0, .ref a0), (1, .int i1), (2, .int i2)]) hx hb d_MacroExpandModel_nameOf_116 rfl hl (by decide) rfl (fun ls hl => ?_)
      replace hrun := hbW_some hrun
      obtain ⟨b117, h117l, g117, hrun⟩ := hrun
      refine l_117 i1 i2 n (0 : Int32) h2l _ _ _ _ _ g117 hw hS (lv_sub hl [1, 2, 3, 0] rfl) ?_
      · rintro  eq9 H locs ls hw hS hl
        obtain rfl := eq9.symm
        try dsimp only at hrun
        refine lv_aload_n hx hb d_MacroExpandModel_nameOf_153 rfl (lv_at hl 0 rfl) ?_
        replace hrun := hb_some hrun
        obtain ⟨v154, g154, hrun⟩ := hrun
        refine h_getR S (fun w q => hT w (i_MacroExpandModel w q)) hK (ci := 1) rfl 17 (by decide) (hT _ fl_MacroExpandModel_41) hw g154 d_MacroExpandModel_nameOf_154 ?_
        refine lv_aload_n hx hb d_MacroExpandModel_nameOf_157 rfl (lv_at hl 0 rfl) ?_
        replace hrun := hb_some hrun
        obtain ⟨v158, g158, hrun⟩ := hrun
        refine h_getI S (fun w q => hT w (i_MacroExpandModel w q)) hK (ci := 1) rfl 16 (by decide) (hT _ fl_MacroExpandModel_172) hw g158 d_MacroExpandModel_nameOf_158 ?_
        refine lv_iload_n hx hb d_MacroExpandModel_nameOf_161 rfl (lv_at hl 1 rfl) ?_
        replace hrun := hb_some hrun
        obtain ⟨p162, rfl, hrun⟩ := hrun
        replace hrun := hb_some hrun
        obtain ⟨h162, g162, hrun⟩ := hrun
        refine h_iast S hK (kd := 0) rfl hw hS g162 d_MacroExpandModel_nameOf_162 (fun H locs hw hS => ?_)
        refine lv_aload_n hx hb d_MacroExpandModel_nameOf_163 rfl (lv_at hl 0 rfl) ?_
        refine lv_dup hx hb d_MacroExpandModel_nameOf_164 rfl ?_
        replace hrun := hb_some hrun
        obtain ⟨v165, g165, hrun⟩ := hrun
        refine h_getI S (fun w q => hT w (i_MacroExpandModel w q)) hK (ci := 1) rfl 16 (by decide) (hT _ fl_MacroExpandModel_172) hw g165 d_MacroExpandModel_nameOf_165 ?_
        refine lv_iconst (v := (1 : Int32)) hx hb d_MacroExpandModel_nameOf_168 (by decide) ?_
        refine lv_iadd hx hb d_MacroExpandModel_nameOf_169 ?_
        replace hrun := hb_some hrun
        obtain ⟨h170, g170, hrun⟩ := hrun
        refine h_put S (fun w q => hT w (i_MacroExpandModel w q)) t_MacroExpandModel t_MacroExpandModel_ok n_MacroExpandModel hK (ci := 1) rfl 16 (by decide) (hT _ fl_MacroExpandModel_172) rfl rfl rfl hw hS g170 d_MacroExpandModel_nameOf_170 (fun H locs hw hS => ?_)
        refine lv_sipush (v := (1099 : Int32)) hx hb d_MacroExpandModel_nameOf_173 (by decide) ?_
        refine lv_aload_n hx hb d_MacroExpandModel_nameOf_176 rfl (lv_at hl 0 rfl) ?_
        replace hrun := hb_some hrun
        obtain ⟨v177, g177, hrun⟩ := hrun
        refine h_getI S (fun w q => hT w (i_MacroExpandModel w q)) hK (ci := 1) rfl 16 (by decide) (hT _ fl_MacroExpandModel_172) hw g177 d_MacroExpandModel_nameOf_177 ?_
        refine lv_iadd hx hb d_MacroExpandModel_nameOf_180 ?_
        cases hrun
        exact W.iret hx hb hr (fun t ht hW9 => ⟨⟨_, (), rfl, rfl, by show hW D dA classes b0 _ _ t.heap; rw [ht]; exact hw⟩, hS.F ht⟩) hS.2.2 d_MacroExpandModel_nameOf_181
    · rw [if_pos c104] at hrun
      refine lv_aload_n hx hb d_MacroExpandModel_nameOf_107 rfl (lv_at hl 0 rfl) ?_
      refine lv_bipush (v := (8 : Int32)) hx hb d_MacroExpandModel_nameOf_108 (by decide) ?_
      replace hrun := hb_some hrun
      obtain ⟨c110, k110, hrun⟩ := hrun
      replace hrun := hbW_some hrun
      obtain ⟨_u110, h110, g110, hrun⟩ := hrun
      refine h_cv (h_runV S (As := [.int (8 : Int32)]) (rest := []) (c_MacroExpandModel_mark l D dA b0 a0 (8 : Int32) nx g110) (cwV 1 S.2.2.2.2 (h_good _ (h_in4 ml_MacroExpandModel_123 im_MacroExpandModel_mark se_MacroExpandModel_mark it_MacroExpandModel) cd_MacroExpandModel_mark) rfl rfl rfl (by decide +kernel) ⟨Nat.le_of_ble_eq_true rfl, Nat.le_of_ble_eq_true rfl⟩) hK hN hw (ci := 1) rfl k110 rfl hl.1 (lv_room (Nat.le_of_ble_eq_true rfl)) d_MacroExpandModel_nameOf_110 ⟨Nat.le_refl _, Nat.le_refl _⟩) hS (fun H locs hw hS => ?_)
      refine lv_iconst (v := (0 : Int32)) hx hb d_MacroExpandModel_nameOf_113 (by decide) ?_
      cases hrun
      exact W.iret hx hb hr (fun t ht hW9 => ⟨⟨_, (), rfl, rfl, by show hW D dA classes b0 _ _ t.heap; rw [ht]; exact hw⟩, hS.F ht⟩) hS.2.2 d_MacroExpandModel_nameOf_114
set_option maxHeartbeats 4000000 in
set_option maxRecDepth 100000 in
theorem c_MacroExpandModel_pile (l : Launch) (D : va_G) (dA : Nat → ClassId) (b0 : Nat) (a0 : Nat) (i1 : Int32) (i2 : Int32) (nx : Nat) {h h' : hH} {r : Unit} (hrun : f_MacroExpandModel_pile a0 i1 i2 h = some (r, h')) : Met l y_MacroExpandModel_pile w_MacroExpandModel_pile ({ frames := 0, cells := 0, slots := 0, locals := 0 } : Room) (va_Pc [.ref a0, .int i1, .int i2] (hB D dA b0 nx h)) (va_Qv (fun (_ : Unit) => True) (fun (_ : Unit) t => hW D dA classes b0 nx h' t.heap) (hA b0)) 0 0 (hA b0) := by
  refine Met.ofW (cc := b_MacroExpandModel_pile) (maxL := 3) (ret := none) (by decide) rfl ?_
  intro p e s m args below meth c s₁ B hml hv
  obtain ⟨rfl, hw, hK, hN⟩ := hv
  have hx := B.exec
  have hb := B.bytes
  have hr := B.returns
  have hlocks := B.notSynchronized
  have S : CallFix p m c b_MacroExpandModel_pile 3 s ([.ref a0, .int i1, .int i2] : List Value).toArray w_MacroExpandModel_pile R_MacroExpandModel := ⟨hx, hb, hml, findClass_of_methodNamed B.named, atoms_spec (ws := w_MacroExpandModel_pile) B.pre⟩
  have hT : ∀ w ∈ tbl, w ∈ w_MacroExpandModel_pile := fun _ q => List.mem_cons_of_mem _ q
  have hS : va_S (hA b0) s.heap s.heap [] := va_S.rf
  have hl := lv_entry ([.ref a0, .int i1, .int i2]) (n := 3) (Nat.le_of_ble_eq_true rfl)
  rw [lg_entry_eq]
  generalize (lg_sl ([.ref a0, .int i1, .int i2]) ++ List.replicate (3 - (lg_sl ([.ref a0, .int i1, .int i2])).length) Slot.unset).toArray = ls at hl ⊢
  have hl : lv_has ls 3 [(0, .ref a0), (1, .int i1), (2, .int i2)] := hl
  unfold f_MacroExpandModel_pile at hrun
  refine lv_aload_n hx hb d_MacroExpandModel_pile_0 rfl (lv_at hl 0 rfl) ?_
  replace hrun := hb_some hrun
  obtain ⟨v1, g1, hrun⟩ := hrun
  refine h_getR S (fun w q => hT w (i_MacroExpandModel w q)) hK (ci := 1) rfl 29 (by decide) (hT _ fl_MacroExpandModel_59) hw g1 d_MacroExpandModel_pile_1 ?_
  refine lv_aload_n hx hb d_MacroExpandModel_pile_4 rfl (lv_at hl 0 rfl) ?_
  replace hrun := hb_some hrun
  obtain ⟨v5, g5, hrun⟩ := hrun
  refine h_getI S (fun w q => hT w (i_MacroExpandModel w q)) hK (ci := 1) rfl 28 (by decide) (hT _ fl_MacroExpandModel_139) hw g5 d_MacroExpandModel_pile_5 ?_
  refine lv_iload_n hx hb d_MacroExpandModel_pile_8 rfl (lv_at hl 1 rfl) ?_
  replace hrun := hb_some hrun
  obtain ⟨p9, rfl, hrun⟩ := hrun
  replace hrun := hb_some hrun
  obtain ⟨h9, g9, hrun⟩ := hrun
  refine h_iast S hK (kd := 0) rfl hw hS g9 d_MacroExpandModel_pile_9 (fun H locs hw hS => ?_)
  refine lv_aload_n hx hb d_MacroExpandModel_pile_10 rfl (lv_at hl 0 rfl) ?_
  replace hrun := hb_some hrun
  obtain ⟨v11, g11, hrun⟩ := hrun
  refine h_getR S (fun w q => hT w (i_MacroExpandModel w q)) hK (ci := 1) rfl 30 (by decide) (hT _ fl_MacroExpandModel_62) hw g11 d_MacroExpandModel_pile_11 ?_
  refine lv_aload_n hx hb d_MacroExpandModel_pile_14 rfl (lv_at hl 0 rfl) ?_
  replace hrun := hb_some hrun
  obtain ⟨v15, g15, hrun⟩ := hrun
  refine h_getI S (fun w q => hT w (i_MacroExpandModel w q)) hK (ci := 1) rfl 28 (by decide) (hT _ fl_MacroExpandModel_139) hw g15 d_MacroExpandModel_pile_15 ?_
  refine lv_iload_n hx hb d_MacroExpandModel_pile_18 rfl (lv_at hl 2 rfl) ?_
  replace hrun := hb_some hrun
  obtain ⟨p19, rfl, hrun⟩ := hrun
  replace hrun := hb_some hrun
  obtain ⟨h19, g19, hrun⟩ := hrun
  refine h_iast S hK (kd := 0) rfl hw hS g19 d_MacroExpandModel_pile_19 (fun H locs hw hS => ?_)
  refine lv_aload_n hx hb d_MacroExpandModel_pile_20 rfl (lv_at hl 0 rfl) ?_
  replace hrun := hb_some hrun
  obtain ⟨v21, g21, hrun⟩ := hrun
  refine h_getR S (fun w q => hT w (i_MacroExpandModel w q)) hK (ci := 1) rfl 31 (by decide) (hT _ fl_MacroExpandModel_65) hw g21 d_MacroExpandModel_pile_21 ?_
  refine lv_aload_n hx hb d_MacroExpandModel_pile_24 rfl (lv_at hl 0 rfl) ?_
  replace hrun := hb_some hrun
  obtain ⟨v25, g25, hrun⟩ := hrun
  refine h_getI S (fun w q => hT w (i_MacroExpandModel w q)) hK (ci := 1) rfl 28 (by decide) (hT _ fl_MacroExpandModel_139) hw g25 d_MacroExpandModel_pile_25 ?_
  refine lv_iconst (v := (0 : Int32)) hx hb d_MacroExpandModel_pile_28 (by decide) ?_
  replace hrun := hb_some hrun
  obtain ⟨p29, rfl, hrun⟩ := hrun
  replace hrun := hb_some hrun
  obtain ⟨h29, g29, hrun⟩ := hrun
  refine h_iast S hK (kd := 0) rfl hw hS g29 d_MacroExpandModel_pile_29 (fun H locs hw hS => ?_)
  refine lv_aload_n hx hb d_MacroExpandModel_pile_30 rfl (lv_at hl 0 rfl) ?_
  refine lv_dup hx hb d_MacroExpandModel_pile_31 rfl ?_
  replace hrun := hb_some hrun
  obtain ⟨v32, g32, hrun⟩ := hrun
  refine h_getI S (fun w q => hT w (i_MacroExpandModel w q)) hK (ci := 1) rfl 28 (by decide) (hT _ fl_MacroExpandModel_139) hw g32 d_MacroExpandModel_pile_32 ?_
  refine lv_iconst (v := (1 : Int32)) hx hb d_MacroExpandModel_pile_35 (by decide) ?_
  refine lv_iadd hx hb d_MacroExpandModel_pile_36 ?_
  replace hrun := hb_some hrun
  obtain ⟨h37, g37, hrun⟩ := hrun
  refine h_put S (fun w q => hT w (i_MacroExpandModel w q)) t_MacroExpandModel t_MacroExpandModel_ok n_MacroExpandModel hK (ci := 1) rfl 28 (by decide) (hT _ fl_MacroExpandModel_139) rfl rfl rfl hw hS g37 d_MacroExpandModel_pile_37 (fun H locs hw hS => ?_)
  cases hrun
  exact W.vret hx hb hr (fun t ht hW9 => ⟨⟨(), rfl, trivial, by show hW D dA classes b0 _ _ t.heap; rw [ht]; exact hw⟩, hS.F ht⟩) hS.2.2 d_MacroExpandModel_pile_40
set_option maxHeartbeats 4000000 in
set_option maxRecDepth 100000 in
theorem c_MacroExpandModel_start (l : Launch) (D : va_G) (dA : Nat → ClassId) (b0 : Nat) (n : Nat) (a0 : Nat) (i1 : Int32) (nx : Nat) {h h' : hH} {r : Unit} (hrun : f_MacroExpandModel_start n a0 i1 h = some (r, h')) : Met l y_MacroExpandModel_start w_MacroExpandModel_start ({ frames := 6, cells := 0, slots := 0, locals := 147 } : Room) (va_Pc [.ref a0, .int i1] (hB D dA b0 nx h)) (va_Qv (fun (_ : Unit) => True) (fun (_ : Unit) t => hW D dA classes b0 nx h' t.heap) (hA b0)) 0 0 (hA b0) := by
  refine Met.ofW (cc := b_MacroExpandModel_start) (maxL := 5) (ret := none) (by decide) rfl ?_
  intro p e s m args below meth c s₁ B hml hv
  obtain ⟨rfl, hw, hK, hN⟩ := hv
  have hx := B.exec
  have hb := B.bytes
  have hr := B.returns
  have hlocks := B.notSynchronized
  have S : CallFix p m c b_MacroExpandModel_start 5 s ([.ref a0, .int i1] : List Value).toArray w_MacroExpandModel_start R_MacroExpandModel := ⟨hx, hb, hml, findClass_of_methodNamed B.named, atoms_spec (ws := w_MacroExpandModel_start) B.pre⟩
  have hT : ∀ w ∈ tbl, w ∈ w_MacroExpandModel_start := fun _ q => List.mem_cons_of_mem _ q
  have hS : va_S (hA b0) s.heap s.heap [] := va_S.rf
  have hl := lv_entry ([.ref a0, .int i1]) (n := 5) (Nat.le_of_ble_eq_true rfl)
  rw [lg_entry_eq]
  generalize (lg_sl ([.ref a0, .int i1]) ++ List.replicate (5 - (lg_sl ([.ref a0, .int i1])).length) Slot.unset).toArray = ls at hl ⊢
  have hl : lv_has ls 5 [(0, .ref a0), (1, .int i1)] := hl
  have l_4 : ∀ (n9 : Nat) (x9 : Int32 × Int32) (h : hH) (b9 : (Unit) ⊕ (Unit) ⊕ (Unit) ⊕ (Unit) ⊕ (Unit) ⊕ (Unit)) (h9 : hH) (H : Heap) (locs : List Loc) (ls : Array Slot), hloopW (f_MacroExpandModel_start_b4 n a0) n9 x9 h = some (b9, h9) → hW D dA classes b0 nx h H → va_S (hA b0) s.heap H locs → lv_has ls 5 (match x9 with | (x2, x3) => [(0, .ref a0), (2, .int x2), (3, .int x3)]) → (b9 = .inl () → ∀ (H : Heap) (locs : List Loc) (ls : Array Slot), hW D dA classes b0 nx h9 H → va_S (hA b0) s.heap H locs → lv_has ls 5 [(0, .ref a0)] → W p l e (headSpec w_MacroExpandModel_start ({ frames := 6, cells := 0, slots := 0, locals := 147 } : Room)).room s m ([.ref a0, .int i1] : List Value).toArray below meth c H locs 0 0 (MQ below (va_Qv (fun (_ : Unit) => True) (fun (_ : Unit) t => hW D dA classes b0 nx h' t.heap) (hA b0)) ([.ref a0, .int i1] : List Value).toArray s 0 0 (hA b0)) (F0 m 28 ls [])) → (b9 = .inr (.inl ()) → ∀ (H : Heap) (locs : List Loc) (ls : Array Slot), hW D dA classes b0 nx h9 H → va_S (hA b0) s.heap H locs → lv_has ls 5 [(0, .ref a0)] → W p l e (headSpec w_MacroExpandModel_start ({ frames := 6, cells := 0, slots := 0, locals := 147 } : Room)).room s m ([.ref a0, .int i1] : List Value).toArray below meth c H locs 0 0 (MQ below (va_Qv (fun (_ : Unit) => True) (fun (_ : Unit) t => hW D dA classes b0 nx h' t.heap) (hA b0)) ([.ref a0, .int i1] : List Value).toArray s 0 0 (hA b0)) (F0 m 69 ls [])) → (b9 = .inr (.inr (.inl ())) → ∀ (H : Heap) (locs : List Loc) (ls : Array Slot), hW D dA classes b0 nx h9 H → va_S (hA b0) s.heap H locs → lv_has ls 5 [(0, .ref a0)] → W p l e (headSpec w_MacroExpandModel_start ({ frames := 6, cells := 0, slots := 0, locals := 147 } : Room)).room s m ([.ref a0, .int i1] : List Value).toArray below meth c H locs 0 0 (MQ below (va_Qv (fun (_ : Unit) => True) (fun (_ : Unit) t => hW D dA classes b0 nx h' t.heap) (hA b0)) ([.ref a0, .int i1] : List Value).toArray s 0 0 (hA b0)) (F0 m 107 ls [])) → (b9 = .inr (.inr (.inr (.inl ()))) → ∀ (H : Heap) (locs : List Loc) (ls : Array Slot), hW D dA classes b0 nx h9 H → va_S (hA b0) s.heap H locs → lv_has ls 5 [(0, .ref a0)] → W p l e (headSpec w_MacroExpandModel_start ({ frames := 6, cells := 0, slots := 0, locals := 147 } : Room)).room s m ([.ref a0, .int i1] : List Value).toArray below meth c H locs 0 0 (MQ below (va_Qv (fun (_ : Unit) => True) (fun (_ : Unit) t => hW D dA classes b0 nx h' t.heap) (hA b0)) ([.ref a0, .int i1] : List Value).toArray s 0 0 (hA b0)) (F0 m 122 ls [])) → (b9 = .inr (.inr (.inr (.inr (.inl ())))) → ∀ (H : Heap) (locs : List Loc) (ls : Array Slot), hW D dA classes b0 nx h9 H → va_S (hA b0) s.heap H locs → lv_has ls 5 [(0, .ref a0)] → W p l e (headSpec w_MacroExpandModel_start ({ frames := 6, cells := 0, slots := 0, locals := 147 } : Room)).room s m ([.ref a0, .int i1] : List Value).toArray below meth c H locs 0 0 (MQ below (va_Qv (fun (_ : Unit) => True) (fun (_ : Unit) t => hW D dA classes b0 nx h' t.heap) (hA b0)) ([.ref a0, .int i1] : List Value).toArray s 0 0 (hA b0)) (F0 m 183 ls [])) → (b9 = .inr (.inr (.inr (.inr (.inr (()))))) → ∀ (H : Heap) (locs : List Loc) (ls : Array Slot), hW D dA classes b0 nx h9 H → va_S (hA b0) s.heap H locs → lv_has ls 5 [] → W p l e (headSpec w_MacroExpandModel_start ({ frames := 6, cells := 0, slots := 0, locals := 147 } : Room)).room s m ([.ref a0, .int i1] : List Value).toArray below meth c H locs 0 0 (MQ below (va_Qv (fun (_ : Unit) => True) (fun (_ : Unit) t => hW D dA classes b0 nx h' t.heap) (hA b0)) ([.ref a0, .int i1] : List Value).toArray s 0 0 (hA b0)) (F0 m 225 ls [])) → W p l e (headSpec w_MacroExpandModel_start ({ frames := 6, cells := 0, slots := 0, locals := 147 } : Room)).room s m ([.ref a0, .int i1] : List Value).toArray below meth c H locs 0 0 (MQ below (va_Qv (fun (_ : Unit) => True) (fun (_ : Unit) t => hW D dA classes b0 nx h' t.heap) (hA b0)) ([.ref a0, .int i1] : List Value).toArray s 0 0 (hA b0)) (F0 m 4 ls []) := by
    intro  n9
    induction n9 with
    | zero =>
      intro x9 h b9 h9 H locs ls hrun
      cases hrun
    | succ n9 ih =>
      rintro ⟨x2, x3⟩ h b9 h9 H locs ls hrun hw hS hl k0 k1 k2 k3 k4 k5
      have hl : lv_has ls 5 [(0, .ref a0), (2, .int x2), (3, .int x3)] := hl
      unfold hloopW at hrun
      obtain ⟨q9, h9b, hbody, hrun9⟩ := hbW_some hrun
      have K0 : (∀ (z2 : Int32) (z3 : Int32), q9 = .inl (z2, z3) → ∀ (H : Heap) (locs : List Loc) (ls : Array Slot), hW D dA classes b0 nx h9b H → va_S (hA b0) s.heap H locs → lv_has ls 5 [(0, .ref a0), (2, .int z2), (3, .int z3)] → W p l e (headSpec w_MacroExpandModel_start ({ frames := 6, cells := 0, slots := 0, locals := 147 } : Room)).room s m ([.ref a0, .int i1] : List Value).toArray below meth c H locs 0 0 (MQ below (va_Qv (fun (_ : Unit) => True) (fun (_ : Unit) t => hW D dA classes b0 nx h' t.heap) (hA b0)) ([.ref a0, .int i1] : List Value).toArray s 0 0 (hA b0)) (F0 m 4 ls [])) := by
        intro z2 z3 eq9 H locs ls hw hS hl
        subst eq9
        exact ih (z2, z3) h9b b9 h9 H locs ls hrun9 hw hS hl k0 k1 k2 k3 k4 k5
      have K1 : (q9 = .inr (.inl ()) → ∀ (H : Heap) (locs : List Loc) (ls : Array Slot), hW D dA classes b0 nx h9b H → va_S (hA b0) s.heap H locs → lv_has ls 5 [(0, .ref a0)] → W p l e (headSpec w_MacroExpandModel_start ({ frames := 6, cells := 0, slots := 0, locals := 147 } : Room)).room s m ([.ref a0, .int i1] : List Value).toArray below meth c H locs 0 0 (MQ below (va_Qv (fun (_ : Unit) => True) (fun (_ : Unit) t => hW D dA classes b0 nx h' t.heap) (hA b0)) ([.ref a0, .int i1] : List Value).toArray s 0 0 (hA b0)) (F0 m 28 ls [])) := by
        intro  eq9 H locs ls hw hS hl
        subst eq9
        cases hrun9
        exact k0  rfl H locs ls hw hS hl
      have K2 : (q9 = .inr (.inr (.inl ())) → ∀ (H : Heap) (locs : List Loc) (ls : Array Slot), hW D dA classes b0 nx h9b H → va_S (hA b0) s.heap H locs → lv_has ls 5 [(0, .ref a0)] → W p l e (headSpec w_MacroExpandModel_start ({ frames := 6, cells := 0, slots := 0, locals := 147 } : Room)).room s m ([.ref a0, .int i1] : List Value).toArray below meth c H locs 0 0 (MQ below (va_Qv (fun (_ : Unit) => True) (fun (_ : Unit) t => hW D dA classes b0 nx h' t.heap) (hA b0)) ([.ref a0, .int i1] : List Value).toArray s 0 0 (hA b0)) (F0 m 69 ls [])) := by
        intro  eq9 H locs ls hw hS hl
        subst eq9
        cases hrun9
        exact k1  rfl H locs ls hw hS hl
      have K3 : (q9 = .inr (.inr (.inr (.inl ()))) → ∀ (H : Heap) (locs : List Loc) (ls : Array Slot), hW D dA classes b0 nx h9b H → va_S (hA b0) s.heap H locs → lv_has ls 5 [(0, .ref a0)] → W p l e (headSpec w_MacroExpandModel_start ({ frames := 6, cells := 0, slots := 0, locals := 147 } : Room)).room s m ([.ref a0, .int i1] : List Value).toArray below meth c H locs 0 0 (MQ below (va_Qv (fun (_ : Unit) => True) (fun (_ : Unit) t => hW D dA classes b0 nx h' t.heap) (hA b0)) ([.ref a0, .int i1] : List Value).toArray s 0 0 (hA b0)) (F0 m 107 ls [])) := by
        intro  eq9 H locs ls hw hS hl
        subst eq9
        cases hrun9
        exact k2  rfl H locs ls hw hS hl
      have K4 : (q9 = .inr (.inr (.inr (.inr (.inl ())))) → ∀ (H : Heap) (locs : List Loc) (ls : Array Slot), hW D dA classes b0 nx h9b H → va_S (hA b0) s.heap H locs → lv_has ls 5 [(0, .ref a0)] → W p l e (headSpec w_MacroExpandModel_start ({ frames := 6, cells := 0, slots := 0, locals := 147 } : Room)).room s m ([.ref a0, .int i1] : List Value).toArray below meth c H locs 0 0 (MQ below (va_Qv (fun (_ : Unit) => True) (fun (_ : Unit) t => hW D dA classes b0 nx h' t.heap) (hA b0)) ([.ref a0, .int i1] : List Value).toArray s 0 0 (hA b0)) (F0 m 122 ls [])) := by
        intro  eq9 H locs ls hw hS hl
        subst eq9
        cases hrun9
        exact k3  rfl H locs ls hw hS hl
      have K5 : (q9 = .inr (.inr (.inr (.inr (.inr (.inl ()))))) → ∀ (H : Heap) (locs : List Loc) (ls : Array Slot), hW D dA classes b0 nx h9b H → va_S (hA b0) s.heap H locs → lv_has ls 5 [(0, .ref a0)] → W p l e (headSpec w_MacroExpandModel_start ({ frames := 6, cells := 0, slots := 0, locals := 147 } : Room)).room s m ([.ref a0, .int i1] : List Value).toArray below meth c H locs 0 0 (MQ below (va_Qv (fun (_ : Unit) => True) (fun (_ : Unit) t => hW D dA classes b0 nx h' t.heap) (hA b0)) ([.ref a0, .int i1] : List Value).toArray s 0 0 (hA b0)) (F0 m 183 ls [])) := by
        intro  eq9 H locs ls hw hS hl
        subst eq9
        cases hrun9
        exact k4  rfl H locs ls hw hS hl
      have K6 : (q9 = .inr (.inr (.inr (.inr (.inr (.inr (())))))) → ∀ (H : Heap) (locs : List Loc) (ls : Array Slot), hW D dA classes b0 nx h9b H → va_S (hA b0) s.heap H locs → lv_has ls 5 [] → W p l e (headSpec w_MacroExpandModel_start ({ frames := 6, cells := 0, slots := 0, locals := 147 } : Room)).room s m ([.ref a0, .int i1] : List Value).toArray below meth c H locs 0 0 (MQ below (va_Qv (fun (_ : Unit) => True) (fun (_ : Unit) t => hW D dA classes b0 nx h' t.heap) (hA b0)) ([.ref a0, .int i1] : List Value).toArray s 0 0 (hA b0)) (F0 m 225 ls [])) := by
        intro  eq9 H locs ls hw hS hl
        subst eq9
        cases hrun9
        exact k5  rfl H locs ls hw hS hl
      clear hrun hrun9 ih k0 k1 k2 k3 k4 k5
      have hrun := hbody
      clear hbody
      have j_222 : ∀  (x2 : Int32) (x3 : Int32) (q9 : (Int32 × Int32) ⊕ ((Unit) ⊕ (Unit) ⊕ (Unit) ⊕ (Unit) ⊕ (Unit) ⊕ (Unit))) (h9 : hH) (h : hH) (H : Heap) (locs : List Loc) (ls : Array Slot), f_MacroExpandModel_start_j222 n a0 x2 x3 h = some (q9, h9) → hW D dA classes b0 nx h H → va_S (hA b0) s.heap H locs → lv_has ls 5 [(0, .ref a0), (2, .int x2), (3, .int x3)] → (∀ (z2 : Int32) (z3 : Int32), q9 = .inl (z2, z3) → ∀ (H : Heap) (locs : List Loc) (ls : Array Slot), hW D dA classes b0 nx h9 H → va_S (hA b0) s.heap H locs → lv_has ls 5 [(0, .ref a0), (2, .int z2), (3, .int z3)] → W p l e (headSpec w_MacroExpandModel_start ({ frames := 6, cells := 0, slots := 0, locals := 147 } : Room)).room s m ([.ref a0, .int i1] : List Value).toArray below meth c H locs 0 0 (MQ below (va_Qv (fun (_ : Unit) => True) (fun (_ : Unit) t => hW D dA classes b0 nx h' t.heap) (hA b0)) ([.ref a0, .int i1] : List Value).toArray s 0 0 (hA b0)) (F0 m 4 ls [])) → (q9 = .inr (.inl ()) → ∀ (H : Heap) (locs : List Loc) (ls : Array Slot), hW D dA classes b0 nx h9 H → va_S (hA b0) s.heap H locs → lv_has ls 5 [(0, .ref a0)] → W p l e (headSpec w_MacroExpandModel_start ({ frames := 6, cells := 0, slots := 0, locals := 147 } : Room)).room s m ([.ref a0, .int i1] : List Value).toArray below meth c H locs 0 0 (MQ below (va_Qv (fun (_ : Unit) => True) (fun (_ : Unit) t => hW D dA classes b0 nx h' t.heap) (hA b0)) ([.ref a0, .int i1] : List Value).toArray s 0 0 (hA b0)) (F0 m 28 ls [])) → (q9 = .inr (.inr (.inl ())) → ∀ (H : Heap) (locs : List Loc) (ls : Array Slot), hW D dA classes b0 nx h9 H → va_S (hA b0) s.heap H locs → lv_has ls 5 [(0, .ref a0)] → W p l e (headSpec w_MacroExpandModel_start ({ frames := 6, cells := 0, slots := 0, locals := 147 } : Room)).room s m ([.ref a0, .int i1] : List Value).toArray below meth c H locs 0 0 (MQ below (va_Qv (fun (_ : Unit) => True) (fun (_ : Unit) t => hW D dA classes b0 nx h' t.heap) (hA b0)) ([.ref a0, .int i1] : List Value).toArray s 0 0 (hA b0)) (F0 m 69 ls [])) → (q9 = .inr (.inr (.inr (.inl ()))) → ∀ (H : Heap) (locs : List Loc) (ls : Array Slot), hW D dA classes b0 nx h9 H → va_S (hA b0) s.heap H locs → lv_has ls 5 [(0, .ref a0)] → W p l e (headSpec w_MacroExpandModel_start ({ frames := 6, cells := 0, slots := 0, locals := 147 } : Room)).room s m ([.ref a0, .int i1] : List Value).toArray below meth c H locs 0 0 (MQ below (va_Qv (fun (_ : Unit) => True) (fun (_ : Unit) t => hW D dA classes b0 nx h' t.heap) (hA b0)) ([.ref a0, .int i1] : List Value).toArray s 0 0 (hA b0)) (F0 m 107 ls [])) → (q9 = .inr (.inr (.inr (.inr (.inl ())))) → ∀ (H : Heap) (locs : List Loc) (ls : Array Slot), hW D dA classes b0 nx h9 H → va_S (hA b0) s.heap H locs → lv_has ls 5 [(0, .ref a0)] → W p l e (headSpec w_MacroExpandModel_start ({ frames := 6, cells := 0, slots := 0, locals := 147 } : Room)).room s m ([.ref a0, .int i1] : List Value).toArray below meth c H locs 0 0 (MQ below (va_Qv (fun (_ : Unit) => True) (fun (_ : Unit) t => hW D dA classes b0 nx h' t.heap) (hA b0)) ([.ref a0, .int i1] : List Value).toArray s 0 0 (hA b0)) (F0 m 122 ls [])) → (q9 = .inr (.inr (.inr (.inr (.inr (.inl ()))))) → ∀ (H : Heap) (locs : List Loc) (ls : Array Slot), hW D dA classes b0 nx h9 H → va_S (hA b0) s.heap H locs → lv_has ls 5 [(0, .ref a0)] → W p l e (headSpec w_MacroExpandModel_start ({ frames := 6, cells := 0, slots := 0, locals := 147 } : Room)).room s m ([.ref a0, .int i1] : List Value).toArray below meth c H locs 0 0 (MQ below (va_Qv (fun (_ : Unit) => True) (fun (_ : Unit) t => hW D dA classes b0 nx h' t.heap) (hA b0)) ([.ref a0, .int i1] : List Value).toArray s 0 0 (hA b0)) (F0 m 183 ls [])) → (q9 = .inr (.inr (.inr (.inr (.inr (.inr (())))))) → ∀ (H : Heap) (locs : List Loc) (ls : Array Slot), hW D dA classes b0 nx h9 H → va_S (hA b0) s.heap H locs → lv_has ls 5 [] → W p l e (headSpec w_MacroExpandModel_start ({ frames := 6, cells := 0, slots := 0, locals := 147 } : Room)).room s m ([.ref a0, .int i1] : List Value).toArray below meth c H locs 0 0 (MQ below (va_Qv (fun (_ : Unit) => True) (fun (_ : Unit) t => hW D dA classes b0 nx h' t.heap) (hA b0)) ([.ref a0, .int i1] : List Value).toArray s 0 0 (hA b0)) (F0 m 225 ls [])) → W p l e (headSpec w_MacroExpandModel_start ({ frames := 6, cells := 0, slots := 0, locals := 147 } : Room)).room s m ([.ref a0, .int i1] : List Value).toArray below meth c H locs 0 0 (MQ below (va_Qv (fun (_ : Unit) => True) (fun (_ : Unit) t => hW D dA classes b0 nx h' t.heap) (hA b0)) ([.ref a0, .int i1] : List Value).toArray s 0 0 (hA b0)) (F0 m 222 ls []) := by
        intro x2 x3 q9 h9 h H locs ls hrun hw hS hl k0 k1 k2 k3 k4 k5 k6
        unfold f_MacroExpandModel_start_j222 at hrun
        refine lv_goto (tgt := 4) hx hb d_MacroExpandModel_start_222 (by decide) ?_
        cases hrun
        exact k0 x2 x3 rfl H locs ls hw hS (lv_sub hl [0, 1, 2] rfl)
      dsimp only [f_MacroExpandModel_start_b4] at hrun
      refine lv_iload_n hx hb d_MacroExpandModel_start_4 rfl (lv_at hl 2 rfl) ?_
      refine lv_if_eq (tgt := 225) hx hb d_MacroExpandModel_start_5 (by decide) (fun c5 => ?_) (fun c5 => ?_)
      · rw [if_pos c5] at hrun
        cases hrun
        exact K6  rfl H locs ls hw hS (lv_sub hl [] rfl)
      · rw [if_neg c5] at hrun
        refine lv_aload_n hx hb d_MacroExpandModel_start_8 rfl (lv_at hl 0 rfl) ?_
        replace hrun := hb_some hrun
        obtain ⟨v9, g9, hrun⟩ := hrun
        refine h_getI S (fun w q => hT w (i_MacroExpandModel w q)) hK (ci := 1) rfl 21 (by decide) (hT _ fl_MacroExpandModel_113) hw g9 d_MacroExpandModel_start_9 ?_
        refine lv_if_ne (tgt := 225) hx hb d_MacroExpandModel_start_12 (by decide) (fun c12 => ?_) (fun c12 => ?_)
        · rw [if_neg c12] at hrun
          cases hrun
          exact K6  rfl H locs ls hw hS (lv_sub hl [] rfl)
        · rw [if_pos c12] at hrun
          refine lv_iconst (v := (0 : Int32)) hx hb d_MacroExpandModel_start_15 (by decide) ?_
          refine lv_istore_n (lv' := [(3, .int (0 : Int32)), (0, .ref a0), (2, .int x2)]) hx hb d_MacroExpandModel_start_16 rfl hl (by decide) rfl (fun ls hl => ?_)
          refine lv_aload_n hx hb d_MacroExpandModel_start_17 rfl (lv_at hl 1 rfl) ?_
          replace hrun := hb_some hrun
          obtain ⟨v18, g18, hrun⟩ := hrun
          refine h_getI S (fun w q => hT w (i_MacroExpandModel w q)) hK (ci := 1) rfl 23 (by decide) (hT _ fl_MacroExpandModel_175) hw g18 d_MacroExpandModel_start_18 ?_
          refine lv_aload_n hx hb d_MacroExpandModel_start_21 rfl (lv_at hl 1 rfl) ?_
          replace hrun := hb_some hrun
          obtain ⟨v22, g22, hrun⟩ := hrun
          refine h_getI S (fun w q => hT w (i_MacroExpandModel w q)) hK (ci := 1) rfl 0 (by decide) (hT _ fl_MacroExpandModel_79) hw g22 d_MacroExpandModel_start_22 ?_
          refine lv_icmp_ne (tgt := 34) hx hb d_MacroExpandModel_start_25 (by decide) (fun c25 => ?_) (fun c25 => ?_)
          · rw [if_neg c25] at hrun
            refine lv_aload_n hx hb d_MacroExpandModel_start_34 rfl (lv_at hl 1 rfl) ?_
            refine lv_dup hx hb d_MacroExpandModel_start_35 rfl ?_
            replace hrun := hb_some hrun
            obtain ⟨v36, g36, hrun⟩ := hrun
            refine h_getI S (fun w q => hT w (i_MacroExpandModel w q)) hK (ci := 1) rfl 23 (by decide) (hT _ fl_MacroExpandModel_175) hw g36 d_MacroExpandModel_start_36 ?_
            refine lv_iconst (v := (1 : Int32)) hx hb d_MacroExpandModel_start_39 (by decide) ?_
            refine lv_iadd hx hb d_MacroExpandModel_start_40 ?_
            replace hrun := hb_some hrun
            obtain ⟨h41, g41, hrun⟩ := hrun
            refine h_put S (fun w q => hT w (i_MacroExpandModel w q)) t_MacroExpandModel t_MacroExpandModel_ok n_MacroExpandModel hK (ci := 1) rfl 23 (by decide) (hT _ fl_MacroExpandModel_175) rfl rfl rfl hw hS g41 d_MacroExpandModel_start_41 (fun H locs hw hS => ?_)
            refine lv_aload_n hx hb d_MacroExpandModel_start_44 rfl (lv_at hl 1 rfl) ?_
            refine lv_iload_n hx hb d_MacroExpandModel_start_45 rfl (lv_at hl 2 rfl) ?_
            replace hrun := hb_some hrun
            obtain ⟨c46, k46, hrun⟩ := hrun
            replace hrun := hb_some hrun
            obtain ⟨v46, g46, hrun⟩ := hrun
            refine h_ci (h_runV S (As := [.int x2]) (rest := []) (c_MacroExpandModel_get l D dA b0 a0 x2 nx g46) (cwV 1 S.2.2.2.2 (h_good _ (h_in4 ml_MacroExpandModel_116 im_MacroExpandModel_get se_MacroExpandModel_get it_MacroExpandModel) cd_MacroExpandModel_get) rfl rfl rfl (by decide +kernel) ⟨Nat.le_of_ble_eq_true rfl, Nat.le_of_ble_eq_true rfl⟩) hK hN hw (ci := 1) rfl k46 rfl hl.1 (lv_room (Nat.le_of_ble_eq_true rfl)) d_MacroExpandModel_start_46 ⟨Nat.le_refl _, Nat.le_refl _⟩) hS (fun H locs hw hS => ?_)
            refine lv_istore (lv' := [(4, .int v46), (3, .int (0 : Int32)), (0, .ref a0), (2, .int x2)]) hx hb d_MacroExpandModel_start_49 hl (by decide) rfl (fun ls hl => ?_)
            refine lv_iload hx hb d_MacroExpandModel_start_51 (lv_at hl 0 rfl) ?_
            refine lv_sipush (v := (260 : Int32)) hx hb d_MacroExpandModel_start_53 (by decide) ?_
            refine lv_icmp_ne (tgt := 89) hx hb d_MacroExpandModel_start_56 (by decide) (fun c56 => ?_) (fun c56 => ?_)
            · rw [if_neg c56] at hrun
              refine lv_iload hx hb d_MacroExpandModel_start_89 (lv_at hl 0 rfl) ?_
              refine lv_sipush (v := (261 : Int32)) hx hb d_MacroExpandModel_start_91 (by decide) ?_
              refine lv_icmp_ne (tgt := 166) hx hb d_MacroExpandModel_start_94 (by decide) (fun c94 => ?_) (fun c94 => ?_)
              · rw [if_neg c94] at hrun
                refine lv_iload hx hb d_MacroExpandModel_start_166 (lv_at hl 0 rfl) ?_
                refine lv_sipush (v := (262 : Int32)) hx hb d_MacroExpandModel_start_168 (by decide) ?_
                refine lv_icmp_ne (tgt := 212) hx hb d_MacroExpandModel_start_171 (by decide) (fun c171 => ?_) (fun c171 => ?_)
                · rw [if_neg c171] at hrun
                  refine lv_aload_n hx hb d_MacroExpandModel_start_212 rfl (lv_at hl 2 rfl) ?_
                  refine lv_iload_n hx hb d_MacroExpandModel_start_213 rfl (lv_at hl 3 rfl) ?_
                  replace hrun := hb_some hrun
                  obtain ⟨c214, k214, hrun⟩ := hrun
                  replace hrun := hbW_some hrun
                  obtain ⟨_u214, h214, g214, hrun⟩ := hrun
                  refine h_cv (h_runV S (As := [.int x2]) (rest := []) (c_MacroExpandModel_expandName l D dA b0 n a0 x2 nx g214) (cwV 1 S.2.2.2.2 (h_good _ (h_in4 ml_MacroExpandModel_188 im_MacroExpandModel_expandName se_MacroExpandModel_expandName it_MacroExpandModel) cd_MacroExpandModel_expandName) rfl rfl rfl (by decide +kernel) ⟨Nat.le_of_ble_eq_true rfl, Nat.le_of_ble_eq_true rfl⟩) hK hN hw (ci := 1) rfl k214 rfl hl.1 (lv_room (Nat.le_of_ble_eq_true rfl)) d_MacroExpandModel_start_214 ⟨Nat.le_refl _, Nat.le_refl _⟩) hS (fun H locs hw hS => ?_)
                  refine lv_aload_n hx hb d_MacroExpandModel_start_217 rfl (lv_at hl 2 rfl) ?_
                  refine lv_iconst (v := (0 : Int32)) hx hb d_MacroExpandModel_start_218 (by decide) ?_
                  replace hrun := hb_some hrun
                  obtain ⟨h219, g219, hrun⟩ := hrun
                  obtain ⟨n219, f219, g219⟩ := hpZ_spec g219
                  refine h_put S (fun w q => hT w (i_MacroExpandModel w q)) t_MacroExpandModel t_MacroExpandModel_ok n_MacroExpandModel hK (ci := 1) rfl 24 (by decide) (hT _ fl_MacroExpandModel_178) rfl n219 f219 hw hS g219 d_MacroExpandModel_start_219 (fun H locs hw hS => ?_)
                  exact j_222 x2 (0 : Int32) _ _ h219 _ _ _ hrun hw hS (lv_sub hl [2, 3, 1] rfl) K0 K1 K2 K3 K4 K5 K6
                · rw [if_pos c171] at hrun
                  refine lv_aload_n hx hb d_MacroExpandModel_start_174 rfl (lv_at hl 2 rfl) ?_
                  replace hrun := hb_some hrun
                  obtain ⟨v175, g175, hrun⟩ := hrun
                  refine h_getI S (fun w q => hT w (i_MacroExpandModel w q)) hK (ci := 1) rfl 28 (by decide) (hT _ fl_MacroExpandModel_139) hw g175 d_MacroExpandModel_start_175 ?_
                  refine lv_bipush (v := (50 : Int32)) hx hb d_MacroExpandModel_start_178 (by decide) ?_
                  refine lv_icmp_lt (tgt := 190) hx hb d_MacroExpandModel_start_180 (by decide) (fun c180 => ?_) (fun c180 => ?_)
                  · rw [if_pos c180] at hrun
                    refine lv_aload_n hx hb d_MacroExpandModel_start_190 rfl (lv_at hl 2 rfl) ?_
                    refine lv_iload_n hx hb d_MacroExpandModel_start_191 rfl (lv_at hl 3 rfl) ?_
                    refine lv_iconst (v := (1 : Int32)) hx hb d_MacroExpandModel_start_192 (by decide) ?_
                    replace hrun := hb_some hrun
                    obtain ⟨c193, k193, hrun⟩ := hrun
                    replace hrun := hbW_some hrun
                    obtain ⟨_u193, h193, g193, hrun⟩ := hrun
                    refine h_cv (h_runV S (As := [.int x2, .int (1 : Int32)]) (rest := []) (c_MacroExpandModel_take l D dA b0 n a0 x2 (1 : Int32) nx g193) (cwV 2 S.2.2.2.2 (h_good _ (h_in4 ml_MacroExpandModel_160 im_MacroExpandModel_take se_MacroExpandModel_take it_MacroExpandModel) cd_MacroExpandModel_take) rfl rfl rfl (by decide +kernel) ⟨Nat.le_of_ble_eq_true rfl, Nat.le_of_ble_eq_true rfl⟩) hK hN hw (ci := 1) rfl k193 rfl hl.1 (lv_room (Nat.le_of_ble_eq_true rfl)) d_MacroExpandModel_start_193 ⟨Nat.le_refl _, Nat.le_refl _⟩) hS (fun H locs hw hS => ?_)
                    refine lv_aload_n hx hb d_MacroExpandModel_start_196 rfl (lv_at hl 2 rfl) ?_
                    refine lv_iconst (v := (0 : Int32)) hx hb d_MacroExpandModel_start_197 (by decide) ?_
                    replace hrun := hb_some hrun
                    obtain ⟨h198, g198, hrun⟩ := hrun
                    obtain ⟨n198, f198, g198⟩ := hpZ_spec g198
                    refine h_put S (fun w q => hT w (i_MacroExpandModel w q)) t_MacroExpandModel t_MacroExpandModel_ok n_MacroExpandModel hK (ci := 1) rfl 24 (by decide) (hT _ fl_MacroExpandModel_178) rfl n198 f198 hw hS g198 d_MacroExpandModel_start_198 (fun H locs hw hS => ?_)
                    refine lv_aload_n hx hb d_MacroExpandModel_start_201 rfl (lv_at hl 2 rfl) ?_
                    refine lv_sipush (v := (262 : Int32)) hx hb d_MacroExpandModel_start_202 (by decide) ?_
                    refine lv_iload_n hx hb d_MacroExpandModel_start_205 rfl (lv_at hl 3 rfl) ?_
                    replace hrun := hb_some hrun
                    obtain ⟨c206, k206, hrun⟩ := hrun
                    replace hrun := hbW_some hrun
                    obtain ⟨_u206, h206, g206, hrun⟩ := hrun
                    refine h_cv (h_runV S (As := [.int (262 : Int32), .int x2]) (rest := []) (c_MacroExpandModel_pile l D dA b0 a0 (262 : Int32) x2 nx g206) (cwV 2 S.2.2.2.2 (h_good _ (h_in4 ml_MacroExpandModel_185 im_MacroExpandModel_pile se_MacroExpandModel_pile it_MacroExpandModel) cd_MacroExpandModel_pile) rfl rfl rfl (by decide +kernel) ⟨Nat.le_of_ble_eq_true rfl, Nat.le_of_ble_eq_true rfl⟩) hK hN hw (ci := 1) rfl k206 rfl hl.1 (lv_room (Nat.le_of_ble_eq_true rfl)) d_MacroExpandModel_start_206 ⟨Nat.le_refl _, Nat.le_refl _⟩) hS (fun H locs hw hS => ?_)
                    refine lv_goto (tgt := 222) hx hb d_MacroExpandModel_start_209 (by decide) ?_
                    exact j_222 x2 (0 : Int32) _ _ h206 _ _ _ hrun hw hS (lv_sub hl [2, 3, 1] rfl) K0 K1 K2 K3 K4 K5 K6
                  · rw [if_neg c180] at hrun
                    cases hrun
                    exact K5  rfl H locs ls hw hS (lv_sub hl [2] rfl)
              · rw [if_pos c94] at hrun
                refine lv_iload_n hx hb d_MacroExpandModel_start_97 rfl (lv_at hl 3 rfl) ?_
                refine lv_iconst (v := (2 : Int32)) hx hb d_MacroExpandModel_start_98 (by decide) ?_
                refine lv_iadd hx hb d_MacroExpandModel_start_99 ?_
                refine lv_aload_n hx hb d_MacroExpandModel_start_100 rfl (lv_at hl 2 rfl) ?_
                replace hrun := hb_some hrun
                obtain ⟨v101, g101, hrun⟩ := hrun
                refine h_getI S (fun w q => hT w (i_MacroExpandModel w q)) hK (ci := 1) rfl 3 (by decide) (hT _ fl_MacroExpandModel_107) hw g101 d_MacroExpandModel_start_101 ?_
                refine lv_icmp_lt (tgt := 113) hx hb d_MacroExpandModel_start_104 (by decide) (fun c104 => ?_) (fun c104 => ?_)
                · rw [if_pos c104] at hrun
                  refine lv_aload_n hx hb d_MacroExpandModel_start_113 rfl (lv_at hl 2 rfl) ?_
                  replace hrun := hb_some hrun
                  obtain ⟨v114, g114, hrun⟩ := hrun
                  refine h_getI S (fun w q => hT w (i_MacroExpandModel w q)) hK (ci := 1) rfl 28 (by decide) (hT _ fl_MacroExpandModel_139) hw g114 d_MacroExpandModel_start_114 ?_
                  refine lv_bipush (v := (50 : Int32)) hx hb d_MacroExpandModel_start_117 (by decide) ?_
                  refine lv_icmp_lt (tgt := 129) hx hb d_MacroExpandModel_start_119 (by decide) (fun c119 => ?_) (fun c119 => ?_)
                  · rw [if_pos c119] at hrun
                    refine lv_aload_n hx hb d_MacroExpandModel_start_129 rfl (lv_at hl 2 rfl) ?_
                    refine lv_iload_n hx hb d_MacroExpandModel_start_130 rfl (lv_at hl 3 rfl) ?_
                    refine lv_iconst (v := (1 : Int32)) hx hb d_MacroExpandModel_start_131 (by decide) ?_
                    replace hrun := hb_some hrun
                    obtain ⟨c132, k132, hrun⟩ := hrun
                    replace hrun := hbW_some hrun
                    obtain ⟨_u132, h132, g132, hrun⟩ := hrun
                    refine h_cv (h_runV S (As := [.int x2, .int (1 : Int32)]) (rest := []) (c_MacroExpandModel_take l D dA b0 n a0 x2 (1 : Int32) nx g132) (cwV 2 S.2.2.2.2 (h_good _ (h_in4 ml_MacroExpandModel_160 im_MacroExpandModel_take se_MacroExpandModel_take it_MacroExpandModel) cd_MacroExpandModel_take) rfl rfl rfl (by decide +kernel) ⟨Nat.le_of_ble_eq_true rfl, Nat.le_of_ble_eq_true rfl⟩) hK hN hw (ci := 1) rfl k132 rfl hl.1 (lv_room (Nat.le_of_ble_eq_true rfl)) d_MacroExpandModel_start_132 ⟨Nat.le_refl _, Nat.le_refl _⟩) hS (fun H locs hw hS => ?_)
                    refine lv_aload_n hx hb d_MacroExpandModel_start_135 rfl (lv_at hl 2 rfl) ?_
                    refine lv_iconst (v := (0 : Int32)) hx hb d_MacroExpandModel_start_136 (by decide) ?_
                    replace hrun := hb_some hrun
                    obtain ⟨h137, g137, hrun⟩ := hrun
                    obtain ⟨n137, f137, g137⟩ := hpZ_spec g137
                    refine h_put S (fun w q => hT w (i_MacroExpandModel w q)) t_MacroExpandModel t_MacroExpandModel_ok n_MacroExpandModel hK (ci := 1) rfl 24 (by decide) (hT _ fl_MacroExpandModel_178) rfl n137 f137 hw hS g137 d_MacroExpandModel_start_137 (fun H locs hw hS => ?_)
                    refine lv_aload_n hx hb d_MacroExpandModel_start_140 rfl (lv_at hl 2 rfl) ?_
                    refine lv_iload_n hx hb d_MacroExpandModel_start_141 rfl (lv_at hl 3 rfl) ?_
                    refine lv_iconst (v := (1 : Int32)) hx hb d_MacroExpandModel_start_142 (by decide) ?_
                    refine lv_iadd hx hb d_MacroExpandModel_start_143 ?_
                    replace hrun := hb_some hrun
                    obtain ⟨c144, k144, hrun⟩ := hrun
                    replace hrun := hb_some hrun
                    obtain ⟨v144, g144, hrun⟩ := hrun
                    refine h_ci (h_runV S (As := [.int (x2 + (1 : Int32))]) (rest := []) (c_MacroExpandModel_canBeExpanded l D dA b0 a0 (x2 + (1 : Int32)) nx g144) (cwV 1 S.2.2.2.2 (h_good _ (h_in4 ml_MacroExpandModel_182 im_MacroExpandModel_canBeExpanded se_MacroExpandModel_canBeExpanded it_MacroExpandModel) cd_MacroExpandModel_canBeExpanded) rfl rfl rfl (by decide +kernel) ⟨Nat.le_of_ble_eq_true rfl, Nat.le_of_ble_eq_true rfl⟩) hK hN hw (ci := 1) rfl k144 rfl hl.1 (lv_room (Nat.le_of_ble_eq_true rfl)) d_MacroExpandModel_start_144 ⟨Nat.le_refl _, Nat.le_refl _⟩) hS (fun H locs hw hS => ?_)
                    refine lv_istore_n (lv' := [(3, .int v144), (4, .int v46), (0, .ref a0), (2, .int x2)]) hx hb d_MacroExpandModel_start_147 rfl hl (by decide) rfl (fun ls hl => ?_)
                    refine lv_iload_n hx hb d_MacroExpandModel_start_148 rfl (lv_at hl 0 rfl) ?_
                    refine lv_if_eq (tgt := 222) hx hb d_MacroExpandModel_start_149 (by decide) (fun c149 => ?_) (fun c149 => ?_)
                    · rw [if_pos c149] at hrun
                      exact j_222 x2 v144 _ _ h137 _ _ _ hrun hw hS (lv_sub hl [2, 3, 0] rfl) K0 K1 K2 K3 K4 K5 K6
                    · rw [if_neg c149] at hrun
                      refine lv_aload_n hx hb d_MacroExpandModel_start_152 rfl (lv_at hl 2 rfl) ?_
                      refine lv_sipush (v := (261 : Int32)) hx hb d_MacroExpandModel_start_153 (by decide) ?_
                      refine lv_iload_n hx hb d_MacroExpandModel_start_156 rfl (lv_at hl 3 rfl) ?_
                      replace hrun := hb_some hrun
                      obtain ⟨c157, k157, hrun⟩ := hrun
                      replace hrun := hbW_some hrun
                      obtain ⟨_u157, h157, g157, hrun⟩ := hrun
                      refine h_cv (h_runV S (As := [.int (261 : Int32), .int x2]) (rest := []) (c_MacroExpandModel_pile l D dA b0 a0 (261 : Int32) x2 nx g157) (cwV 2 S.2.2.2.2 (h_good _ (h_in4 ml_MacroExpandModel_185 im_MacroExpandModel_pile se_MacroExpandModel_pile it_MacroExpandModel) cd_MacroExpandModel_pile) rfl rfl rfl (by decide +kernel) ⟨Nat.le_of_ble_eq_true rfl, Nat.le_of_ble_eq_true rfl⟩) hK hN hw (ci := 1) rfl k157 rfl hl.1 (lv_room (Nat.le_of_ble_eq_true rfl)) d_MacroExpandModel_start_157 ⟨Nat.le_refl _, Nat.le_refl _⟩) hS (fun H locs hw hS => ?_)
                      refine lv_iinc (v := (x2 + (1 : Int32))) (lv' := [(2, .int (x2 + (1 : Int32))), (3, .int v144), (4, .int v46), (0, .ref a0)]) hx hb d_MacroExpandModel_start_160 hl (k := 3) rfl rfl (by decide) rfl (fun ls hl => ?_)
                      refine lv_goto (tgt := 222) hx hb d_MacroExpandModel_start_163 (by decide) ?_
                      exact j_222 (x2 + (1 : Int32)) v144 _ _ h157 _ _ _ hrun hw hS (lv_sub hl [3, 0, 1] rfl) K0 K1 K2 K3 K4 K5 K6
                  · rw [if_neg c119] at hrun
                    cases hrun
                    exact K4  rfl H locs ls hw hS (lv_sub hl [2] rfl)
                · rw [if_neg c104] at hrun
                  cases hrun
                  exact K3  rfl H locs ls hw hS (lv_sub hl [2] rfl)
            · rw [if_pos c56] at hrun
              refine lv_iload_n hx hb d_MacroExpandModel_start_59 rfl (lv_at hl 3 rfl) ?_
              refine lv_iconst (v := (1 : Int32)) hx hb d_MacroExpandModel_start_60 (by decide) ?_
              refine lv_iadd hx hb d_MacroExpandModel_start_61 ?_
              refine lv_aload_n hx hb d_MacroExpandModel_start_62 rfl (lv_at hl 2 rfl) ?_
              replace hrun := hb_some hrun
              obtain ⟨v63, g63, hrun⟩ := hrun
              refine h_getI S (fun w q => hT w (i_MacroExpandModel w q)) hK (ci := 1) rfl 3 (by decide) (hT _ fl_MacroExpandModel_107) hw g63 d_MacroExpandModel_start_63 ?_
              refine lv_icmp_lt (tgt := 75) hx hb d_MacroExpandModel_start_66 (by decide) (fun c66 => ?_) (fun c66 => ?_)
              · rw [if_pos c66] at hrun
                refine lv_aload_n hx hb d_MacroExpandModel_start_75 rfl (lv_at hl 2 rfl) ?_
                refine lv_iload_n hx hb d_MacroExpandModel_start_76 rfl (lv_at hl 3 rfl) ?_
                refine lv_iconst (v := (1 : Int32)) hx hb d_MacroExpandModel_start_77 (by decide) ?_
                replace hrun := hb_some hrun
                obtain ⟨c78, k78, hrun⟩ := hrun
                replace hrun := hbW_some hrun
                obtain ⟨_u78, h78, g78, hrun⟩ := hrun
                refine h_cv (h_runV S (As := [.int x2, .int (1 : Int32)]) (rest := []) (c_MacroExpandModel_take l D dA b0 n a0 x2 (1 : Int32) nx g78) (cwV 2 S.2.2.2.2 (h_good _ (h_in4 ml_MacroExpandModel_160 im_MacroExpandModel_take se_MacroExpandModel_take it_MacroExpandModel) cd_MacroExpandModel_take) rfl rfl rfl (by decide +kernel) ⟨Nat.le_of_ble_eq_true rfl, Nat.le_of_ble_eq_true rfl⟩) hK hN hw (ci := 1) rfl k78 rfl hl.1 (lv_room (Nat.le_of_ble_eq_true rfl)) d_MacroExpandModel_start_78 ⟨Nat.le_refl _, Nat.le_refl _⟩) hS (fun H locs hw hS => ?_)
                refine lv_aload_n hx hb d_MacroExpandModel_start_81 rfl (lv_at hl 2 rfl) ?_
                refine lv_iconst (v := (1 : Int32)) hx hb d_MacroExpandModel_start_82 (by decide) ?_
                replace hrun := hb_some hrun
                obtain ⟨h83, g83, hrun⟩ := hrun
                obtain ⟨n83, f83, g83⟩ := hpZ_spec g83
                refine h_put S (fun w q => hT w (i_MacroExpandModel w q)) t_MacroExpandModel t_MacroExpandModel_ok n_MacroExpandModel hK (ci := 1) rfl 24 (by decide) (hT _ fl_MacroExpandModel_178) rfl n83 f83 hw hS g83 d_MacroExpandModel_start_83 (fun H locs hw hS => ?_)
                refine lv_goto (tgt := 222) hx hb d_MacroExpandModel_start_86 (by decide) ?_
                exact j_222 x2 (0 : Int32) _ _ h83 _ _ _ hrun hw hS (lv_sub hl [2, 3, 1] rfl) K0 K1 K2 K3 K4 K5 K6
              · rw [if_neg c66] at hrun
                cases hrun
                exact K2  rfl H locs ls hw hS (lv_sub hl [2] rfl)
          · rw [if_pos c25] at hrun
            cases hrun
            exact K1  rfl H locs ls hw hS (lv_sub hl [1] rfl)
  unfold f_MacroExpandModel_start at hrun
  refine lv_iload_n hx hb d_MacroExpandModel_start_0 rfl (lv_at hl 1 rfl) ?_
  refine lv_istore_n (lv' := [(2, .int i1), (0, .ref a0), (1, .int i1)]) hx hb d_MacroExpandModel_start_1 rfl hl (by decide) rfl (fun ls hl => ?_)
  refine lv_iconst (v := (1 : Int32)) hx hb d_MacroExpandModel_start_2 (by decide) ?_
  refine lv_istore_n (lv' := [(3, .int (1 : Int32)), (2, .int i1), (0, .ref a0), (1, .int i1)]) hx hb d_MacroExpandModel_start_3 rfl hl (by decide) rfl (fun ls hl => ?_)
  replace hrun := hbW_some hrun
  obtain ⟨b4, h4l, g4, hrun⟩ := hrun
  refine l_4 n (i1, (1 : Int32)) h _ _ _ _ _ g4 hw hS (lv_sub hl [2, 1, 0] rfl) ?_ ?_ ?_ ?_ ?_ ?_
  · rintro  eq9 H locs ls hw hS hl
    obtain rfl := eq9.symm
    try dsimp only at hrun
    refine lv_aload_n hx hb d_MacroExpandModel_start_28 rfl (lv_at hl 0 rfl) ?_
    refine lv_iconst (v := (5 : Int32)) hx hb d_MacroExpandModel_start_29 (by decide) ?_
    replace hrun := hb_some hrun
    obtain ⟨c30, k30, hrun⟩ := hrun
    replace hrun := hbW_some hrun
    obtain ⟨_u30, h30, g30, hrun⟩ := hrun
    refine h_cv (h_runV S (As := [.int (5 : Int32)]) (rest := []) (c_MacroExpandModel_mark l D dA b0 a0 (5 : Int32) nx g30) (cwV 1 S.2.2.2.2 (h_good _ (h_in4 ml_MacroExpandModel_123 im_MacroExpandModel_mark se_MacroExpandModel_mark it_MacroExpandModel) cd_MacroExpandModel_mark) rfl rfl rfl (by decide +kernel) ⟨Nat.le_of_ble_eq_true rfl, Nat.le_of_ble_eq_true rfl⟩) hK hN hw (ci := 1) rfl k30 rfl hl.1 (lv_room (Nat.le_of_ble_eq_true rfl)) d_MacroExpandModel_start_30 ⟨Nat.le_refl _, Nat.le_refl _⟩) hS (fun H locs hw hS => ?_)
    cases hrun
    exact W.vret hx hb hr (fun t ht hW9 => ⟨⟨(), rfl, trivial, by show hW D dA classes b0 _ _ t.heap; rw [ht]; exact hw⟩, hS.F ht⟩) hS.2.2 d_MacroExpandModel_start_33
  · rintro  eq9 H locs ls hw hS hl
    obtain rfl := eq9.symm
    try dsimp only at hrun
    refine lv_aload_n hx hb d_MacroExpandModel_start_69 rfl (lv_at hl 0 rfl) ?_
    refine lv_iconst (v := (1 : Int32)) hx hb d_MacroExpandModel_start_70 (by decide) ?_
    replace hrun := hb_some hrun
    obtain ⟨c71, k71, hrun⟩ := hrun
    replace hrun := hbW_some hrun
    obtain ⟨_u71, h71, g71, hrun⟩ := hrun
    refine h_cv (h_runV S (As := [.int (1 : Int32)]) (rest := []) (c_MacroExpandModel_mark l D dA b0 a0 (1 : Int32) nx g71) (cwV 1 S.2.2.2.2 (h_good _ (h_in4 ml_MacroExpandModel_123 im_MacroExpandModel_mark se_MacroExpandModel_mark it_MacroExpandModel) cd_MacroExpandModel_mark) rfl rfl rfl (by decide +kernel) ⟨Nat.le_of_ble_eq_true rfl, Nat.le_of_ble_eq_true rfl⟩) hK hN hw (ci := 1) rfl k71 rfl hl.1 (lv_room (Nat.le_of_ble_eq_true rfl)) d_MacroExpandModel_start_71 ⟨Nat.le_refl _, Nat.le_refl _⟩) hS (fun H locs hw hS => ?_)
    cases hrun
    exact W.vret hx hb hr (fun t ht hW9 => ⟨⟨(), rfl, trivial, by show hW D dA classes b0 _ _ t.heap; rw [ht]; exact hw⟩, hS.F ht⟩) hS.2.2 d_MacroExpandModel_start_74
  · rintro  eq9 H locs ls hw hS hl
    obtain rfl := eq9.symm
    try dsimp only at hrun
    refine lv_aload_n hx hb d_MacroExpandModel_start_107 rfl (lv_at hl 0 rfl) ?_
    refine lv_iconst (v := (1 : Int32)) hx hb d_MacroExpandModel_start_108 (by decide) ?_
    replace hrun := hb_some hrun
    obtain ⟨c109, k109, hrun⟩ := hrun
    replace hrun := hbW_some hrun
    obtain ⟨_u109, h109, g109, hrun⟩ := hrun
    refine h_cv (h_runV S (As := [.int (1 : Int32)]) (rest := []) (c_MacroExpandModel_mark l D dA b0 a0 (1 : Int32) nx g109) (cwV 1 S.2.2.2.2 (h_good _ (h_in4 ml_MacroExpandModel_123 im_MacroExpandModel_mark se_MacroExpandModel_mark it_MacroExpandModel) cd_MacroExpandModel_mark) rfl rfl rfl (by decide +kernel) ⟨Nat.le_of_ble_eq_true rfl, Nat.le_of_ble_eq_true rfl⟩) hK hN hw (ci := 1) rfl k109 rfl hl.1 (lv_room (Nat.le_of_ble_eq_true rfl)) d_MacroExpandModel_start_109 ⟨Nat.le_refl _, Nat.le_refl _⟩) hS (fun H locs hw hS => ?_)
    cases hrun
    exact W.vret hx hb hr (fun t ht hW9 => ⟨⟨(), rfl, trivial, by show hW D dA classes b0 _ _ t.heap; rw [ht]; exact hw⟩, hS.F ht⟩) hS.2.2 d_MacroExpandModel_start_112
  · rintro  eq9 H locs ls hw hS hl
    obtain rfl := eq9.symm
    try dsimp only at hrun
    refine lv_aload_n hx hb d_MacroExpandModel_start_122 rfl (lv_at hl 0 rfl) ?_
    refine lv_bipush (v := (8 : Int32)) hx hb d_MacroExpandModel_start_123 (by decide) ?_
    replace hrun := hb_some hrun
    obtain ⟨c125, k125, hrun⟩ := hrun
    replace hrun := hbW_some hrun
    obtain ⟨_u125, h125, g125, hrun⟩ := hrun
    refine h_cv (h_runV S (As := [.int (8 : Int32)]) (rest := []) (c_MacroExpandModel_mark l D dA b0 a0 (8 : Int32) nx g125) (cwV 1 S.2.2.2.2 (h_good _ (h_in4 ml_MacroExpandModel_123 im_MacroExpandModel_mark se_MacroExpandModel_mark it_MacroExpandModel) cd_MacroExpandModel_mark) rfl rfl rfl (by decide +kernel) ⟨Nat.le_of_ble_eq_true rfl, Nat.le_of_ble_eq_true rfl⟩) hK hN hw (ci := 1) rfl k125 rfl hl.1 (lv_room (Nat.le_of_ble_eq_true rfl)) d_MacroExpandModel_start_125 ⟨Nat.le_refl _, Nat.le_refl _⟩) hS (fun H locs hw hS => ?_)
    cases hrun
    exact W.vret hx hb hr (fun t ht hW9 => ⟨⟨(), rfl, trivial, by show hW D dA classes b0 _ _ t.heap; rw [ht]; exact hw⟩, hS.F ht⟩) hS.2.2 d_MacroExpandModel_start_128
  · rintro  eq9 H locs ls hw hS hl
    obtain rfl := eq9.symm
    try dsimp only at hrun
    refine lv_aload_n hx hb d_MacroExpandModel_start_183 rfl (lv_at hl 0 rfl) ?_
    refine lv_bipush (v := (8 : Int32)) hx hb d_MacroExpandModel_start_184 (by decide) ?_
    replace hrun := hb_some hrun
    obtain ⟨c186, k186, hrun⟩ := hrun
    replace hrun := hbW_some hrun
    obtain ⟨_u186, h186, g186, hrun⟩ := hrun
    refine h_cv (h_runV S (As := [.int (8 : Int32)]) (rest := []) (c_MacroExpandModel_mark l D dA b0 a0 (8 : Int32) nx g186) (cwV 1 S.2.2.2.2 (h_good _ (h_in4 ml_MacroExpandModel_123 im_MacroExpandModel_mark se_MacroExpandModel_mark it_MacroExpandModel) cd_MacroExpandModel_mark) rfl rfl rfl (by decide +kernel) ⟨Nat.le_of_ble_eq_true rfl, Nat.le_of_ble_eq_true rfl⟩) hK hN hw (ci := 1) rfl k186 rfl hl.1 (lv_room (Nat.le_of_ble_eq_true rfl)) d_MacroExpandModel_start_186 ⟨Nat.le_refl _, Nat.le_refl _⟩) hS (fun H locs hw hS => ?_)
    cases hrun
    exact W.vret hx hb hr (fun t ht hW9 => ⟨⟨(), rfl, trivial, by show hW D dA classes b0 _ _ t.heap; rw [ht]; exact hw⟩, hS.F ht⟩) hS.2.2 d_MacroExpandModel_start_189
  · rintro  eq9 H locs ls hw hS hl
    obtain rfl := eq9.symm
    try dsimp only at hrun
    cases hrun
    exact W.vret hx hb hr (fun t ht hW9 => ⟨⟨(), rfl, trivial, by show hW D dA classes b0 _ _ t.heap; rw [ht]; exact hw⟩, hS.F ht⟩) hS.2.2 d_MacroExpandModel_start_225
