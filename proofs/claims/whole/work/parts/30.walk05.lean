set_option maxHeartbeats 4000000 in
set_option maxRecDepth 100000 in
theorem c_MacroExpandModel_passed (l : Launch) (D : va_G) (dA : Nat → ClassId) (b0 : Nat) (n : Nat) (a0 : Nat) (nx : Nat) {h : hH} {r : Int32} (hrun : f_MacroExpandModel_passed n a0 h = some r) : Met l y_MacroExpandModel_passed w_MacroExpandModel_passed ({ frames := 0, cells := 0, slots := 0, locals := 0 } : Room) (va_Pc [.ref a0] (hB D dA b0 nx h)) (va_Qi (fun r' (_ : Unit) => r' = r) (fun (_ : Unit) t => hW D dA classes b0 nx h t.heap) (hA b0)) 0 0 (hA b0) := by
  refine Met.ofW (cc := b_MacroExpandModel_passed) (maxL := 3) (ret := (some .int)) (by decide) rfl ?_
  intro p e s m args below meth c s₁ B hml hv
  obtain ⟨rfl, hw, hK, hN⟩ := hv
  have hx := B.exec
  have hb := B.bytes
  have hr := B.returns
  have hlocks := B.notSynchronized
  have S : CallFix p m c b_MacroExpandModel_passed 3 s ([.ref a0] : List Value).toArray w_MacroExpandModel_passed R_MacroExpandModel := ⟨hx, hb, hml, findClass_of_methodNamed B.named, atoms_spec (ws := w_MacroExpandModel_passed) B.pre⟩
  have hT : ∀ w ∈ tbl, w ∈ w_MacroExpandModel_passed := fun _ q => List.mem_cons_of_mem _ q
  have hS : va_S (hA b0) s.heap s.heap [] := va_S.rf
  have hl := lv_entry ([.ref a0]) (n := 3) (Nat.le_of_ble_eq_true rfl)
  rw [lg_entry_eq]
  generalize (lg_sl ([.ref a0]) ++ List.replicate (3 - (lg_sl ([.ref a0])).length) Slot.unset).toArray = ls at hl ⊢
  have hl : lv_has ls 3 [(0, .ref a0)] := hl
  have l_4 : ∀ (n9 : Nat) (x9 : Int32 × Int32) (b9 : (Int32)) (H : Heap) (locs : List Loc) (ls : Array Slot), hloopR (f_MacroExpandModel_passed_b4 n a0 h) n9 x9 = some b9 → hW D dA classes b0 nx h H → va_S (hA b0) s.heap H locs → lv_has ls 3 (match x9 with | (x1, x2) => [(0, .ref a0), (1, .int x1), (2, .int x2)]) → (∀ (z1 : Int32), b9 = z1 → ∀ (H : Heap) (locs : List Loc) (ls : Array Slot), hW D dA classes b0 nx h H → va_S (hA b0) s.heap H locs → lv_has ls 3 [(1, .int z1)] → W p l e (headSpec w_MacroExpandModel_passed ({ frames := 0, cells := 0, slots := 0, locals := 0 } : Room)).room s m ([.ref a0] : List Value).toArray below meth c H locs 0 0 (MQ below (va_Qi (fun r' (_ : Unit) => r' = r) (fun (_ : Unit) t => hW D dA classes b0 nx h t.heap) (hA b0)) ([.ref a0] : List Value).toArray s 0 0 (hA b0)) (F0 m 38 ls [])) → W p l e (headSpec w_MacroExpandModel_passed ({ frames := 0, cells := 0, slots := 0, locals := 0 } : Room)).room s m ([.ref a0] : List Value).toArray below meth c H locs 0 0 (MQ below (va_Qi (fun r' (_ : Unit) => r' = r) (fun (_ : Unit) t => hW D dA classes b0 nx h t.heap) (hA b0)) ([.ref a0] : List Value).toArray s 0 0 (hA b0)) (F0 m 4 ls []) := by
    intro  n9
    induction n9 with
    | zero =>
      intro x9 b9 H locs ls hrun
      cases hrun
    | succ n9 ih =>
      rintro ⟨x1, x2⟩ b9 H locs ls hrun hw hS hl k0
      have hl : lv_has ls 3 [(0, .ref a0), (1, .int x1), (2, .int x2)] := hl
      unfold hloopR at hrun
      obtain ⟨q9, hbody, hrun9⟩ := hb_some hrun
      have K0 : (∀ (z1 : Int32) (z2 : Int32), q9 = .inl (z1, z2) → ∀ (H : Heap) (locs : List Loc) (ls : Array Slot), hW D dA classes b0 nx h H → va_S (hA b0) s.heap H locs → lv_has ls 3 [(0, .ref a0), (1, .int z1), (2, .int z2)] → W p l e (headSpec w_MacroExpandModel_passed ({ frames := 0, cells := 0, slots := 0, locals := 0 } : Room)).room s m ([.ref a0] : List Value).toArray below meth c H locs 0 0 (MQ below (va_Qi (fun r' (_ : Unit) => r' = r) (fun (_ : Unit) t => hW D dA classes b0 nx h t.heap) (hA b0)) ([.ref a0] : List Value).toArray s 0 0 (hA b0)) (F0 m 4 ls [])) := by
        intro z1 z2 eq9 H locs ls hw hS hl
        subst eq9
        exact ih (z1, z2) b9 H locs ls hrun9 hw hS hl k0
      have K1 : (∀ (z1 : Int32), q9 = .inr z1 → ∀ (H : Heap) (locs : List Loc) (ls : Array Slot), hW D dA classes b0 nx h H → va_S (hA b0) s.heap H locs → lv_has ls 3 [(1, .int z1)] → W p l e (headSpec w_MacroExpandModel_passed ({ frames := 0, cells := 0, slots := 0, locals := 0 } : Room)).room s m ([.ref a0] : List Value).toArray below meth c H locs 0 0 (MQ below (va_Qi (fun r' (_ : Unit) => r' = r) (fun (_ : Unit) t => hW D dA classes b0 nx h t.heap) (hA b0)) ([.ref a0] : List Value).toArray s 0 0 (hA b0)) (F0 m 38 ls [])) := by
        intro z1 eq9 H locs ls hw hS hl
        subst eq9
        cases hrun9
        exact k0 _ rfl H locs ls hw hS hl
      clear hrun hrun9 ih k0
      have hrun := hbody
      clear hbody
      have j_30 : ∀  (x2 : Int32) (y0 : Int32) (y1 : Int32) (q9 : (Int32 × Int32) ⊕ ((Int32))) (H : Heap) (locs : List Loc) (ls : Array Slot), f_MacroExpandModel_passed_j30 n a0 x2 y0 y1 h = some q9 → hW D dA classes b0 nx h H → va_S (hA b0) s.heap H locs → lv_has ls 3 [(0, .ref a0), (2, .int x2)] → (∀ (z1 : Int32) (z2 : Int32), q9 = .inl (z1, z2) → ∀ (H : Heap) (locs : List Loc) (ls : Array Slot), hW D dA classes b0 nx h H → va_S (hA b0) s.heap H locs → lv_has ls 3 [(0, .ref a0), (1, .int z1), (2, .int z2)] → W p l e (headSpec w_MacroExpandModel_passed ({ frames := 0, cells := 0, slots := 0, locals := 0 } : Room)).room s m ([.ref a0] : List Value).toArray below meth c H locs 0 0 (MQ below (va_Qi (fun r' (_ : Unit) => r' = r) (fun (_ : Unit) t => hW D dA classes b0 nx h t.heap) (hA b0)) ([.ref a0] : List Value).toArray s 0 0 (hA b0)) (F0 m 4 ls [])) → (∀ (z1 : Int32), q9 = .inr z1 → ∀ (H : Heap) (locs : List Loc) (ls : Array Slot), hW D dA classes b0 nx h H → va_S (hA b0) s.heap H locs → lv_has ls 3 [(1, .int z1)] → W p l e (headSpec w_MacroExpandModel_passed ({ frames := 0, cells := 0, slots := 0, locals := 0 } : Room)).room s m ([.ref a0] : List Value).toArray below meth c H locs 0 0 (MQ below (va_Qi (fun r' (_ : Unit) => r' = r) (fun (_ : Unit) t => hW D dA classes b0 nx h t.heap) (hA b0)) ([.ref a0] : List Value).toArray s 0 0 (hA b0)) (F0 m 38 ls [])) → W p l e (headSpec w_MacroExpandModel_passed ({ frames := 0, cells := 0, slots := 0, locals := 0 } : Room)).room s m ([.ref a0] : List Value).toArray below meth c H locs 0 0 (MQ below (va_Qi (fun r' (_ : Unit) => r' = r) (fun (_ : Unit) t => hW D dA classes b0 nx h t.heap) (hA b0)) ([.ref a0] : List Value).toArray s 0 0 (hA b0)) (F0 m 30 ls [.int y1, .int y0]) := by
        intro x2 y0 y1 q9 H locs ls hrun hw hS hl k0 k1
        unfold f_MacroExpandModel_passed_j30 at hrun
        refine lv_iadd hx hb d_MacroExpandModel_passed_30 ?_
        refine lv_istore_n (lv' := [(1, .int (y0 + y1)), (0, .ref a0), (2, .int x2)]) hx hb d_MacroExpandModel_passed_31 rfl hl (by decide) rfl (fun ls hl => ?_)
        refine lv_iinc (v := (x2 + (1 : Int32))) (lv' := [(2, .int (x2 + (1 : Int32))), (1, .int (y0 + y1)), (0, .ref a0)]) hx hb d_MacroExpandModel_passed_32 hl (k := 2) rfl rfl (by decide) rfl (fun ls hl => ?_)
        refine lv_goto (tgt := 4) hx hb d_MacroExpandModel_passed_35 (by decide) ?_
        cases hrun
        exact k0 (y0 + y1) (x2 + (1 : Int32)) rfl H locs ls hw hS (lv_sub hl [2, 1, 0] rfl)
      dsimp only [f_MacroExpandModel_passed_b4] at hrun
      refine lv_iload_n hx hb d_MacroExpandModel_passed_4 rfl (lv_at hl 2 rfl) ?_
      refine lv_aload_n hx hb d_MacroExpandModel_passed_5 rfl (lv_at hl 0 rfl) ?_
      replace hrun := hb_some hrun
      obtain ⟨v6, g6, hrun⟩ := hrun
      refine h_getI S (fun w q => hT w (i_MacroExpandModel w q)) hK (ci := 1) rfl 28 (by decide) (hT _ fl_MacroExpandModel_139) hw g6 d_MacroExpandModel_passed_6 ?_
      refine lv_icmp_ge (tgt := 38) hx hb d_MacroExpandModel_passed_9 (by decide) (fun c9 => ?_) (fun c9 => ?_)
      · rw [if_pos c9] at hrun
        cases hrun
        exact K1 x1 rfl H locs ls hw hS (lv_sub hl [1] rfl)
      · rw [if_neg c9] at hrun
        refine lv_iload_n hx hb d_MacroExpandModel_passed_12 rfl (lv_at hl 1 rfl) ?_
        refine lv_aload_n hx hb d_MacroExpandModel_passed_13 rfl (lv_at hl 0 rfl) ?_
        replace hrun := hb_some hrun
        obtain ⟨v14, g14, hrun⟩ := hrun
        refine h_getR S (fun w q => hT w (i_MacroExpandModel w q)) hK (ci := 1) rfl 29 (by decide) (hT _ fl_MacroExpandModel_59) hw g14 d_MacroExpandModel_passed_14 ?_
        refine lv_iload_n hx hb d_MacroExpandModel_passed_17 rfl (lv_at hl 2 rfl) ?_
        replace hrun := hb_some hrun
        obtain ⟨p18, rfl, hrun⟩ := hrun
        replace hrun := hb_some hrun
        obtain ⟨v18, g18, hrun⟩ := hrun
        refine h_iald S hK (kd := 0) rfl hw g18 d_MacroExpandModel_passed_18 ?_
        refine lv_sipush (v := (261 : Int32)) hx hb d_MacroExpandModel_passed_19 (by decide) ?_
        refine lv_icmp_ne (tgt := 29) hx hb d_MacroExpandModel_passed_22 (by decide) (fun c22 => ?_) (fun c22 => ?_)
        · rw [if_neg c22] at hrun
          refine lv_iconst (v := (0 : Int32)) hx hb d_MacroExpandModel_passed_29 (by decide) ?_
          exact j_30 x2 x1 (0 : Int32) _ _ _ _ hrun hw hS (lv_sub hl [0, 2] rfl) K0 K1
        · rw [if_pos c22] at hrun
          refine lv_iconst (v := (1 : Int32)) hx hb d_MacroExpandModel_passed_25 (by decide) ?_
          refine lv_goto (tgt := 30) hx hb d_MacroExpandModel_passed_26 (by decide) ?_
          exact j_30 x2 x1 (1 : Int32) _ _ _ _ hrun hw hS (lv_sub hl [0, 2] rfl) K0 K1
  unfold f_MacroExpandModel_passed at hrun
  refine lv_iconst (v := (0 : Int32)) hx hb d_MacroExpandModel_passed_0 (by decide) ?_
  refine lv_istore_n (lv' := [(1, .int (0 : Int32)), (0, .ref a0)]) hx hb d_MacroExpandModel_passed_1 rfl hl (by decide) rfl (fun ls hl => ?_)
  refine lv_iconst (v := (0 : Int32)) hx hb d_MacroExpandModel_passed_2 (by decide) ?_
  refine lv_istore_n (lv' := [(2, .int (0 : Int32)), (1, .int (0 : Int32)), (0, .ref a0)]) hx hb d_MacroExpandModel_passed_3 rfl hl (by decide) rfl (fun ls hl => ?_)
  replace hrun := hb_some hrun
  obtain ⟨b4, g4, hrun⟩ := hrun
  refine l_4 n ((0 : Int32), (0 : Int32)) _ _ _ _ g4 hw hS (lv_sub hl [2, 1, 0] rfl) ?_
  · rintro x1_4 eq9 H locs ls hw hS hl
    obtain rfl := eq9.symm
    try dsimp only at hrun
    refine lv_iload_n hx hb d_MacroExpandModel_passed_38 rfl (lv_at hl 0 rfl) ?_
    cases hrun
    exact W.iret hx hb hr (fun t ht hW9 => ⟨⟨_, (), rfl, rfl, by show hW D dA classes b0 _ _ t.heap; rw [ht]; exact hw⟩, hS.F ht⟩) hS.2.2 d_MacroExpandModel_passed_39
set_option maxHeartbeats 4000000 in
set_option maxRecDepth 100000 in
theorem c_MacroExpandModel_expandName (l : Launch) (D : va_G) (dA : Nat → ClassId) (b0 : Nat) (n : Nat) (a0 : Nat) (i1 : Int32) (nx : Nat) {h h' : hH} {r : Unit} (hrun : f_MacroExpandModel_expandName n a0 i1 h = some (r, h')) : Met l y_MacroExpandModel_expandName w_MacroExpandModel_expandName ({ frames := 5, cells := 0, slots := 0, locals := 114 } : Room) (va_Pc [.ref a0, .int i1] (hB D dA b0 nx h)) (va_Qv (fun (_ : Unit) => True) (fun (_ : Unit) t => hW D dA classes b0 nx h' t.heap) (hA b0)) 0 0 (hA b0) := by
  refine Met.ofW (cc := b_MacroExpandModel_expandName) (maxL := 14) (ret := none) (by decide) rfl ?_
  intro p e s m args below meth c s₁ B hml hv
  obtain ⟨rfl, hw, hK, hN⟩ := hv
  have hx := B.exec
  have hb := B.bytes
  have hr := B.returns
  have hlocks := B.notSynchronized
  have S : CallFix p m c b_MacroExpandModel_expandName 14 s ([.ref a0, .int i1] : List Value).toArray w_MacroExpandModel_expandName R_MacroExpandModel := ⟨hx, hb, hml, findClass_of_methodNamed B.named, atoms_spec (ws := w_MacroExpandModel_expandName) B.pre⟩
  have hT : ∀ w ∈ tbl, w ∈ w_MacroExpandModel_expandName := fun _ q => List.mem_cons_of_mem _ q
  have hS : va_S (hA b0) s.heap s.heap [] := va_S.rf
  have hl := lv_entry ([.ref a0, .int i1]) (n := 14) (Nat.le_of_ble_eq_true rfl)
  rw [lg_entry_eq]
  generalize (lg_sl ([.ref a0, .int i1]) ++ List.replicate (14 - (lg_sl ([.ref a0, .int i1])).length) Slot.unset).toArray = ls at hl ⊢
  have hl : lv_has ls 14 [(0, .ref a0), (1, .int i1)] := hl
  have j_501 : ∀  (x2 : Int32) (h : hH) (H : Heap) (locs : List Loc) (ls : Array Slot), f_MacroExpandModel_expandName_j501 n a0 x2 h = some (r, h') → hW D dA classes b0 nx h H → va_S (hA b0) s.heap H locs → lv_has ls 14 [(0, .ref a0), (2, .int x2)] → W p l e (headSpec w_MacroExpandModel_expandName ({ frames := 5, cells := 0, slots := 0, locals := 114 } : Room)).room s m ([.ref a0, .int i1] : List Value).toArray below meth c H locs 0 0 (MQ below (va_Qv (fun (_ : Unit) => True) (fun (_ : Unit) t => hW D dA classes b0 nx h' t.heap) (hA b0)) ([.ref a0, .int i1] : List Value).toArray s 0 0 (hA b0)) (F0 m 501 ls []) := by
    intro x2 h H locs ls hrun hw hS hl
    unfold f_MacroExpandModel_expandName_j501 at hrun
    refine lv_aload_n hx hb d_MacroExpandModel_expandName_501 rfl (lv_at hl 0 rfl) ?_
    refine lv_iload_n hx hb d_MacroExpandModel_expandName_502 rfl (lv_at hl 1 rfl) ?_
    replace hrun := hb_some hrun
    obtain ⟨h503, g503, hrun⟩ := hrun
    refine h_put S (fun w q => hT w (i_MacroExpandModel w q)) t_MacroExpandModel t_MacroExpandModel_ok n_MacroExpandModel hK (ci := 1) rfl 22 (by decide) (hT _ fl_MacroExpandModel_142) rfl rfl rfl hw hS g503 d_MacroExpandModel_expandName_503 (fun H locs hw hS => ?_)
    cases hrun
    exact W.vret hx hb hr (fun t ht hW9 => ⟨⟨(), rfl, trivial, by show hW D dA classes b0 _ _ t.heap; rw [ht]; exact hw⟩, hS.F ht⟩) hS.2.2 d_MacroExpandModel_expandName_506
  have l_300 : ∀ (x2 : Int32) (x3 : Int32) (x6 : Int32) (x7 : Int32) (x8 : Int32) (n9 : Nat) (x9 : Int32 × Int32) (h : hH) (b9 : (Unit)) (h9 : hH) (H : Heap) (locs : List Loc) (ls : Array Slot), hloopW (f_MacroExpandModel_expandName_b300 n a0 x2 x3 x6 x7 x8) n9 x9 h = some (b9, h9) → hW D dA classes b0 nx h H → va_S (hA b0) s.heap H locs → lv_has ls 14 (match x9 with | (x9, x10) => [(0, .ref a0), (2, .int x2), (3, .int x3), (6, .int x6), (7, .int x7), (8, .int x8), (9, .int x9), (10, .int x10)]) → (b9 = () → ∀ (H : Heap) (locs : List Loc) (ls : Array Slot), hW D dA classes b0 nx h9 H → va_S (hA b0) s.heap H locs → lv_has ls 14 [(0, .ref a0), (2, .int x2), (6, .int x6), (7, .int x7), (8, .int x8)] → W p l e (headSpec w_MacroExpandModel_expandName ({ frames := 5, cells := 0, slots := 0, locals := 114 } : Room)).room s m ([.ref a0, .int i1] : List Value).toArray below meth c H locs 0 0 (MQ below (va_Qv (fun (_ : Unit) => True) (fun (_ : Unit) t => hW D dA classes b0 nx h' t.heap) (hA b0)) ([.ref a0, .int i1] : List Value).toArray s 0 0 (hA b0)) (F0 m 439 ls [])) → W p l e (headSpec w_MacroExpandModel_expandName ({ frames := 5, cells := 0, slots := 0, locals := 114 } : Room)).room s m ([.ref a0, .int i1] : List Value).toArray below meth c H locs 0 0 (MQ below (va_Qv (fun (_ : Unit) => True) (fun (_ : Unit) t => hW D dA classes b0 nx h' t.heap) (hA b0)) ([.ref a0, .int i1] : List Value).toArray s 0 0 (hA b0)) (F0 m 300 ls []) := by
    intro x2 x3 x6 x7 x8 n9
    induction n9 with
    | zero =>
      intro x9 h b9 h9 H locs ls hrun
      cases hrun
    | succ n9 ih =>
      rintro ⟨x9, x10⟩ h b9 h9 H locs ls hrun hw hS hl k0
      have hl : lv_has ls 14 [(0, .ref a0), (2, .int x2), (3, .int x3), (6, .int x6), (7, .int x7), (8, .int x8), (9, .int x9), (10, .int x10)] := hl
      unfold hloopW at hrun
      obtain ⟨q9, h9b, hbody, hrun9⟩ := hbW_some hrun
      have K0 : (∀ (z9 : Int32) (z10 : Int32), q9 = .inl (z9, z10) → ∀ (H : Heap) (locs : List Loc) (ls : Array Slot), hW D dA classes b0 nx h9b H → va_S (hA b0) s.heap H locs → lv_has ls 14 [(0, .ref a0), (2, .int x2), (3, .int x3), (6, .int x6), (7, .int x7), (8, .int x8), (9, .int z9), (10, .int z10)] → W p l e (headSpec w_MacroExpandModel_expandName ({ frames := 5, cells := 0, slots := 0, locals := 114 } : Room)).room s m ([.ref a0, .int i1] : List Value).toArray below meth c H locs 0 0 (MQ below (va_Qv (fun (_ : Unit) => True) (fun (_ : Unit) t => hW D dA classes b0 nx h' t.heap) (hA b0)) ([.ref a0, .int i1] : List Value).toArray s 0 0 (hA b0)) (F0 m 300 ls [])) := by
        intro z9 z10 eq9 H locs ls hw hS hl
        subst eq9
        exact ih (z9, z10) h9b b9 h9 H locs ls hrun9 hw hS hl k0
      have K1 : (q9 = .inr () → ∀ (H : Heap) (locs : List Loc) (ls : Array Slot), hW D dA classes b0 nx h9b H → va_S (hA b0) s.heap H locs → lv_has ls 14 [(0, .ref a0), (2, .int x2), (6, .int x6), (7, .int x7), (8, .int x8)] → W p l e (headSpec w_MacroExpandModel_expandName ({ frames := 5, cells := 0, slots := 0, locals := 114 } : Room)).room s m ([.ref a0, .int i1] : List Value).toArray below meth c H locs 0 0 (MQ below (va_Qv (fun (_ : Unit) => True) (fun (_ : Unit) t => hW D dA classes b0 nx h' t.heap) (hA b0)) ([.ref a0, .int i1] : List Value).toArray s 0 0 (hA b0)) (F0 m 439 ls [])) := by
        intro  eq9 H locs ls hw hS hl
        subst eq9
        cases hrun9
        exact k0  rfl H locs ls hw hS hl
      clear hrun hrun9 ih k0
      have hrun := hbody
      clear hbody
      have j_433 : ∀  (x2 : Int32) (x3 : Int32) (x6 : Int32) (x7 : Int32) (x8 : Int32) (x9 : Int32) (x10 : Int32) (q9 : (Int32 × Int32) ⊕ ((Unit))) (h9 : hH) (h : hH) (H : Heap) (locs : List Loc) (ls : Array Slot), f_MacroExpandModel_expandName_j433 n a0 x2 x3 x6 x7 x8 x9 x10 h = some (q9, h9) → hW D dA classes b0 nx h H → va_S (hA b0) s.heap H locs → lv_has ls 14 [(0, .ref a0), (2, .int x2), (3, .int x3), (6, .int x6), (7, .int x7), (8, .int x8), (9, .int x9), (10, .int x10)] → (∀ (z9 : Int32) (z10 : Int32), q9 = .inl (z9, z10) → ∀ (H : Heap) (locs : List Loc) (ls : Array Slot), hW D dA classes b0 nx h9 H → va_S (hA b0) s.heap H locs → lv_has ls 14 [(0, .ref a0), (2, .int x2), (3, .int x3), (6, .int x6), (7, .int x7), (8, .int x8), (9, .int z9), (10, .int z10)] → W p l e (headSpec w_MacroExpandModel_expandName ({ frames := 5, cells := 0, slots := 0, locals := 114 } : Room)).room s m ([.ref a0, .int i1] : List Value).toArray below meth c H locs 0 0 (MQ below (va_Qv (fun (_ : Unit) => True) (fun (_ : Unit) t => hW D dA classes b0 nx h' t.heap) (hA b0)) ([.ref a0, .int i1] : List Value).toArray s 0 0 (hA b0)) (F0 m 300 ls [])) → (q9 = .inr () → ∀ (H : Heap) (locs : List Loc) (ls : Array Slot), hW D dA classes b0 nx h9 H → va_S (hA b0) s.heap H locs → lv_has ls 14 [(0, .ref a0), (2, .int x2), (6, .int x6), (7, .int x7), (8, .int x8)] → W p l e (headSpec w_MacroExpandModel_expandName ({ frames := 5, cells := 0, slots := 0, locals := 114 } : Room)).room s m ([.ref a0, .int i1] : List Value).toArray below meth c H locs 0 0 (MQ below (va_Qv (fun (_ : Unit) => True) (fun (_ : Unit) t => hW D dA classes b0 nx h' t.heap) (hA b0)) ([.ref a0, .int i1] : List Value).toArray s 0 0 (hA b0)) (F0 m 439 ls [])) → W p l e (headSpec w_MacroExpandModel_expandName ({ frames := 5, cells := 0, slots := 0, locals := 114 } : Room)).room s m ([.ref a0, .int i1] : List Value).toArray below meth c H locs 0 0 (MQ below (va_Qv (fun (_ : Unit) => True) (fun (_ : Unit) t => hW D dA classes b0 nx h' t.heap) (hA b0)) ([.ref a0, .int i1] : List Value).toArray s 0 0 (hA b0)) (F0 m 433 ls []) := by
        intro x2 x3 x6 x7 x8 x9 x10 q9 h9 h H locs ls hrun hw hS hl k0 k1
        unfold f_MacroExpandModel_expandName_j433 at hrun
        refine lv_iinc (v := (x10 + (1 : Int32))) (lv' := [(10, .int (x10 + (1 : Int32))), (0, .ref a0), (2, .int x2), (3, .int x3), (6, .int x6), (7, .int x7), (8, .int x8), (9, .int x9)]) hx hb d_MacroExpandModel_expandName_433 hl (k := 7) rfl rfl (by decide) rfl (fun ls hl => ?_)
        refine lv_goto (tgt := 300) hx hb d_MacroExpandModel_expandName_436 (by decide) ?_
        cases hrun
        exact k0 x9 (x10 + (1 : Int32)) rfl H locs ls hw hS (lv_sub hl [1, 2, 3, 4, 5, 6, 7, 0] rfl)
      have j_427 : ∀  (x2 : Int32) (x3 : Int32) (x6 : Int32) (x7 : Int32) (x8 : Int32) (x9 : Int32) (x10 : Int32) (y0 : Option Nat) (y1 : Int32) (y2 : Int32) (q9 : (Int32 × Int32) ⊕ ((Unit))) (h9 : hH) (h : hH) (H : Heap) (locs : List Loc) (ls : Array Slot), f_MacroExpandModel_expandName_j427 n a0 x2 x3 x6 x7 x8 x9 x10 y0 y1 y2 h = some (q9, h9) → hW D dA classes b0 nx h H → va_S (hA b0) s.heap H locs → lv_has ls 14 [(0, .ref a0), (2, .int x2), (3, .int x3), (6, .int x6), (7, .int x7), (8, .int x8), (9, .int x9), (10, .int x10)] → (∀ (z9 : Int32) (z10 : Int32), q9 = .inl (z9, z10) → ∀ (H : Heap) (locs : List Loc) (ls : Array Slot), hW D dA classes b0 nx h9 H → va_S (hA b0) s.heap H locs → lv_has ls 14 [(0, .ref a0), (2, .int x2), (3, .int x3), (6, .int x6), (7, .int x7), (8, .int x8), (9, .int z9), (10, .int z10)] → W p l e (headSpec w_MacroExpandModel_expandName ({ frames := 5, cells := 0, slots := 0, locals := 114 } : Room)).room s m ([.ref a0, .int i1] : List Value).toArray below meth c H locs 0 0 (MQ below (va_Qv (fun (_ : Unit) => True) (fun (_ : Unit) t => hW D dA classes b0 nx h' t.heap) (hA b0)) ([.ref a0, .int i1] : List Value).toArray s 0 0 (hA b0)) (F0 m 300 ls [])) → (q9 = .inr () → ∀ (H : Heap) (locs : List Loc) (ls : Array Slot), hW D dA classes b0 nx h9 H → va_S (hA b0) s.heap H locs → lv_has ls 14 [(0, .ref a0), (2, .int x2), (6, .int x6), (7, .int x7), (8, .int x8)] → W p l e (headSpec w_MacroExpandModel_expandName ({ frames := 5, cells := 0, slots := 0, locals := 114 } : Room)).room s m ([.ref a0, .int i1] : List Value).toArray below meth c H locs 0 0 (MQ below (va_Qv (fun (_ : Unit) => True) (fun (_ : Unit) t => hW D dA classes b0 nx h' t.heap) (hA b0)) ([.ref a0, .int i1] : List Value).toArray s 0 0 (hA b0)) (F0 m 439 ls [])) → W p l e (headSpec w_MacroExpandModel_expandName ({ frames := 5, cells := 0, slots := 0, locals := 114 } : Room)).room s m ([.ref a0, .int i1] : List Value).toArray below meth c H locs 0 0 (MQ below (va_Qv (fun (_ : Unit) => True) (fun (_ : Unit) t => hW D dA classes b0 nx h' t.heap) (hA b0)) ([.ref a0, .int i1] : List Value).toArray s 0 0 (hA b0)) (F0 m 427 ls [.int y2, .int y1, va_rf y0]) := by
        intro x2 x3 x6 x7 x8 x9 x10 y0 y1 y2 q9 h9 h H locs ls hrun hw hS hl k0 k1
        unfold f_MacroExpandModel_expandName_j427 at hrun
        replace hrun := hb_some hrun
        obtain ⟨p427, rfl, hrun⟩ := hrun
        replace hrun := hb_some hrun
        obtain ⟨c427, k427, hrun⟩ := hrun
        replace hrun := hbW_some hrun
        obtain ⟨_u427, h427, g427, hrun⟩ := hrun
        refine h_cv (h_runV S (As := [.int y1, .int y2]) (rest := []) (c_MacroExpandModel_set l D dA b0 p427 y1 y2 nx g427) (cwV 2 S.2.2.2.2 (h_good _ (h_in4 ml_MacroExpandModel_166 im_MacroExpandModel_set se_MacroExpandModel_set it_MacroExpandModel) cd_MacroExpandModel_set) rfl rfl rfl (by decide +kernel) ⟨Nat.le_of_ble_eq_true rfl, Nat.le_of_ble_eq_true rfl⟩) hK hN hw (ci := 1) rfl k427 rfl hl.1 (lv_room (Nat.le_of_ble_eq_true rfl)) d_MacroExpandModel_expandName_427 ⟨Nat.le_refl _, Nat.le_refl _⟩) hS (fun H locs hw hS => ?_)
        refine lv_iinc (v := (x9 + (1 : Int32))) (lv' := [(9, .int (x9 + (1 : Int32))), (0, .ref a0), (2, .int x2), (3, .int x3), (6, .int x6), (7, .int x7), (8, .int x8), (10, .int x10)]) hx hb d_MacroExpandModel_expandName_430 hl (k := 6) rfl rfl (by decide) rfl (fun ls hl => ?_)
        exact j_433 x2 x3 x6 x7 x8 (x9 + (1 : Int32)) x10 _ _ h427 _ _ _ hrun hw hS (lv_sub hl [1, 2, 3, 4, 5, 6, 0, 7] rfl) k0 k1
      have l_351 : ∀ (x2 : Int32) (x3 : Int32) (x6 : Int32) (x7 : Int32) (x8 : Int32) (x10 : Int32) (x12 : Int32) (n9 : Nat) (x9 : Int32 × Int32) (h : hH) (b9 : (Int32)) (h9 : hH) (H : Heap) (locs : List Loc) (ls : Array Slot), hloopW (f_MacroExpandModel_expandName_b351 n a0 x2 x3 x6 x7 x8 x10 x12) n9 x9 h = some (b9, h9) → hW D dA classes b0 nx h H → va_S (hA b0) s.heap H locs → lv_has ls 14 (match x9 with | (x9, x13) => [(0, .ref a0), (2, .int x2), (3, .int x3), (6, .int x6), (7, .int x7), (8, .int x8), (9, .int x9), (10, .int x10), (12, .int x12), (13, .int x13)]) → (∀ (z9 : Int32), b9 = z9 → ∀ (H : Heap) (locs : List Loc) (ls : Array Slot), hW D dA classes b0 nx h9 H → va_S (hA b0) s.heap H locs → lv_has ls 14 [(0, .ref a0), (2, .int x2), (3, .int x3), (6, .int x6), (7, .int x7), (8, .int x8), (9, .int z9), (10, .int x10)] → W p l e (headSpec w_MacroExpandModel_expandName ({ frames := 5, cells := 0, slots := 0, locals := 114 } : Room)).room s m ([.ref a0, .int i1] : List Value).toArray below meth c H locs 0 0 (MQ below (va_Qv (fun (_ : Unit) => True) (fun (_ : Unit) t => hW D dA classes b0 nx h' t.heap) (hA b0)) ([.ref a0, .int i1] : List Value).toArray s 0 0 (hA b0)) (F0 m 403 ls [])) → W p l e (headSpec w_MacroExpandModel_expandName ({ frames := 5, cells := 0, slots := 0, locals := 114 } : Room)).room s m ([.ref a0, .int i1] : List Value).toArray below meth c H locs 0 0 (MQ below (va_Qv (fun (_ : Unit) => True) (fun (_ : Unit) t => hW D dA classes b0 nx h' t.heap) (hA b0)) ([.ref a0, .int i1] : List Value).toArray s 0 0 (hA b0)) (F0 m 351 ls []) := by
        intro x2 x3 x6 x7 x8 x10 x12 n9
        induction n9 with
        | zero =>
          intro x9 h b9 h9 H locs ls hrun
          cases hrun
        | succ n9 ih =>
          rintro ⟨x9, x13⟩ h b9 h9 H locs ls hrun hw hS hl k0
          have hl : lv_has ls 14 [(0, .ref a0), (2, .int x2), (3, .int x3), (6, .int x6), (7, .int x7), (8, .int x8), (9, .int x9), (10, .int x10), (12, .int x12), (13, .int x13)] := hl
          unfold hloopW at hrun
          obtain ⟨q9, h9b, hbody, hrun9⟩ := hbW_some hrun
          have K0 : (∀ (z9 : Int32) (z13 : Int32), q9 = .inl (z9, z13) → ∀ (H : Heap) (locs : List Loc) (ls : Array Slot), hW D dA classes b0 nx h9b H → va_S (hA b0) s.heap H locs → lv_has ls 14 [(0, .ref a0), (2, .int x2), (3, .int x3), (6, .int x6), (7, .int x7), (8, .int x8), (9, .int z9), (10, .int x10), (12, .int x12), (13, .int z13)] → W p l e (headSpec w_MacroExpandModel_expandName ({ frames := 5, cells := 0, slots := 0, locals := 114 } : Room)).room s m ([.ref a0, .int i1] : List Value).toArray below meth c H locs 0 0 (MQ below (va_Qv (fun (_ : Unit) => True) (fun (_ : Unit) t => hW D dA classes b0 nx h' t.heap) (hA b0)) ([.ref a0, .int i1] : List Value).toArray s 0 0 (hA b0)) (F0 m 351 ls [])) := by
            intro z9 z13 eq9 H locs ls hw hS hl
            subst eq9
            exact ih (z9, z13) h9b b9 h9 H locs ls hrun9 hw hS hl k0
          have K1 : (∀ (z9 : Int32), q9 = .inr z9 → ∀ (H : Heap) (locs : List Loc) (ls : Array Slot), hW D dA classes b0 nx h9b H → va_S (hA b0) s.heap H locs → lv_has ls 14 [(0, .ref a0), (2, .int x2), (3, .int x3), (6, .int x6), (7, .int x7), (8, .int x8), (9, .int z9), (10, .int x10)] → W p l e (headSpec w_MacroExpandModel_expandName ({ frames := 5, cells := 0, slots := 0, locals := 114 } : Room)).room s m ([.ref a0, .int i1] : List Value).toArray below meth c H locs 0 0 (MQ below (va_Qv (fun (_ : Unit) => True) (fun (_ : Unit) t => hW D dA classes b0 nx h' t.heap) (hA b0)) ([.ref a0, .int i1] : List Value).toArray s 0 0 (hA b0)) (F0 m 403 ls [])) := by
            intro z9 eq9 H locs ls hw hS hl
            subst eq9
            cases hrun9
            exact k0 _ rfl H locs ls hw hS hl
          clear hrun hrun9 ih k0
          have hrun := hbody
          clear hbody
          dsimp only [f_MacroExpandModel_expandName_b351] at hrun
          refine lv_iload hx hb d_MacroExpandModel_expandName_351 (lv_at hl 8 rfl) ?_
          refine lv_aload_n hx hb d_MacroExpandModel_expandName_353 rfl (lv_at hl 0 rfl) ?_
          replace hrun := hb_some hrun
          obtain ⟨v354, g354, hrun⟩ := hrun
          refine h_getR S (fun w q => hT w (i_MacroExpandModel w q)) hK (ci := 1) rfl 7 (by decide) (hT _ fl_MacroExpandModel_16) hw g354 d_MacroExpandModel_expandName_354 ?_
          refine lv_iload_n hx hb d_MacroExpandModel_expandName_357 rfl (lv_at hl 2 rfl) ?_
          replace hrun := hb_some hrun
          obtain ⟨p358, rfl, hrun⟩ := hrun
          replace hrun := hb_some hrun
          obtain ⟨v358, g358, hrun⟩ := hrun
          refine h_iald S hK (kd := 0) rfl hw g358 d_MacroExpandModel_expandName_358 ?_
          refine lv_icmp_gt (tgt := 403) hx hb d_MacroExpandModel_expandName_359 (by decide) (fun c359 => ?_) (fun c359 => ?_)
          · rw [if_pos c359] at hrun
            cases hrun
            exact K1 x9 rfl H locs ls hw hS (lv_sub hl [0, 1, 2, 3, 4, 5, 6, 7] rfl)
          · rw [if_neg c359] at hrun
            refine lv_iload hx hb d_MacroExpandModel_expandName_362 (lv_at hl 9 rfl) ?_
            refine lv_aload_n hx hb d_MacroExpandModel_expandName_364 rfl (lv_at hl 0 rfl) ?_
            replace hrun := hb_some hrun
            obtain ⟨v365, g365, hrun⟩ := hrun
            refine h_getR S (fun w q => hT w (i_MacroExpandModel w q)) hK (ci := 1) rfl 19 (by decide) (hT _ fl_MacroExpandModel_47) hw g365 d_MacroExpandModel_expandName_365 ?_
            refine lv_iload hx hb d_MacroExpandModel_expandName_368 (lv_at hl 8 rfl) ?_
            replace hrun := hb_some hrun
            obtain ⟨p370, rfl, hrun⟩ := hrun
            replace hrun := hb_some hrun
            obtain ⟨v370, g370, hrun⟩ := hrun
            refine h_iald S hK (kd := 0) rfl hw g370 d_MacroExpandModel_expandName_370 ?_
            refine lv_icmp_ge (tgt := 403) hx hb d_MacroExpandModel_expandName_371 (by decide) (fun c371 => ?_) (fun c371 => ?_)
            · rw [if_pos c371] at hrun
              cases hrun
              exact K1 x9 rfl H locs ls hw hS (lv_sub hl [0, 1, 2, 3, 4, 5, 6, 7] rfl)
            · rw [if_neg c371] at hrun
              refine lv_aload_n hx hb d_MacroExpandModel_expandName_374 rfl (lv_at hl 0 rfl) ?_
              refine lv_iload hx hb d_MacroExpandModel_expandName_375 (lv_at hl 6 rfl) ?_
              refine lv_aload_n hx hb d_MacroExpandModel_expandName_377 rfl (lv_at hl 0 rfl) ?_
              replace hrun := hb_some hrun
              obtain ⟨v378, g378, hrun⟩ := hrun
              refine h_getR S (fun w q => hT w (i_MacroExpandModel w q)) hK (ci := 1) rfl 20 (by decide) (hT _ fl_MacroExpandModel_50) hw g378 d_MacroExpandModel_expandName_378 ?_
              refine lv_sipush (v := (400 : Int32)) hx hb d_MacroExpandModel_expandName_381 (by decide) ?_
              refine lv_iload hx hb d_MacroExpandModel_expandName_384 (lv_at hl 8 rfl) ?_
              refine lv_imul hx hb d_MacroExpandModel_expandName_386 ?_
              refine lv_iload hx hb d_MacroExpandModel_expandName_387 (lv_at hl 9 rfl) ?_
              refine lv_iadd hx hb d_MacroExpandModel_expandName_389 ?_
              replace hrun := hb_some hrun
              obtain ⟨p390, rfl, hrun⟩ := hrun
              replace hrun := hb_some hrun
              obtain ⟨v390, g390, hrun⟩ := hrun
              refine h_iald S hK (kd := 0) rfl hw g390 d_MacroExpandModel_expandName_390 ?_
              replace hrun := hb_some hrun
              obtain ⟨c391, k391, hrun⟩ := hrun
              replace hrun := hbW_some hrun
              obtain ⟨_u391, h391, g391, hrun⟩ := hrun
              refine h_cv (h_runV S (As := [.int x9, .int v390]) (rest := []) (c_MacroExpandModel_set l D dA b0 a0 x9 v390 nx g391) (cwV 2 S.2.2.2.2 (h_good _ (h_in4 ml_MacroExpandModel_166 im_MacroExpandModel_set se_MacroExpandModel_set it_MacroExpandModel) cd_MacroExpandModel_set) rfl rfl rfl (by decide +kernel) ⟨Nat.le_of_ble_eq_true rfl, Nat.le_of_ble_eq_true rfl⟩) hK hN hw (ci := 1) rfl k391 rfl hl.1 (lv_room (Nat.le_of_ble_eq_true rfl)) d_MacroExpandModel_expandName_391 ⟨Nat.le_refl _, Nat.le_refl _⟩) hS (fun H locs hw hS => ?_)
              refine lv_iinc (v := (x9 + (1 : Int32))) (lv' := [(9, .int (x9 + (1 : Int32))), (0, .ref a0), (2, .int x2), (3, .int x3), (6, .int x6), (7, .int x7), (8, .int x8), (10, .int x10), (12, .int x12), (13, .int x13)]) hx hb d_MacroExpandModel_expandName_394 hl (k := 6) rfl rfl (by decide) rfl (fun ls hl => ?_)
              refine lv_iinc (v := (x13 + (1 : Int32))) (lv' := [(13, .int (x13 + (1 : Int32))), (9, .int (x9 + (1 : Int32))), (0, .ref a0), (2, .int x2), (3, .int x3), (6, .int x6), (7, .int x7), (8, .int x8), (10, .int x10), (12, .int x12)]) hx hb d_MacroExpandModel_expandName_397 hl (k := 9) rfl rfl (by decide) rfl (fun ls hl => ?_)
              refine lv_goto (tgt := 351) hx hb d_MacroExpandModel_expandName_400 (by decide) ?_
              cases hrun
              exact K0 (x9 + (1 : Int32)) (x13 + (1 : Int32)) rfl H locs ls hw hS (lv_sub hl [2, 3, 4, 5, 6, 7, 1, 8, 9, 0] rfl)
      dsimp only [f_MacroExpandModel_expandName_b300] at hrun
      refine lv_iload hx hb d_MacroExpandModel_expandName_300 (lv_at hl 7 rfl) ?_
      refine lv_aload_n hx hb d_MacroExpandModel_expandName_302 rfl (lv_at hl 0 rfl) ?_
      replace hrun := hb_some hrun
      obtain ⟨v303, g303, hrun⟩ := hrun
      refine h_getR S (fun w q => hT w (i_MacroExpandModel w q)) hK (ci := 1) rfl 9 (by decide) (hT _ fl_MacroExpandModel_22) hw g303 d_MacroExpandModel_expandName_303 ?_
      refine lv_iload_n hx hb d_MacroExpandModel_expandName_306 rfl (lv_at hl 2 rfl) ?_
      replace hrun := hb_some hrun
      obtain ⟨p307, rfl, hrun⟩ := hrun
      replace hrun := hb_some hrun
      obtain ⟨v307, g307, hrun⟩ := hrun
      refine h_iald S hK (kd := 0) rfl hw g307 d_MacroExpandModel_expandName_307 ?_
      refine lv_icmp_ge (tgt := 439) hx hb d_MacroExpandModel_expandName_308 (by decide) (fun c308 => ?_) (fun c308 => ?_)
      · rw [if_pos c308] at hrun
        cases hrun
        exact K1  rfl H locs ls hw hS (lv_sub hl [0, 1, 3, 4, 5] rfl)
      · rw [if_neg c308] at hrun
        refine lv_aload_n hx hb d_MacroExpandModel_expandName_311 rfl (lv_at hl 0 rfl) ?_
        replace hrun := hb_some hrun
        obtain ⟨v312, g312, hrun⟩ := hrun
        refine h_getR S (fun w q => hT w (i_MacroExpandModel w q)) hK (ci := 1) rfl 10 (by decide) (hT _ fl_MacroExpandModel_25) hw g312 d_MacroExpandModel_expandName_312 ?_
        refine lv_sipush (v := (200 : Int32)) hx hb d_MacroExpandModel_expandName_315 (by decide) ?_
        refine lv_iload_n hx hb d_MacroExpandModel_expandName_318 rfl (lv_at hl 2 rfl) ?_
        refine lv_imul hx hb d_MacroExpandModel_expandName_319 ?_
        refine lv_iload hx hb d_MacroExpandModel_expandName_320 (lv_at hl 7 rfl) ?_
        refine lv_iadd hx hb d_MacroExpandModel_expandName_322 ?_
        replace hrun := hb_some hrun
        obtain ⟨p323, rfl, hrun⟩ := hrun
        replace hrun := hb_some hrun
        obtain ⟨v323, g323, hrun⟩ := hrun
        refine h_iald S hK (kd := 0) rfl hw g323 d_MacroExpandModel_expandName_323 ?_
        refine lv_istore (lv' := [(11, .int v323), (0, .ref a0), (2, .int x2), (3, .int x3), (6, .int x6), (7, .int x7), (8, .int x8), (9, .int x9), (10, .int x10)]) hx hb d_MacroExpandModel_expandName_324 hl (by decide) rfl (fun ls hl => ?_)
        refine lv_iload hx hb d_MacroExpandModel_expandName_326 (lv_at hl 0 rfl) ?_
        refine lv_sipush (v := (311 : Int32)) hx hb d_MacroExpandModel_expandName_328 (by decide) ?_
        refine lv_sipush (v := (319 : Int32)) hx hb d_MacroExpandModel_expandName_331 (by decide) ?_
        replace hrun := hb_some hrun
        obtain ⟨v334, g334, hrun⟩ := hrun
        refine h_ci (h_runS S (As := [.int v323, .int (311 : Int32), .int (319 : Int32)]) (rest := []) (c_MacroExpandModel_in l D dA b0 v323 (311 : Int32) (319 : Int32) nx g334) (va_cwS 3 S.2.2.2.2 (h_good _ (h_in3 ml_MacroExpandModel_83 sm_MacroExpandModel_in it_MacroExpandModel) cd_MacroExpandModel_in) rfl rfl rfl (by decide +kernel) ⟨Nat.le_of_ble_eq_true rfl, Nat.le_of_ble_eq_true rfl⟩) hK hN hw rfl hl.1 (lv_room (Nat.le_of_ble_eq_true rfl)) d_MacroExpandModel_expandName_334 ⟨Nat.le_refl _, Nat.le_refl _⟩) hS (fun H locs hw hS => ?_)
        refine lv_if_eq (tgt := 406) hx hb d_MacroExpandModel_expandName_337 (by decide) (fun c337 => ?_) (fun c337 => ?_)
        · rw [if_pos c337] at hrun
          refine lv_aload_n hx hb d_MacroExpandModel_expandName_406 rfl (lv_at hl 1 rfl) ?_
          refine lv_iload hx hb d_MacroExpandModel_expandName_407 (lv_at hl 7 rfl) ?_
          refine lv_iload hx hb d_MacroExpandModel_expandName_409 (lv_at hl 0 rfl) ?_
          replace hrun := hb_some hrun
          obtain ⟨v411, g411, hrun⟩ := hrun
          refine h_ci (h_runS S (As := [.int v323]) (rest := [.int x9, .ref a0]) (c_MacroExpandModel_isParameter l D dA b0 v323 nx g411) (va_cwS 1 S.2.2.2.2 (h_good _ (h_in3 ml_MacroExpandModel_87 sm_MacroExpandModel_isParameter it_MacroExpandModel) cd_MacroExpandModel_isParameter) rfl rfl rfl (by decide +kernel) ⟨Nat.le_of_ble_eq_true rfl, Nat.le_of_ble_eq_true rfl⟩) hK hN hw rfl hl.1 (lv_room (Nat.le_of_ble_eq_true rfl)) d_MacroExpandModel_expandName_411 ⟨Nat.le_refl _, Nat.le_refl _⟩) hS (fun H locs hw hS => ?_)
          refine lv_if_eq (tgt := 425) hx hb d_MacroExpandModel_expandName_414 (by decide) (fun c414 => ?_) (fun c414 => ?_)
          · rw [if_pos c414] at hrun
            refine lv_iload hx hb d_MacroExpandModel_expandName_425 (lv_at hl 0 rfl) ?_
            exact j_427 x2 x3 x6 x7 x8 x9 x10 (some a0) x9 v323 _ _ h _ _ _ hrun hw hS (lv_sub hl [1, 2, 3, 4, 5, 6, 7, 8] rfl) K0 K1
          · rw [if_neg c414] at hrun
            refine lv_iload hx hb d_MacroExpandModel_expandName_417 (lv_at hl 0 rfl) ?_
            refine lv_bipush (v := (10 : Int32)) hx hb d_MacroExpandModel_expandName_419 (by decide) ?_
            refine lv_isub hx hb d_MacroExpandModel_expandName_421 ?_
            refine lv_goto (tgt := 427) hx hb d_MacroExpandModel_expandName_422 (by decide) ?_
            exact j_427 x2 x3 x6 x7 x8 x9 x10 (some a0) x9 (v323 - (10 : Int32)) _ _ h _ _ _ hrun hw hS (lv_sub hl [1, 2, 3, 4, 5, 6, 7, 8] rfl) K0 K1
        · rw [if_neg c337] at hrun
          refine lv_iload hx hb d_MacroExpandModel_expandName_340 (lv_at hl 0 rfl) ?_
          refine lv_sipush (v := (310 : Int32)) hx hb d_MacroExpandModel_expandName_342 (by decide) ?_
          refine lv_isub hx hb d_MacroExpandModel_expandName_345 ?_
          refine lv_istore (lv' := [(12, .int (v323 - (310 : Int32))), (11, .int v323), (0, .ref a0), (2, .int x2), (3, .int x3), (6, .int x6), (7, .int x7), (8, .int x8), (9, .int x9), (10, .int x10)]) hx hb d_MacroExpandModel_expandName_346 hl (by decide) rfl (fun ls hl => ?_)
          refine lv_iconst (v := (0 : Int32)) hx hb d_MacroExpandModel_expandName_348 (by decide) ?_
          refine lv_istore (lv' := [(13, .int (0 : Int32)), (12, .int (v323 - (310 : Int32))), (11, .int v323), (0, .ref a0), (2, .int x2), (3, .int x3), (6, .int x6), (7, .int x7), (8, .int x8), (9, .int x9), (10, .int x10)]) hx hb d_MacroExpandModel_expandName_349 hl (by decide) rfl (fun ls hl => ?_)
          replace hrun := hbW_some hrun
          obtain ⟨b351, h351l, g351, hrun⟩ := hrun
          refine l_351 x2 x3 x6 x7 x8 x10 (v323 - (310 : Int32)) n (x9, (0 : Int32)) h _ _ _ _ _ g351 hw hS (lv_sub hl [3, 4, 5, 6, 7, 8, 9, 10, 1, 0] rfl) ?_
          · rintro x9_351 eq9 H locs ls hw hS hl
            obtain rfl := eq9.symm
            try dsimp only at hrun
            refine lv_goto (tgt := 433) hx hb d_MacroExpandModel_expandName_403 (by decide) ?_
            exact j_433 x2 x3 x6 x7 x8 x9_351 x10 _ _ h351l _ _ _ hrun hw hS (lv_sub hl [0, 1, 2, 3, 4, 5, 6, 7] rfl) K0 K1
  have j_264 : ∀  (x1 : Int32) (x2 : Int32) (x3 : Int32) (x5 : Int32) (x6 : Int32) (x7 : Int32) (h : hH) (H : Heap) (locs : List Loc) (ls : Array Slot), f_MacroExpandModel_expandName_j264 n a0 x1 x2 x3 x5 x6 x7 h = some (r, h') → hW D dA classes b0 nx h H → va_S (hA b0) s.heap H locs → lv_has ls 14 [(0, .ref a0), (1, .int x1), (2, .int x2), (3, .int x3), (5, .int x5), (6, .int x6), (7, .int x7)] → W p l e (headSpec w_MacroExpandModel_expandName ({ frames := 5, cells := 0, slots := 0, locals := 114 } : Room)).room s m ([.ref a0, .int i1] : List Value).toArray below meth c H locs 0 0 (MQ below (va_Qv (fun (_ : Unit) => True) (fun (_ : Unit) t => hW D dA classes b0 nx h' t.heap) (hA b0)) ([.ref a0, .int i1] : List Value).toArray s 0 0 (hA b0)) (F0 m 264 ls []) := by
    intro x1 x2 x3 x5 x6 x7 h H locs ls hrun hw hS hl
    unfold f_MacroExpandModel_expandName_j264 at hrun
    refine lv_aload_n hx hb d_MacroExpandModel_expandName_264 rfl (lv_at hl 0 rfl) ?_
    replace hrun := hb_some hrun
    obtain ⟨v265, g265, hrun⟩ := hrun
    refine h_getI S (fun w q => hT w (i_MacroExpandModel w q)) hK (ci := 1) rfl 21 (by decide) (hT _ fl_MacroExpandModel_113) hw g265 d_MacroExpandModel_expandName_265 ?_
    refine lv_if_eq (tgt := 272) hx hb d_MacroExpandModel_expandName_268 (by decide) (fun c268 => ?_) (fun c268 => ?_)
    · rw [if_pos c268] at hrun
      refine lv_aload_n hx hb d_MacroExpandModel_expandName_272 rfl (lv_at hl 0 rfl) ?_
      replace hrun := hb_some hrun
      obtain ⟨v273, g273, hrun⟩ := hrun
      refine h_getI S (fun w q => hT w (i_MacroExpandModel w q)) hK (ci := 1) rfl 22 (by decide) (hT _ fl_MacroExpandModel_142) hw g273 d_MacroExpandModel_expandName_273 ?_
      refine lv_istore (lv' := [(8, .int v273), (0, .ref a0), (1, .int x1), (2, .int x2), (3, .int x3), (5, .int x5), (6, .int x6), (7, .int x7)]) hx hb d_MacroExpandModel_expandName_276 hl (by decide) rfl (fun ls hl => ?_)
      refine lv_aload_n hx hb d_MacroExpandModel_expandName_278 rfl (lv_at hl 1 rfl) ?_
      refine lv_iload_n hx hb d_MacroExpandModel_expandName_279 rfl (lv_at hl 2 rfl) ?_
      refine lv_iload hx hb d_MacroExpandModel_expandName_280 (lv_at hl 5 rfl) ?_
      refine lv_iload_n hx hb d_MacroExpandModel_expandName_282 rfl (lv_at hl 2 rfl) ?_
      refine lv_isub hx hb d_MacroExpandModel_expandName_283 ?_
      replace hrun := hb_some hrun
      obtain ⟨c284, k284, hrun⟩ := hrun
      replace hrun := hbW_some hrun
      obtain ⟨_u284, h284, g284, hrun⟩ := hrun
      refine h_cv (h_runV S (As := [.int x1, .int (x5 - x1)]) (rest := []) (c_MacroExpandModel_take l D dA b0 n a0 x1 (x5 - x1) nx g284) (cwV 2 S.2.2.2.2 (h_good _ (h_in4 ml_MacroExpandModel_160 im_MacroExpandModel_take se_MacroExpandModel_take it_MacroExpandModel) cd_MacroExpandModel_take) rfl rfl rfl (by decide +kernel) ⟨Nat.le_of_ble_eq_true rfl, Nat.le_of_ble_eq_true rfl⟩) hK hN hw (ci := 1) rfl k284 rfl hl.1 (lv_room (Nat.le_of_ble_eq_true rfl)) d_MacroExpandModel_expandName_284 ⟨Nat.le_refl _, Nat.le_refl _⟩) hS (fun H locs hw hS => ?_)
      refine lv_aload_n hx hb d_MacroExpandModel_expandName_287 rfl (lv_at hl 1 rfl) ?_
      refine lv_iload_n hx hb d_MacroExpandModel_expandName_288 rfl (lv_at hl 2 rfl) ?_
      refine lv_iload hx hb d_MacroExpandModel_expandName_289 (lv_at hl 7 rfl) ?_
      replace hrun := hb_some hrun
      obtain ⟨c291, k291, hrun⟩ := hrun
      replace hrun := hbW_some hrun
      obtain ⟨_u291, h291, g291, hrun⟩ := hrun
      refine h_cv (h_runV S (As := [.int x1, .int x7]) (rest := []) (c_MacroExpandModel_spread l D dA b0 n a0 x1 x7 nx g291) (cwV 2 S.2.2.2.2 (h_good _ (h_in4 ml_MacroExpandModel_163 im_MacroExpandModel_spread se_MacroExpandModel_spread it_MacroExpandModel) cd_MacroExpandModel_spread) rfl rfl rfl (by decide +kernel) ⟨Nat.le_of_ble_eq_true rfl, Nat.le_of_ble_eq_true rfl⟩) hK hN hw (ci := 1) rfl k291 rfl hl.1 (lv_room (Nat.le_of_ble_eq_true rfl)) d_MacroExpandModel_expandName_291 ⟨Nat.le_refl _, Nat.le_refl _⟩) hS (fun H locs hw hS => ?_)
      refine lv_iload_n hx hb d_MacroExpandModel_expandName_294 rfl (lv_at hl 2 rfl) ?_
      refine lv_istore (lv' := [(9, .int x1), (8, .int v273), (0, .ref a0), (1, .int x1), (2, .int x2), (3, .int x3), (5, .int x5), (6, .int x6), (7, .int x7)]) hx hb d_MacroExpandModel_expandName_295 hl (by decide) rfl (fun ls hl => ?_)
      refine lv_iconst (v := (0 : Int32)) hx hb d_MacroExpandModel_expandName_297 (by decide) ?_
      refine lv_istore (lv' := [(10, .int (0 : Int32)), (9, .int x1), (8, .int v273), (0, .ref a0), (1, .int x1), (2, .int x2), (3, .int x3), (5, .int x5), (6, .int x6), (7, .int x7)]) hx hb d_MacroExpandModel_expandName_298 hl (by decide) rfl (fun ls hl => ?_)
      replace hrun := hbW_some hrun
      obtain ⟨b300, h300l, g300, hrun⟩ := hrun
      refine l_300 x2 x3 x6 x7 v273 n (x1, (0 : Int32)) h291 _ _ _ _ _ g300 hw hS (lv_sub hl [3, 5, 6, 8, 9, 2, 1, 0] rfl) ?_
      · rintro  eq9 H locs ls hw hS hl
        obtain rfl := eq9.symm
        try dsimp only at hrun
        refine lv_aload_n hx hb d_MacroExpandModel_expandName_439 rfl (lv_at hl 0 rfl) ?_
        replace hrun := hb_some hrun
        obtain ⟨v440, g440, hrun⟩ := hrun
        refine h_getI S (fun w q => hT w (i_MacroExpandModel w q)) hK (ci := 1) rfl 25 (by decide) (hT _ fl_MacroExpandModel_169) hw g440 d_MacroExpandModel_expandName_440 ?_
        refine lv_bipush (v := (100 : Int32)) hx hb d_MacroExpandModel_expandName_443 (by decide) ?_
        refine lv_icmp_ge (tgt := 501) hx hb d_MacroExpandModel_expandName_445 (by decide) (fun c445 => ?_) (fun c445 => ?_)
        · rw [if_pos c445] at hrun
          exact j_501 x2 h300l _ _ _ hrun hw hS (lv_sub hl [0, 1] rfl)
        · rw [if_neg c445] at hrun
          refine lv_aload_n hx hb d_MacroExpandModel_expandName_448 rfl (lv_at hl 0 rfl) ?_
          replace hrun := hb_some hrun
          obtain ⟨v449, g449, hrun⟩ := hrun
          refine h_getR S (fun w q => hT w (i_MacroExpandModel w q)) hK (ci := 1) rfl 26 (by decide) (hT _ fl_MacroExpandModel_53) hw g449 d_MacroExpandModel_expandName_449 ?_
          refine lv_iconst (v := (3 : Int32)) hx hb d_MacroExpandModel_expandName_452 (by decide) ?_
          refine lv_aload_n hx hb d_MacroExpandModel_expandName_453 rfl (lv_at hl 0 rfl) ?_
          replace hrun := hb_some hrun
          obtain ⟨v454, g454, hrun⟩ := hrun
          refine h_getI S (fun w q => hT w (i_MacroExpandModel w q)) hK (ci := 1) rfl 25 (by decide) (hT _ fl_MacroExpandModel_169) hw g454 d_MacroExpandModel_expandName_454 ?_
          refine lv_imul hx hb d_MacroExpandModel_expandName_457 ?_
          refine lv_iload hx hb d_MacroExpandModel_expandName_458 (lv_at hl 4 rfl) ?_
          replace hrun := hb_some hrun
          obtain ⟨p460, rfl, hrun⟩ := hrun
          replace hrun := hb_some hrun
          obtain ⟨h460, g460, hrun⟩ := hrun
          refine h_iast S hK (kd := 0) rfl hw hS g460 d_MacroExpandModel_expandName_460 (fun H locs hw hS => ?_)
          refine lv_aload_n hx hb d_MacroExpandModel_expandName_461 rfl (lv_at hl 0 rfl) ?_
          replace hrun := hb_some hrun
          obtain ⟨v462, g462, hrun⟩ := hrun
          refine h_getR S (fun w q => hT w (i_MacroExpandModel w q)) hK (ci := 1) rfl 26 (by decide) (hT _ fl_MacroExpandModel_53) hw g462 d_MacroExpandModel_expandName_462 ?_
          refine lv_iconst (v := (3 : Int32)) hx hb d_MacroExpandModel_expandName_465 (by decide) ?_
          refine lv_aload_n hx hb d_MacroExpandModel_expandName_466 rfl (lv_at hl 0 rfl) ?_
          replace hrun := hb_some hrun
          obtain ⟨v467, g467, hrun⟩ := hrun
          refine h_getI S (fun w q => hT w (i_MacroExpandModel w q)) hK (ci := 1) rfl 25 (by decide) (hT _ fl_MacroExpandModel_169) hw g467 d_MacroExpandModel_expandName_467 ?_
          refine lv_imul hx hb d_MacroExpandModel_expandName_470 ?_
          refine lv_iconst (v := (1 : Int32)) hx hb d_MacroExpandModel_expandName_471 (by decide) ?_
          refine lv_iadd hx hb d_MacroExpandModel_expandName_472 ?_
          refine lv_iload hx hb d_MacroExpandModel_expandName_473 (lv_at hl 2 rfl) ?_
          replace hrun := hb_some hrun
          obtain ⟨p475, rfl, hrun⟩ := hrun
          replace hrun := hb_some hrun
          obtain ⟨h475, g475, hrun⟩ := hrun
          refine h_iast S hK (kd := 0) rfl hw hS g475 d_MacroExpandModel_expandName_475 (fun H locs hw hS => ?_)
          refine lv_aload_n hx hb d_MacroExpandModel_expandName_476 rfl (lv_at hl 0 rfl) ?_
          replace hrun := hb_some hrun
          obtain ⟨v477, g477, hrun⟩ := hrun
          refine h_getR S (fun w q => hT w (i_MacroExpandModel w q)) hK (ci := 1) rfl 26 (by decide) (hT _ fl_MacroExpandModel_53) hw g477 d_MacroExpandModel_expandName_477 ?_
          refine lv_iconst (v := (3 : Int32)) hx hb d_MacroExpandModel_expandName_480 (by decide) ?_
          refine lv_aload_n hx hb d_MacroExpandModel_expandName_481 rfl (lv_at hl 0 rfl) ?_
          replace hrun := hb_some hrun
          obtain ⟨v482, g482, hrun⟩ := hrun
          refine h_getI S (fun w q => hT w (i_MacroExpandModel w q)) hK (ci := 1) rfl 25 (by decide) (hT _ fl_MacroExpandModel_169) hw g482 d_MacroExpandModel_expandName_482 ?_
          refine lv_imul hx hb d_MacroExpandModel_expandName_485 ?_
          refine lv_iconst (v := (2 : Int32)) hx hb d_MacroExpandModel_expandName_486 (by decide) ?_
          refine lv_iadd hx hb d_MacroExpandModel_expandName_487 ?_
          refine lv_iload hx hb d_MacroExpandModel_expandName_488 (lv_at hl 3 rfl) ?_
          replace hrun := hb_some hrun
          obtain ⟨p490, rfl, hrun⟩ := hrun
          replace hrun := hb_some hrun
          obtain ⟨h490, g490, hrun⟩ := hrun
          refine h_iast S hK (kd := 0) rfl hw hS g490 d_MacroExpandModel_expandName_490 (fun H locs hw hS => ?_)
          refine lv_aload_n hx hb d_MacroExpandModel_expandName_491 rfl (lv_at hl 0 rfl) ?_
          refine lv_dup hx hb d_MacroExpandModel_expandName_492 rfl ?_
          replace hrun := hb_some hrun
          obtain ⟨v493, g493, hrun⟩ := hrun
          refine h_getI S (fun w q => hT w (i_MacroExpandModel w q)) hK (ci := 1) rfl 25 (by decide) (hT _ fl_MacroExpandModel_169) hw g493 d_MacroExpandModel_expandName_493 ?_
          refine lv_iconst (v := (1 : Int32)) hx hb d_MacroExpandModel_expandName_496 (by decide) ?_
          refine lv_iadd hx hb d_MacroExpandModel_expandName_497 ?_
          replace hrun := hb_some hrun
          obtain ⟨h498, g498, hrun⟩ := hrun
          refine h_put S (fun w q => hT w (i_MacroExpandModel w q)) t_MacroExpandModel t_MacroExpandModel_ok n_MacroExpandModel hK (ci := 1) rfl 25 (by decide) (hT _ fl_MacroExpandModel_169) rfl rfl rfl hw hS g498 d_MacroExpandModel_expandName_498 (fun H locs hw hS => ?_)
          exact j_501 x2 h498 _ _ _ hrun hw hS (lv_sub hl [0, 1] rfl)
    · rw [if_neg c268] at hrun
      cases hrun
      exact W.vret hx hb hr (fun t ht hW9 => ⟨⟨(), rfl, trivial, by show hW D dA classes b0 _ _ t.heap; rw [ht]; exact hw⟩, hS.F ht⟩) hS.2.2 d_MacroExpandModel_expandName_271
  have j_226 : ∀  (x1 : Int32) (x2 : Int32) (x3 : Int32) (x5 : Int32) (x6 : Int32) (y0 : Int32) (h : hH) (H : Heap) (locs : List Loc) (ls : Array Slot), f_MacroExpandModel_expandName_j226 n a0 x1 x2 x3 x5 x6 y0 h = some (r, h') → hW D dA classes b0 nx h H → va_S (hA b0) s.heap H locs → lv_has ls 14 [(0, .ref a0), (1, .int x1), (2, .int x2), (3, .int x3), (5, .int x5), (6, .int x6)] → W p l e (headSpec w_MacroExpandModel_expandName ({ frames := 5, cells := 0, slots := 0, locals := 114 } : Room)).room s m ([.ref a0, .int i1] : List Value).toArray below meth c H locs 0 0 (MQ below (va_Qv (fun (_ : Unit) => True) (fun (_ : Unit) t => hW D dA classes b0 nx h' t.heap) (hA b0)) ([.ref a0, .int i1] : List Value).toArray s 0 0 (hA b0)) (F0 m 226 ls [.int y0]) := by
    intro x1 x2 x3 x5 x6 y0 h H locs ls hrun hw hS hl
    unfold f_MacroExpandModel_expandName_j226 at hrun
    refine lv_istore (lv' := [(7, .int y0), (0, .ref a0), (1, .int x1), (2, .int x2), (3, .int x3), (5, .int x5), (6, .int x6)]) hx hb d_MacroExpandModel_expandName_226 hl (by decide) rfl (fun ls hl => ?_)
    refine lv_aload_n hx hb d_MacroExpandModel_expandName_228 rfl (lv_at hl 1 rfl) ?_
    replace hrun := hb_some hrun
    obtain ⟨v229, g229, hrun⟩ := hrun
    refine h_getI S (fun w q => hT w (i_MacroExpandModel w q)) hK (ci := 1) rfl 21 (by decide) (hT _ fl_MacroExpandModel_113) hw g229 d_MacroExpandModel_expandName_229 ?_
    refine lv_if_ne (tgt := 264) hx hb d_MacroExpandModel_expandName_232 (by decide) (fun c232 => ?_) (fun c232 => ?_)
    · rw [if_neg c232] at hrun
      exact j_264 x1 x2 x3 x5 x6 y0 h _ _ _ hrun hw hS (lv_sub hl [1, 2, 3, 4, 5, 6, 0] rfl)
    · rw [if_pos c232] at hrun
      refine lv_aload_n hx hb d_MacroExpandModel_expandName_235 rfl (lv_at hl 1 rfl) ?_
      replace hrun := hb_some hrun
      obtain ⟨v236, g236, hrun⟩ := hrun
      refine h_getI S (fun w q => hT w (i_MacroExpandModel w q)) hK (ci := 1) rfl 3 (by decide) (hT _ fl_MacroExpandModel_107) hw g236 d_MacroExpandModel_expandName_236 ?_
      refine lv_aload_n hx hb d_MacroExpandModel_expandName_239 rfl (lv_at hl 1 rfl) ?_
      replace hrun := hb_some hrun
      obtain ⟨c240, k240, hrun⟩ := hrun
      replace hrun := hb_some hrun
      obtain ⟨v240, g240, hrun⟩ := hrun
      refine h_ci (h_runV S (As := []) (rest := [.int v236]) (c_MacroExpandModel_passed l D dA b0 n a0 nx g240) (cwV 0 S.2.2.2.2 (h_good _ (h_in4 ml_MacroExpandModel_156 im_MacroExpandModel_passed se_MacroExpandModel_passed it_MacroExpandModel) cd_MacroExpandModel_passed) rfl rfl rfl (by decide +kernel) ⟨Nat.le_of_ble_eq_true rfl, Nat.le_of_ble_eq_true rfl⟩) hK hN hw (ci := 1) rfl k240 rfl hl.1 (lv_room (Nat.le_of_ble_eq_true rfl)) d_MacroExpandModel_expandName_240 ⟨Nat.le_refl _, Nat.le_refl _⟩) hS (fun H locs hw hS => ?_)
      refine lv_isub hx hb d_MacroExpandModel_expandName_243 ?_
      refine lv_iload hx hb d_MacroExpandModel_expandName_244 (lv_at hl 5 rfl) ?_
      refine lv_iload_n hx hb d_MacroExpandModel_expandName_246 rfl (lv_at hl 2 rfl) ?_
      refine lv_isub hx hb d_MacroExpandModel_expandName_247 ?_
      refine lv_isub hx hb d_MacroExpandModel_expandName_248 ?_
      refine lv_iload hx hb d_MacroExpandModel_expandName_249 (lv_at hl 0 rfl) ?_
      refine lv_iadd hx hb d_MacroExpandModel_expandName_251 ?_
      refine lv_sipush (v := (3000 : Int32)) hx hb d_MacroExpandModel_expandName_252 (by decide) ?_
      refine lv_icmp_le (tgt := 264) hx hb d_MacroExpandModel_expandName_255 (by decide) (fun c255 => ?_) (fun c255 => ?_)
      · rw [if_pos c255] at hrun
        exact j_264 x1 x2 x3 x5 x6 y0 h _ _ _ hrun hw hS (lv_sub hl [1, 2, 3, 4, 5, 6, 0] rfl)
      · rw [if_neg c255] at hrun
        refine lv_aload_n hx hb d_MacroExpandModel_expandName_258 rfl (lv_at hl 1 rfl) ?_
        refine lv_bipush (v := (8 : Int32)) hx hb d_MacroExpandModel_expandName_259 (by decide) ?_
        replace hrun := hb_some hrun
        obtain ⟨c261, k261, hrun⟩ := hrun
        replace hrun := hbW_some hrun
        obtain ⟨_u261, h261, g261, hrun⟩ := hrun
        refine h_cv (h_runV S (As := [.int (8 : Int32)]) (rest := []) (c_MacroExpandModel_mark l D dA b0 a0 (8 : Int32) nx g261) (cwV 1 S.2.2.2.2 (h_good _ (h_in4 ml_MacroExpandModel_123 im_MacroExpandModel_mark se_MacroExpandModel_mark it_MacroExpandModel) cd_MacroExpandModel_mark) rfl rfl rfl (by decide +kernel) ⟨Nat.le_of_ble_eq_true rfl, Nat.le_of_ble_eq_true rfl⟩) hK hN hw (ci := 1) rfl k261 rfl hl.1 (lv_room (Nat.le_of_ble_eq_true rfl)) d_MacroExpandModel_expandName_261 ⟨Nat.le_refl _, Nat.le_refl _⟩) hS (fun H locs hw hS => ?_)
        exact j_264 x1 x2 x3 x5 x6 y0 h261 _ _ _ hrun hw hS (lv_sub hl [1, 2, 3, 4, 5, 6, 0] rfl)
  have l_119 : ∀ (x1 : Int32) (x2 : Int32) (x3 : Int32) (x4 : Int32) (n9 : Nat) (x9 : Int32 × Int32 × Int32) (h : hH) (b9 : (Int32 × Int32)) (h9 : hH) (H : Heap) (locs : List Loc) (ls : Array Slot), hloopW (f_MacroExpandModel_expandName_b119 n a0 x1 x2 x3 x4) n9 x9 h = some (b9, h9) → hW D dA classes b0 nx h H → va_S (hA b0) s.heap H locs → lv_has ls 14 (match x9 with | (x5, x6, x7) => [(0, .ref a0), (1, .int x1), (2, .int x2), (3, .int x3), (4, .int x4), (5, .int x5), (6, .int x6), (7, .int x7)]) → (∀ (z5 : Int32) (z6 : Int32), b9 = (z5, z6) → ∀ (H : Heap) (locs : List Loc) (ls : Array Slot), hW D dA classes b0 nx h9 H → va_S (hA b0) s.heap H locs → lv_has ls 14 [(0, .ref a0), (1, .int x1), (2, .int x2), (3, .int x3), (5, .int z5), (6, .int z6)] → W p l e (headSpec w_MacroExpandModel_expandName ({ frames := 5, cells := 0, slots := 0, locals := 114 } : Room)).room s m ([.ref a0, .int i1] : List Value).toArray below meth c H locs 0 0 (MQ below (va_Qv (fun (_ : Unit) => True) (fun (_ : Unit) t => hW D dA classes b0 nx h' t.heap) (hA b0)) ([.ref a0, .int i1] : List Value).toArray s 0 0 (hA b0)) (F0 m 210 ls [])) → W p l e (headSpec w_MacroExpandModel_expandName ({ frames := 5, cells := 0, slots := 0, locals := 114 } : Room)).room s m ([.ref a0, .int i1] : List Value).toArray below meth c H locs 0 0 (MQ below (va_Qv (fun (_ : Unit) => True) (fun (_ : Unit) t => hW D dA classes b0 nx h' t.heap) (hA b0)) ([.ref a0, .int i1] : List Value).toArray s 0 0 (hA b0)) (F0 m 119 ls []) := by
    intro x1 x2 x3 x4 n9
    induction n9 with
    | zero =>
      intro x9 h b9 h9 H locs ls hrun
      cases hrun
    | succ n9 ih =>
      rintro ⟨x5, x6, x7⟩ h b9 h9 H locs ls hrun hw hS hl k0
      have hl : lv_has ls 14 [(0, .ref a0), (1, .int x1), (2, .int x2), (3, .int x3), (4, .int x4), (5, .int x5), (6, .int x6), (7, .int x7)] := hl
      unfold hloopW at hrun
      obtain ⟨q9, h9b, hbody, hrun9⟩ := hbW_some hrun
      have K0 : (∀ (z5 : Int32) (z6 : Int32) (z7 : Int32), q9 = .inl (z5, z6, z7) → ∀ (H : Heap) (locs : List Loc) (ls : Array Slot), hW D dA classes b0 nx h9b H → va_S (hA b0) s.heap H locs → lv_has ls 14 [(0, .ref a0), (1, .int x1), (2, .int x2), (3, .int x3), (4, .int x4), (5, .int z5), (6, .int z6), (7, .int z7)] → W p l e (headSpec w_MacroExpandModel_expandName ({ frames := 5, cells := 0, slots := 0, locals := 114 } : Room)).room s m ([.ref a0, .int i1] : List Value).toArray below meth c H locs 0 0 (MQ below (va_Qv (fun (_ : Unit) => True) (fun (_ : Unit) t => hW D dA classes b0 nx h' t.heap) (hA b0)) ([.ref a0, .int i1] : List Value).toArray s 0 0 (hA b0)) (F0 m 119 ls [])) := by
        intro z5 z6 z7 eq9 H locs ls hw hS hl
        subst eq9
        exact ih (z5, z6, z7) h9b b9 h9 H locs ls hrun9 hw hS hl k0
      have K1 : (∀ (z5 : Int32) (z6 : Int32), q9 = .inr (z5, z6) → ∀ (H : Heap) (locs : List Loc) (ls : Array Slot), hW D dA classes b0 nx h9b H → va_S (hA b0) s.heap H locs → lv_has ls 14 [(0, .ref a0), (1, .int x1), (2, .int x2), (3, .int x3), (5, .int z5), (6, .int z6)] → W p l e (headSpec w_MacroExpandModel_expandName ({ frames := 5, cells := 0, slots := 0, locals := 114 } : Room)).room s m ([.ref a0, .int i1] : List Value).toArray below meth c H locs 0 0 (MQ below (va_Qv (fun (_ : Unit) => True) (fun (_ : Unit) t => hW D dA classes b0 nx h' t.heap) (hA b0)) ([.ref a0, .int i1] : List Value).toArray s 0 0 (hA b0)) (F0 m 210 ls [])) := by
        intro z5 z6 eq9 H locs ls hw hS hl
        subst eq9
        cases hrun9
        exact k0 _ _ rfl H locs ls hw hS hl
      clear hrun hrun9 ih k0
      have hrun := hbody
      clear hbody
      have j_190 : ∀  (x1 : Int32) (x2 : Int32) (x3 : Int32) (x4 : Int32) (x6 : Int32) (x7 : Int32) (y0 : Int32) (q9 : (Int32 × Int32 × Int32) ⊕ ((Int32 × Int32))) (h9 : hH) (h : hH) (H : Heap) (locs : List Loc) (ls : Array Slot), f_MacroExpandModel_expandName_j190 n a0 x1 x2 x3 x4 x6 x7 y0 h = some (q9, h9) → hW D dA classes b0 nx h H → va_S (hA b0) s.heap H locs → lv_has ls 14 [(0, .ref a0), (1, .int x1), (2, .int x2), (3, .int x3), (4, .int x4), (6, .int x6), (7, .int x7)] → (∀ (z5 : Int32) (z6 : Int32) (z7 : Int32), q9 = .inl (z5, z6, z7) → ∀ (H : Heap) (locs : List Loc) (ls : Array Slot), hW D dA classes b0 nx h9 H → va_S (hA b0) s.heap H locs → lv_has ls 14 [(0, .ref a0), (1, .int x1), (2, .int x2), (3, .int x3), (4, .int x4), (5, .int z5), (6, .int z6), (7, .int z7)] → W p l e (headSpec w_MacroExpandModel_expandName ({ frames := 5, cells := 0, slots := 0, locals := 114 } : Room)).room s m ([.ref a0, .int i1] : List Value).toArray below meth c H locs 0 0 (MQ below (va_Qv (fun (_ : Unit) => True) (fun (_ : Unit) t => hW D dA classes b0 nx h' t.heap) (hA b0)) ([.ref a0, .int i1] : List Value).toArray s 0 0 (hA b0)) (F0 m 119 ls [])) → (∀ (z5 : Int32) (z6 : Int32), q9 = .inr (z5, z6) → ∀ (H : Heap) (locs : List Loc) (ls : Array Slot), hW D dA classes b0 nx h9 H → va_S (hA b0) s.heap H locs → lv_has ls 14 [(0, .ref a0), (1, .int x1), (2, .int x2), (3, .int x3), (5, .int z5), (6, .int z6)] → W p l e (headSpec w_MacroExpandModel_expandName ({ frames := 5, cells := 0, slots := 0, locals := 114 } : Room)).room s m ([.ref a0, .int i1] : List Value).toArray below meth c H locs 0 0 (MQ below (va_Qv (fun (_ : Unit) => True) (fun (_ : Unit) t => hW D dA classes b0 nx h' t.heap) (hA b0)) ([.ref a0, .int i1] : List Value).toArray s 0 0 (hA b0)) (F0 m 210 ls [])) → W p l e (headSpec w_MacroExpandModel_expandName ({ frames := 5, cells := 0, slots := 0, locals := 114 } : Room)).room s m ([.ref a0, .int i1] : List Value).toArray below meth c H locs 0 0 (MQ below (va_Qv (fun (_ : Unit) => True) (fun (_ : Unit) t => hW D dA classes b0 nx h' t.heap) (hA b0)) ([.ref a0, .int i1] : List Value).toArray s 0 0 (hA b0)) (F0 m 190 ls [.int y0]) := by
        intro x1 x2 x3 x4 x6 x7 y0 q9 h9 h H locs ls hrun hw hS hl k0 k1
        unfold f_MacroExpandModel_expandName_j190 at hrun
        refine lv_istore (lv' := [(5, .int y0), (0, .ref a0), (1, .int x1), (2, .int x2), (3, .int x3), (4, .int x4), (6, .int x6), (7, .int x7)]) hx hb d_MacroExpandModel_expandName_190 hl (by decide) rfl (fun ls hl => ?_)
        refine lv_iload hx hb d_MacroExpandModel_expandName_192 (lv_at hl 6 rfl) ?_
        refine lv_aload_n hx hb d_MacroExpandModel_expandName_194 rfl (lv_at hl 1 rfl) ?_
        replace hrun := hb_some hrun
        obtain ⟨v195, g195, hrun⟩ := hrun
        refine h_getR S (fun w q => hT w (i_MacroExpandModel w q)) hK (ci := 1) rfl 19 (by decide) (hT _ fl_MacroExpandModel_47) hw g195 d_MacroExpandModel_expandName_195 ?_
        refine lv_iload hx hb d_MacroExpandModel_expandName_198 (lv_at hl 7 rfl) ?_
        replace hrun := hb_some hrun
        obtain ⟨p200, rfl, hrun⟩ := hrun
        replace hrun := hb_some hrun
        obtain ⟨v200, g200, hrun⟩ := hrun
        refine h_iald S hK (kd := 0) rfl hw g200 d_MacroExpandModel_expandName_200 ?_
        refine lv_iadd hx hb d_MacroExpandModel_expandName_201 ?_
        refine lv_istore (lv' := [(6, .int (x6 + v200)), (5, .int y0), (0, .ref a0), (1, .int x1), (2, .int x2), (3, .int x3), (4, .int x4), (7, .int x7)]) hx hb d_MacroExpandModel_expandName_202 hl (by decide) rfl (fun ls hl => ?_)
        refine lv_iinc (v := (x7 + (1 : Int32))) (lv' := [(7, .int (x7 + (1 : Int32))), (6, .int (x6 + v200)), (5, .int y0), (0, .ref a0), (1, .int x1), (2, .int x2), (3, .int x3), (4, .int x4)]) hx hb d_MacroExpandModel_expandName_204 hl (k := 7) rfl rfl (by decide) rfl (fun ls hl => ?_)
        refine lv_goto (tgt := 119) hx hb d_MacroExpandModel_expandName_207 (by decide) ?_
        cases hrun
        exact k0 y0 (x6 + v200) (x7 + (1 : Int32)) rfl H locs ls hw hS (lv_sub hl [3, 4, 5, 6, 7, 2, 1, 0] rfl)
      dsimp only [f_MacroExpandModel_expandName_b119] at hrun
      refine lv_iload hx hb d_MacroExpandModel_expandName_119 (lv_at hl 7 rfl) ?_
      refine lv_aload_n hx hb d_MacroExpandModel_expandName_121 rfl (lv_at hl 0 rfl) ?_
      replace hrun := hb_some hrun
      obtain ⟨v122, g122, hrun⟩ := hrun
      refine h_getR S (fun w q => hT w (i_MacroExpandModel w q)) hK (ci := 1) rfl 7 (by decide) (hT _ fl_MacroExpandModel_16) hw g122 d_MacroExpandModel_expandName_122 ?_
      refine lv_iload_n hx hb d_MacroExpandModel_expandName_125 rfl (lv_at hl 3 rfl) ?_
      replace hrun := hb_some hrun
      obtain ⟨p126, rfl, hrun⟩ := hrun
      replace hrun := hb_some hrun
      obtain ⟨v126, g126, hrun⟩ := hrun
      refine h_iald S hK (kd := 0) rfl hw g126 d_MacroExpandModel_expandName_126 ?_
      refine lv_icmp_gt (tgt := 210) hx hb d_MacroExpandModel_expandName_127 (by decide) (fun c127 => ?_) (fun c127 => ?_)
      · rw [if_pos c127] at hrun
        cases hrun
        exact K1 x5 x6 rfl H locs ls hw hS (lv_sub hl [0, 1, 2, 3, 5, 6] rfl)
      · rw [if_neg c127] at hrun
        refine lv_aload_n hx hb d_MacroExpandModel_expandName_130 rfl (lv_at hl 0 rfl) ?_
        replace hrun := hb_some hrun
        obtain ⟨v131, g131, hrun⟩ := hrun
        refine h_getI S (fun w q => hT w (i_MacroExpandModel w q)) hK (ci := 1) rfl 21 (by decide) (hT _ fl_MacroExpandModel_113) hw g131 d_MacroExpandModel_expandName_131 ?_
        refine lv_if_ne (tgt := 210) hx hb d_MacroExpandModel_expandName_134 (by decide) (fun c134 => ?_) (fun c134 => ?_)
        · rw [if_neg c134] at hrun
          cases hrun
          exact K1 x5 x6 rfl H locs ls hw hS (lv_sub hl [0, 1, 2, 3, 5, 6] rfl)
        · rw [if_pos c134] at hrun
          refine lv_aload_n hx hb d_MacroExpandModel_expandName_137 rfl (lv_at hl 0 rfl) ?_
          replace hrun := hb_some hrun
          obtain ⟨v138, g138, hrun⟩ := hrun
          refine h_getR S (fun w q => hT w (i_MacroExpandModel w q)) hK (ci := 1) rfl 19 (by decide) (hT _ fl_MacroExpandModel_47) hw g138 d_MacroExpandModel_expandName_138 ?_
          refine lv_iload hx hb d_MacroExpandModel_expandName_141 (lv_at hl 7 rfl) ?_
          refine lv_iconst (v := (0 : Int32)) hx hb d_MacroExpandModel_expandName_143 (by decide) ?_
          replace hrun := hb_some hrun
          obtain ⟨p144, rfl, hrun⟩ := hrun
          replace hrun := hb_some hrun
          obtain ⟨h144, g144, hrun⟩ := hrun
          refine h_iast S hK (kd := 0) rfl hw hS g144 d_MacroExpandModel_expandName_144 (fun H locs hw hS => ?_)
          refine lv_aload_n hx hb d_MacroExpandModel_expandName_145 rfl (lv_at hl 0 rfl) ?_
          replace hrun := hb_some hrun
          obtain ⟨v146, g146, hrun⟩ := hrun
          refine h_getR S (fun w q => hT w (i_MacroExpandModel w q)) hK (ci := 1) rfl 11 (by decide) (hT _ fl_MacroExpandModel_28) hw g146 d_MacroExpandModel_expandName_146 ?_
          refine lv_bipush (v := (10 : Int32)) hx hb d_MacroExpandModel_expandName_149 (by decide) ?_
          refine lv_iload_n hx hb d_MacroExpandModel_expandName_151 rfl (lv_at hl 3 rfl) ?_
          refine lv_imul hx hb d_MacroExpandModel_expandName_152 ?_
          refine lv_iload hx hb d_MacroExpandModel_expandName_153 (lv_at hl 7 rfl) ?_
          refine lv_iadd hx hb d_MacroExpandModel_expandName_155 ?_
          replace hrun := hb_some hrun
          obtain ⟨p156, rfl, hrun⟩ := hrun
          replace hrun := hb_some hrun
          obtain ⟨v156, g156, hrun⟩ := hrun
          refine h_iald S hK (kd := 0) rfl hw g156 d_MacroExpandModel_expandName_156 ?_
          refine lv_if_ne (tgt := 173) hx hb d_MacroExpandModel_expandName_157 (by decide) (fun c157 => ?_) (fun c157 => ?_)
          · rw [if_neg c157] at hrun
            refine lv_aload_n hx hb d_MacroExpandModel_expandName_173 rfl (lv_at hl 0 rfl) ?_
            refine lv_iload hx hb d_MacroExpandModel_expandName_174 (lv_at hl 7 rfl) ?_
            refine lv_bipush (v := (10 : Int32)) hx hb d_MacroExpandModel_expandName_176 (by decide) ?_
            refine lv_iload_n hx hb d_MacroExpandModel_expandName_178 rfl (lv_at hl 3 rfl) ?_
            refine lv_imul hx hb d_MacroExpandModel_expandName_179 ?_
            refine lv_iload hx hb d_MacroExpandModel_expandName_180 (lv_at hl 7 rfl) ?_
            refine lv_iadd hx hb d_MacroExpandModel_expandName_182 ?_
            refine lv_iload hx hb d_MacroExpandModel_expandName_183 (lv_at hl 5 rfl) ?_
            refine lv_iload hx hb d_MacroExpandModel_expandName_185 (lv_at hl 4 rfl) ?_
            replace hrun := hb_some hrun
            obtain ⟨c187, k187, hrun⟩ := hrun
            replace hrun := hbW_some hrun
            obtain ⟨v187, h187, g187, hrun⟩ := hrun
            refine h_ci (h_runV S (As := [.int x7, .int (((10 : Int32) * x3) + x7), .int x5, .int x4]) (rest := []) (c_MacroExpandModel_delimited l D dA b0 n a0 x7 (((10 : Int32) * x3) + x7) x5 x4 nx g187) (cwV 4 S.2.2.2.2 (h_good _ (h_in4 ml_MacroExpandModel_149 im_MacroExpandModel_delimited se_MacroExpandModel_delimited it_MacroExpandModel) cd_MacroExpandModel_delimited) rfl rfl rfl (by decide +kernel) ⟨Nat.le_of_ble_eq_true rfl, Nat.le_of_ble_eq_true rfl⟩) hK hN hw (ci := 1) rfl k187 rfl hl.1 (lv_room (Nat.le_of_ble_eq_true rfl)) d_MacroExpandModel_expandName_187 ⟨Nat.le_refl _, Nat.le_refl _⟩) hS (fun H locs hw hS => ?_)
            exact j_190 x1 x2 x3 x4 x6 x7 v187 _ _ h187 _ _ _ hrun hw hS (lv_sub hl [0, 1, 2, 3, 4, 6, 7] rfl) K0 K1
          · rw [if_pos c157] at hrun
            refine lv_aload_n hx hb d_MacroExpandModel_expandName_160 rfl (lv_at hl 0 rfl) ?_
            refine lv_iload hx hb d_MacroExpandModel_expandName_161 (lv_at hl 7 rfl) ?_
            refine lv_iload hx hb d_MacroExpandModel_expandName_163 (lv_at hl 5 rfl) ?_
            refine lv_iload hx hb d_MacroExpandModel_expandName_165 (lv_at hl 4 rfl) ?_
            replace hrun := hb_some hrun
            obtain ⟨c167, k167, hrun⟩ := hrun
            replace hrun := hbW_some hrun
            obtain ⟨v167, h167, g167, hrun⟩ := hrun
            refine h_ci (h_runV S (As := [.int x7, .int x5, .int x4]) (rest := []) (c_MacroExpandModel_plain l D dA b0 n a0 x7 x5 x4 nx g167) (cwV 3 S.2.2.2.2 (h_good _ (h_in4 ml_MacroExpandModel_145 im_MacroExpandModel_plain se_MacroExpandModel_plain it_MacroExpandModel) cd_MacroExpandModel_plain) rfl rfl rfl (by decide +kernel) ⟨Nat.le_of_ble_eq_true rfl, Nat.le_of_ble_eq_true rfl⟩) hK hN hw (ci := 1) rfl k167 rfl hl.1 (lv_room (Nat.le_of_ble_eq_true rfl)) d_MacroExpandModel_expandName_167 ⟨Nat.le_refl _, Nat.le_refl _⟩) hS (fun H locs hw hS => ?_)
            refine lv_goto (tgt := 190) hx hb d_MacroExpandModel_expandName_170 (by decide) ?_
            exact j_190 x1 x2 x3 x4 x6 x7 v167 _ _ h167 _ _ _ hrun hw hS (lv_sub hl [0, 1, 2, 3, 4, 6, 7] rfl) K0 K1
  have l_46 : ∀ (x1 : Int32) (x2 : Int32) (x3 : Int32) (x4 : Int32) (n9 : Nat) (x9 : Int32 × Int32) (h : hH) (b9 : (Int32)) (h9 : hH) (H : Heap) (locs : List Loc) (ls : Array Slot), hloopW (f_MacroExpandModel_expandName_b46 n a0 x1 x2 x3 x4) n9 x9 h = some (b9, h9) → hW D dA classes b0 nx h H → va_S (hA b0) s.heap H locs → lv_has ls 14 (match x9 with | (x5, x6) => [(0, .ref a0), (1, .int x1), (2, .int x2), (3, .int x3), (4, .int x4), (5, .int x5), (6, .int x6)]) → (∀ (z5 : Int32), b9 = z5 → ∀ (H : Heap) (locs : List Loc) (ls : Array Slot), hW D dA classes b0 nx h9 H → va_S (hA b0) s.heap H locs → lv_has ls 14 [(0, .ref a0), (1, .int x1), (2, .int x2), (3, .int x3), (4, .int x4), (5, .int z5)] → W p l e (headSpec w_MacroExpandModel_expandName ({ frames := 5, cells := 0, slots := 0, locals := 114 } : Room)).room s m ([.ref a0, .int i1] : List Value).toArray below meth c H locs 0 0 (MQ below (va_Qv (fun (_ : Unit) => True) (fun (_ : Unit) t => hW D dA classes b0 nx h' t.heap) (hA b0)) ([.ref a0, .int i1] : List Value).toArray s 0 0 (hA b0)) (F0 m 113 ls [])) → W p l e (headSpec w_MacroExpandModel_expandName ({ frames := 5, cells := 0, slots := 0, locals := 114 } : Room)).room s m ([.ref a0, .int i1] : List Value).toArray below meth c H locs 0 0 (MQ below (va_Qv (fun (_ : Unit) => True) (fun (_ : Unit) t => hW D dA classes b0 nx h' t.heap) (hA b0)) ([.ref a0, .int i1] : List Value).toArray s 0 0 (hA b0)) (F0 m 46 ls []) := by
    intro x1 x2 x3 x4 n9
    induction n9 with
    | zero =>
      intro x9 h b9 h9 H locs ls hrun
      cases hrun
    | succ n9 ih =>
      rintro ⟨x5, x6⟩ h b9 h9 H locs ls hrun hw hS hl k0
      have hl : lv_has ls 14 [(0, .ref a0), (1, .int x1), (2, .int x2), (3, .int x3), (4, .int x4), (5, .int x5), (6, .int x6)] := hl
      unfold hloopW at hrun
      obtain ⟨q9, h9b, hbody, hrun9⟩ := hbW_some hrun
      have K0 : (∀ (z5 : Int32) (z6 : Int32), q9 = .inl (z5, z6) → ∀ (H : Heap) (locs : List Loc) (ls : Array Slot), hW D dA classes b0 nx h9b H → va_S (hA b0) s.heap H locs → lv_has ls 14 [(0, .ref a0), (1, .int x1), (2, .int x2), (3, .int x3), (4, .int x4), (5, .int z5), (6, .int z6)] → W p l e (headSpec w_MacroExpandModel_expandName ({ frames := 5, cells := 0, slots := 0, locals := 114 } : Room)).room s m ([.ref a0, .int i1] : List Value).toArray below meth c H locs 0 0 (MQ below (va_Qv (fun (_ : Unit) => True) (fun (_ : Unit) t => hW D dA classes b0 nx h' t.heap) (hA b0)) ([.ref a0, .int i1] : List Value).toArray s 0 0 (hA b0)) (F0 m 46 ls [])) := by
        intro z5 z6 eq9 H locs ls hw hS hl
        subst eq9
        exact ih (z5, z6) h9b b9 h9 H locs ls hrun9 hw hS hl k0
      have K1 : (∀ (z5 : Int32), q9 = .inr z5 → ∀ (H : Heap) (locs : List Loc) (ls : Array Slot), hW D dA classes b0 nx h9b H → va_S (hA b0) s.heap H locs → lv_has ls 14 [(0, .ref a0), (1, .int x1), (2, .int x2), (3, .int x3), (4, .int x4), (5, .int z5)] → W p l e (headSpec w_MacroExpandModel_expandName ({ frames := 5, cells := 0, slots := 0, locals := 114 } : Room)).room s m ([.ref a0, .int i1] : List Value).toArray below meth c H locs 0 0 (MQ below (va_Qv (fun (_ : Unit) => True) (fun (_ : Unit) t => hW D dA classes b0 nx h' t.heap) (hA b0)) ([.ref a0, .int i1] : List Value).toArray s 0 0 (hA b0)) (F0 m 113 ls [])) := by
        intro z5 eq9 H locs ls hw hS hl
        subst eq9
        cases hrun9
        exact k0 _ rfl H locs ls hw hS hl
      clear hrun hrun9 ih k0
      have hrun := hbody
      clear hbody
      have j_104 : ∀  (x1 : Int32) (x2 : Int32) (x3 : Int32) (x4 : Int32) (x5 : Int32) (x6 : Int32) (q9 : (Int32 × Int32) ⊕ ((Int32))) (h9 : hH) (h : hH) (H : Heap) (locs : List Loc) (ls : Array Slot), f_MacroExpandModel_expandName_j104 n a0 x1 x2 x3 x4 x5 x6 h = some (q9, h9) → hW D dA classes b0 nx h H → va_S (hA b0) s.heap H locs → lv_has ls 14 [(0, .ref a0), (1, .int x1), (2, .int x2), (3, .int x3), (4, .int x4), (5, .int x5), (6, .int x6)] → (∀ (z5 : Int32) (z6 : Int32), q9 = .inl (z5, z6) → ∀ (H : Heap) (locs : List Loc) (ls : Array Slot), hW D dA classes b0 nx h9 H → va_S (hA b0) s.heap H locs → lv_has ls 14 [(0, .ref a0), (1, .int x1), (2, .int x2), (3, .int x3), (4, .int x4), (5, .int z5), (6, .int z6)] → W p l e (headSpec w_MacroExpandModel_expandName ({ frames := 5, cells := 0, slots := 0, locals := 114 } : Room)).room s m ([.ref a0, .int i1] : List Value).toArray below meth c H locs 0 0 (MQ below (va_Qv (fun (_ : Unit) => True) (fun (_ : Unit) t => hW D dA classes b0 nx h' t.heap) (hA b0)) ([.ref a0, .int i1] : List Value).toArray s 0 0 (hA b0)) (F0 m 46 ls [])) → (∀ (z5 : Int32), q9 = .inr z5 → ∀ (H : Heap) (locs : List Loc) (ls : Array Slot), hW D dA classes b0 nx h9 H → va_S (hA b0) s.heap H locs → lv_has ls 14 [(0, .ref a0), (1, .int x1), (2, .int x2), (3, .int x3), (4, .int x4), (5, .int z5)] → W p l e (headSpec w_MacroExpandModel_expandName ({ frames := 5, cells := 0, slots := 0, locals := 114 } : Room)).room s m ([.ref a0, .int i1] : List Value).toArray below meth c H locs 0 0 (MQ below (va_Qv (fun (_ : Unit) => True) (fun (_ : Unit) t => hW D dA classes b0 nx h' t.heap) (hA b0)) ([.ref a0, .int i1] : List Value).toArray s 0 0 (hA b0)) (F0 m 113 ls [])) → W p l e (headSpec w_MacroExpandModel_expandName ({ frames := 5, cells := 0, slots := 0, locals := 114 } : Room)).room s m ([.ref a0, .int i1] : List Value).toArray below meth c H locs 0 0 (MQ below (va_Qv (fun (_ : Unit) => True) (fun (_ : Unit) t => hW D dA classes b0 nx h' t.heap) (hA b0)) ([.ref a0, .int i1] : List Value).toArray s 0 0 (hA b0)) (F0 m 104 ls []) := by
        intro x1 x2 x3 x4 x5 x6 q9 h9 h H locs ls hrun hw hS hl k0 k1
        unfold f_MacroExpandModel_expandName_j104 at hrun
        refine lv_iinc (v := (x5 + (1 : Int32))) (lv' := [(5, .int (x5 + (1 : Int32))), (0, .ref a0), (1, .int x1), (2, .int x2), (3, .int x3), (4, .int x4), (6, .int x6)]) hx hb d_MacroExpandModel_expandName_104 hl (k := 5) rfl rfl (by decide) rfl (fun ls hl => ?_)
        refine lv_iinc (v := (x6 + (1 : Int32))) (lv' := [(6, .int (x6 + (1 : Int32))), (5, .int (x5 + (1 : Int32))), (0, .ref a0), (1, .int x1), (2, .int x2), (3, .int x3), (4, .int x4)]) hx hb d_MacroExpandModel_expandName_107 hl (k := 6) rfl rfl (by decide) rfl (fun ls hl => ?_)
        refine lv_goto (tgt := 46) hx hb d_MacroExpandModel_expandName_110 (by decide) ?_
        cases hrun
        exact k0 (x5 + (1 : Int32)) (x6 + (1 : Int32)) rfl H locs ls hw hS (lv_sub hl [2, 3, 4, 5, 6, 1, 0] rfl)
      dsimp only [f_MacroExpandModel_expandName_b46] at hrun
      refine lv_iload hx hb d_MacroExpandModel_expandName_46 (lv_at hl 6 rfl) ?_
      refine lv_aload_n hx hb d_MacroExpandModel_expandName_48 rfl (lv_at hl 0 rfl) ?_
      replace hrun := hb_some hrun
      obtain ⟨v49, g49, hrun⟩ := hrun
      refine h_getR S (fun w q => hT w (i_MacroExpandModel w q)) hK (ci := 1) rfl 11 (by decide) (hT _ fl_MacroExpandModel_28) hw g49 d_MacroExpandModel_expandName_49 ?_
      refine lv_bipush (v := (10 : Int32)) hx hb d_MacroExpandModel_expandName_52 (by decide) ?_
      refine lv_iload_n hx hb d_MacroExpandModel_expandName_54 rfl (lv_at hl 3 rfl) ?_
      refine lv_imul hx hb d_MacroExpandModel_expandName_55 ?_
      replace hrun := hb_some hrun
      obtain ⟨p56, rfl, hrun⟩ := hrun
      replace hrun := hb_some hrun
      obtain ⟨v56, g56, hrun⟩ := hrun
      refine h_iald S hK (kd := 0) rfl hw g56 d_MacroExpandModel_expandName_56 ?_
      refine lv_icmp_ge (tgt := 113) hx hb d_MacroExpandModel_expandName_57 (by decide) (fun c57 => ?_) (fun c57 => ?_)
      · rw [if_pos c57] at hrun
        cases hrun
        exact K1 x5 rfl H locs ls hw hS (lv_sub hl [0, 1, 2, 3, 4, 5] rfl)
      · rw [if_neg c57] at hrun
        refine lv_aload_n hx hb d_MacroExpandModel_expandName_60 rfl (lv_at hl 0 rfl) ?_
        replace hrun := hb_some hrun
        obtain ⟨v61, g61, hrun⟩ := hrun
        refine h_getI S (fun w q => hT w (i_MacroExpandModel w q)) hK (ci := 1) rfl 21 (by decide) (hT _ fl_MacroExpandModel_113) hw g61 d_MacroExpandModel_expandName_61 ?_
        refine lv_if_ne (tgt := 113) hx hb d_MacroExpandModel_expandName_64 (by decide) (fun c64 => ?_) (fun c64 => ?_)
        · rw [if_neg c64] at hrun
          cases hrun
          exact K1 x5 rfl H locs ls hw hS (lv_sub hl [0, 1, 2, 3, 4, 5] rfl)
        · rw [if_pos c64] at hrun
          refine lv_aload_n hx hb d_MacroExpandModel_expandName_67 rfl (lv_at hl 0 rfl) ?_
          refine lv_iload hx hb d_MacroExpandModel_expandName_68 (lv_at hl 5 rfl) ?_
          refine lv_iconst (v := (1 : Int32)) hx hb d_MacroExpandModel_expandName_70 (by decide) ?_
          replace hrun := hb_some hrun
          obtain ⟨c71, k71, hrun⟩ := hrun
          replace hrun := hbW_some hrun
          obtain ⟨v71, h71, g71, hrun⟩ := hrun
          refine h_ci (h_runV S (As := [.int x5, .int (1 : Int32)]) (rest := []) (c_MacroExpandModel_isThere l D dA b0 a0 x5 (1 : Int32) nx g71) (cwV 2 S.2.2.2.2 (h_good _ (h_in4 ml_MacroExpandModel_127 im_MacroExpandModel_isThere se_MacroExpandModel_isThere it_MacroExpandModel) cd_MacroExpandModel_isThere) rfl rfl rfl (by decide +kernel) ⟨Nat.le_of_ble_eq_true rfl, Nat.le_of_ble_eq_true rfl⟩) hK hN hw (ci := 1) rfl k71 rfl hl.1 (lv_room (Nat.le_of_ble_eq_true rfl)) d_MacroExpandModel_expandName_71 ⟨Nat.le_refl _, Nat.le_refl _⟩) hS (fun H locs hw hS => ?_)
          refine lv_if_eq (tgt := 104) hx hb d_MacroExpandModel_expandName_74 (by decide) (fun c74 => ?_) (fun c74 => ?_)
          · rw [if_pos c74] at hrun
            exact j_104 x1 x2 x3 x4 x5 x6 _ _ h71 _ _ _ hrun hw hS (lv_sub hl [0, 1, 2, 3, 4, 5, 6] rfl) K0 K1
          · rw [if_neg c74] at hrun
            refine lv_aload_n hx hb d_MacroExpandModel_expandName_77 rfl (lv_at hl 0 rfl) ?_
            refine lv_iload hx hb d_MacroExpandModel_expandName_78 (lv_at hl 5 rfl) ?_
            replace hrun := hb_some hrun
            obtain ⟨c80, k80, hrun⟩ := hrun
            replace hrun := hb_some hrun
            obtain ⟨v80, g80, hrun⟩ := hrun
            refine h_ci (h_runV S (As := [.int x5]) (rest := []) (c_MacroExpandModel_get l D dA b0 a0 x5 nx g80) (cwV 1 S.2.2.2.2 (h_good _ (h_in4 ml_MacroExpandModel_116 im_MacroExpandModel_get se_MacroExpandModel_get it_MacroExpandModel) cd_MacroExpandModel_get) rfl rfl rfl (by decide +kernel) ⟨Nat.le_of_ble_eq_true rfl, Nat.le_of_ble_eq_true rfl⟩) hK hN hw (ci := 1) rfl k80 rfl hl.1 (lv_room (Nat.le_of_ble_eq_true rfl)) d_MacroExpandModel_expandName_80 ⟨Nat.le_refl _, Nat.le_refl _⟩) hS (fun H locs hw hS => ?_)
            refine lv_aload_n hx hb d_MacroExpandModel_expandName_83 rfl (lv_at hl 0 rfl) ?_
            replace hrun := hb_some hrun
            obtain ⟨v84, g84, hrun⟩ := hrun
            refine h_getR S (fun w q => hT w (i_MacroExpandModel w q)) hK (ci := 1) rfl 12 (by decide) (hT _ fl_MacroExpandModel_32) hw g84 d_MacroExpandModel_expandName_84 ?_
            refine lv_sipush (v := (2000 : Int32)) hx hb d_MacroExpandModel_expandName_87 (by decide) ?_
            refine lv_iload_n hx hb d_MacroExpandModel_expandName_90 rfl (lv_at hl 3 rfl) ?_
            refine lv_imul hx hb d_MacroExpandModel_expandName_91 ?_
            refine lv_iload hx hb d_MacroExpandModel_expandName_92 (lv_at hl 6 rfl) ?_
            refine lv_iadd hx hb d_MacroExpandModel_expandName_94 ?_
            replace hrun := hb_some hrun
            obtain ⟨p95, rfl, hrun⟩ := hrun
            replace hrun := hb_some hrun
            obtain ⟨v95, g95, hrun⟩ := hrun
            refine h_iald S hK (kd := 0) rfl hw g95 d_MacroExpandModel_expandName_95 ?_
            refine lv_icmp_eq (tgt := 104) hx hb d_MacroExpandModel_expandName_96 (by decide) (fun c96 => ?_) (fun c96 => ?_)
            · rw [if_pos c96] at hrun
              exact j_104 x1 x2 x3 x4 x5 x6 _ _ h71 _ _ _ hrun hw hS (lv_sub hl [0, 1, 2, 3, 4, 5, 6] rfl) K0 K1
            · rw [if_neg c96] at hrun
              refine lv_aload_n hx hb d_MacroExpandModel_expandName_99 rfl (lv_at hl 0 rfl) ?_
              refine lv_iconst (v := (3 : Int32)) hx hb d_MacroExpandModel_expandName_100 (by decide) ?_
              replace hrun := hb_some hrun
              obtain ⟨c101, k101, hrun⟩ := hrun
              replace hrun := hbW_some hrun
              obtain ⟨_u101, h101, g101, hrun⟩ := hrun
              refine h_cv (h_runV S (As := [.int (3 : Int32)]) (rest := []) (c_MacroExpandModel_mark l D dA b0 a0 (3 : Int32) nx g101) (cwV 1 S.2.2.2.2 (h_good _ (h_in4 ml_MacroExpandModel_123 im_MacroExpandModel_mark se_MacroExpandModel_mark it_MacroExpandModel) cd_MacroExpandModel_mark) rfl rfl rfl (by decide +kernel) ⟨Nat.le_of_ble_eq_true rfl, Nat.le_of_ble_eq_true rfl⟩) hK hN hw (ci := 1) rfl k101 rfl hl.1 (lv_room (Nat.le_of_ble_eq_true rfl)) d_MacroExpandModel_expandName_101 ⟨Nat.le_refl _, Nat.le_refl _⟩) hS (fun H locs hw hS => ?_)
              exact j_104 x1 x2 x3 x4 x5 x6 _ _ h101 _ _ _ hrun hw hS (lv_sub hl [0, 1, 2, 3, 4, 5, 6] rfl) K0 K1
  have j_36 : ∀  (x1 : Int32) (x2 : Int32) (x3 : Int32) (y0 : Int32) (h : hH) (H : Heap) (locs : List Loc) (ls : Array Slot), f_MacroExpandModel_expandName_j36 n a0 x1 x2 x3 y0 h = some (r, h') → hW D dA classes b0 nx h H → va_S (hA b0) s.heap H locs → lv_has ls 14 [(0, .ref a0), (1, .int x1), (2, .int x2), (3, .int x3)] → W p l e (headSpec w_MacroExpandModel_expandName ({ frames := 5, cells := 0, slots := 0, locals := 114 } : Room)).room s m ([.ref a0, .int i1] : List Value).toArray below meth c H locs 0 0 (MQ below (va_Qv (fun (_ : Unit) => True) (fun (_ : Unit) t => hW D dA classes b0 nx h' t.heap) (hA b0)) ([.ref a0, .int i1] : List Value).toArray s 0 0 (hA b0)) (F0 m 36 ls [.int y0]) := by
    intro x1 x2 x3 y0 h H locs ls hrun hw hS hl
    unfold f_MacroExpandModel_expandName_j36 at hrun
    refine lv_istore (lv' := [(4, .int y0), (0, .ref a0), (1, .int x1), (2, .int x2), (3, .int x3)]) hx hb d_MacroExpandModel_expandName_36 hl (by decide) rfl (fun ls hl => ?_)
    refine lv_iload_n hx hb d_MacroExpandModel_expandName_38 rfl (lv_at hl 2 rfl) ?_
    refine lv_iconst (v := (1 : Int32)) hx hb d_MacroExpandModel_expandName_39 (by decide) ?_
    refine lv_iadd hx hb d_MacroExpandModel_expandName_40 ?_
    refine lv_istore (lv' := [(5, .int (x1 + (1 : Int32))), (4, .int y0), (0, .ref a0), (1, .int x1), (2, .int x2), (3, .int x3)]) hx hb d_MacroExpandModel_expandName_41 hl (by decide) rfl (fun ls hl => ?_)
    refine lv_iconst (v := (0 : Int32)) hx hb d_MacroExpandModel_expandName_43 (by decide) ?_
    refine lv_istore (lv' := [(6, .int (0 : Int32)), (5, .int (x1 + (1 : Int32))), (4, .int y0), (0, .ref a0), (1, .int x1), (2, .int x2), (3, .int x3)]) hx hb d_MacroExpandModel_expandName_44 hl (by decide) rfl (fun ls hl => ?_)
    replace hrun := hbW_some hrun
    obtain ⟨b46, h46l, g46, hrun⟩ := hrun
    refine l_46 x1 x2 x3 y0 n ((x1 + (1 : Int32)), (0 : Int32)) h _ _ _ _ _ g46 hw hS (lv_sub hl [3, 4, 5, 6, 2, 1, 0] rfl) ?_
    · rintro x5_46 eq9 H locs ls hw hS hl
      obtain rfl := eq9.symm
      try dsimp only at hrun
      refine lv_iconst (v := (0 : Int32)) hx hb d_MacroExpandModel_expandName_113 (by decide) ?_
      refine lv_istore (lv' := [(6, .int (0 : Int32)), (0, .ref a0), (1, .int x1), (2, .int x2), (3, .int x3), (4, .int y0), (5, .int x5_46)]) hx hb d_MacroExpandModel_expandName_114 hl (by decide) rfl (fun ls hl => ?_)
      refine lv_iconst (v := (1 : Int32)) hx hb d_MacroExpandModel_expandName_116 (by decide) ?_
      refine lv_istore (lv' := [(7, .int (1 : Int32)), (6, .int (0 : Int32)), (0, .ref a0), (1, .int x1), (2, .int x2), (3, .int x3), (4, .int y0), (5, .int x5_46)]) hx hb d_MacroExpandModel_expandName_117 hl (by decide) rfl (fun ls hl => ?_)
      replace hrun := hbW_some hrun
      obtain ⟨b119, h119l, g119, hrun⟩ := hrun
      refine l_119 x1 x2 x3 y0 n (x5_46, (0 : Int32), (1 : Int32)) h46l _ _ _ _ _ g119 hw hS (lv_sub hl [2, 3, 4, 5, 6, 7, 1, 0] rfl) ?_
      · rintro x5_119 x6_119 eq9 H locs ls hw hS hl
        obtain rfl := eq9.symm
        try dsimp only at hrun
        refine lv_aload_n hx hb d_MacroExpandModel_expandName_210 rfl (lv_at hl 0 rfl) ?_
        replace hrun := hb_some hrun
        obtain ⟨v211, g211, hrun⟩ := hrun
        refine h_getI S (fun w q => hT w (i_MacroExpandModel w q)) hK (ci := 1) rfl 21 (by decide) (hT _ fl_MacroExpandModel_113) hw g211 d_MacroExpandModel_expandName_211 ?_
        refine lv_if_ne (tgt := 225) hx hb d_MacroExpandModel_expandName_214 (by decide) (fun c214 => ?_) (fun c214 => ?_)
        · rw [if_neg c214] at hrun
          refine lv_iconst (v := (0 : Int32)) hx hb d_MacroExpandModel_expandName_225 (by decide) ?_
          exact j_226 x1 x2 x3 x5_119 x6_119 (0 : Int32) h119l _ _ _ hrun hw hS (lv_sub hl [0, 1, 2, 3, 4, 5] rfl)
        · rw [if_pos c214] at hrun
          refine lv_aload_n hx hb d_MacroExpandModel_expandName_217 rfl (lv_at hl 0 rfl) ?_
          refine lv_iload_n hx hb d_MacroExpandModel_expandName_218 rfl (lv_at hl 3 rfl) ?_
          replace hrun := hb_some hrun
          obtain ⟨c219, k219, hrun⟩ := hrun
          replace hrun := hb_some hrun
          obtain ⟨v219, g219, hrun⟩ := hrun
          refine h_ci (h_runV S (As := [.int x3]) (rest := []) (c_MacroExpandModel_comes l D dA b0 n a0 x3 nx g219) (cwV 1 S.2.2.2.2 (h_good _ (h_in4 ml_MacroExpandModel_153 im_MacroExpandModel_comes se_MacroExpandModel_comes it_MacroExpandModel) cd_MacroExpandModel_comes) rfl rfl rfl (by decide +kernel) ⟨Nat.le_of_ble_eq_true rfl, Nat.le_of_ble_eq_true rfl⟩) hK hN hw (ci := 1) rfl k219 rfl hl.1 (lv_room (Nat.le_of_ble_eq_true rfl)) d_MacroExpandModel_expandName_219 ⟨Nat.le_refl _, Nat.le_refl _⟩) hS (fun H locs hw hS => ?_)
          refine lv_goto (tgt := 226) hx hb d_MacroExpandModel_expandName_222 (by decide) ?_
          exact j_226 x1 x2 x3 x5_119 x6_119 v219 h119l _ _ _ hrun hw hS (lv_sub hl [0, 1, 2, 3, 4, 5] rfl)
  unfold f_MacroExpandModel_expandName at hrun
  refine lv_aload_n hx hb d_MacroExpandModel_expandName_0 rfl (lv_at hl 0 rfl) ?_
  replace hrun := hb_some hrun
  obtain ⟨v1, g1, hrun⟩ := hrun
  refine h_getI S (fun w q => hT w (i_MacroExpandModel w q)) hK (ci := 1) rfl 22 (by decide) (hT _ fl_MacroExpandModel_142) hw g1 d_MacroExpandModel_expandName_1 ?_
  refine lv_istore_n (lv' := [(2, .int v1), (0, .ref a0), (1, .int i1)]) hx hb d_MacroExpandModel_expandName_4 rfl hl (by decide) rfl (fun ls hl => ?_)
  refine lv_aload_n hx hb d_MacroExpandModel_expandName_5 rfl (lv_at hl 1 rfl) ?_
  refine lv_aload_n hx hb d_MacroExpandModel_expandName_6 rfl (lv_at hl 1 rfl) ?_
  refine lv_iload_n hx hb d_MacroExpandModel_expandName_7 rfl (lv_at hl 2 rfl) ?_
  replace hrun := hb_some hrun
  obtain ⟨c8, k8, hrun⟩ := hrun
  replace hrun := hb_some hrun
  obtain ⟨v8, g8, hrun⟩ := hrun
  refine h_ci (h_runV S (As := [.int i1]) (rest := [.ref a0]) (c_MacroExpandModel_get l D dA b0 a0 i1 nx g8) (cwV 1 S.2.2.2.2 (h_good _ (h_in4 ml_MacroExpandModel_116 im_MacroExpandModel_get se_MacroExpandModel_get it_MacroExpandModel) cd_MacroExpandModel_get) rfl rfl rfl (by decide +kernel) ⟨Nat.le_of_ble_eq_true rfl, Nat.le_of_ble_eq_true rfl⟩) hK hN hw (ci := 1) rfl k8 rfl hl.1 (lv_room (Nat.le_of_ble_eq_true rfl)) d_MacroExpandModel_expandName_8 ⟨Nat.le_refl _, Nat.le_refl _⟩) hS (fun H locs hw hS => ?_)
  replace hrun := hb_some hrun
  obtain ⟨h11, g11, hrun⟩ := hrun
  refine h_put S (fun w q => hT w (i_MacroExpandModel w q)) t_MacroExpandModel t_MacroExpandModel_ok n_MacroExpandModel hK (ci := 1) rfl 22 (by decide) (hT _ fl_MacroExpandModel_142) rfl rfl rfl hw hS g11 d_MacroExpandModel_expandName_11 (fun H locs hw hS => ?_)
  refine lv_aload_n hx hb d_MacroExpandModel_expandName_14 rfl (lv_at hl 1 rfl) ?_
  refine lv_iload_n hx hb d_MacroExpandModel_expandName_15 rfl (lv_at hl 2 rfl) ?_
  replace hrun := hb_some hrun
  obtain ⟨c16, k16, hrun⟩ := hrun
  replace hrun := hb_some hrun
  obtain ⟨v16, g16, hrun⟩ := hrun
  refine h_ci (h_runV S (As := [.int i1]) (rest := []) (c_MacroExpandModel_macroAt l D dA b0 a0 i1 nx g16) (cwV 1 S.2.2.2.2 (h_good _ (h_in4 ml_MacroExpandModel_120 im_MacroExpandModel_macroAt se_MacroExpandModel_macroAt it_MacroExpandModel) cd_MacroExpandModel_macroAt) rfl rfl rfl (by decide +kernel) ⟨Nat.le_of_ble_eq_true rfl, Nat.le_of_ble_eq_true rfl⟩) hK hN hw (ci := 1) rfl k16 rfl hl.1 (lv_room (Nat.le_of_ble_eq_true rfl)) d_MacroExpandModel_expandName_16 ⟨Nat.le_refl _, Nat.le_refl _⟩) hS (fun H locs hw hS => ?_)
  refine lv_istore_n (lv' := [(3, .int v16), (2, .int v1), (0, .ref a0), (1, .int i1)]) hx hb d_MacroExpandModel_expandName_19 rfl hl (by decide) rfl (fun ls hl => ?_)
  refine lv_aload_n hx hb d_MacroExpandModel_expandName_20 rfl (lv_at hl 2 rfl) ?_
  replace hrun := hb_some hrun
  obtain ⟨v21, g21, hrun⟩ := hrun
  refine h_getR S (fun w q => hT w (i_MacroExpandModel w q)) hK (ci := 1) rfl 8 (by decide) (hT _ fl_MacroExpandModel_19) hw g21 d_MacroExpandModel_expandName_21 ?_
  refine lv_iload_n hx hb d_MacroExpandModel_expandName_24 rfl (lv_at hl 0 rfl) ?_
  replace hrun := hb_some hrun
  obtain ⟨p25, rfl, hrun⟩ := hrun
  replace hrun := hb_some hrun
  obtain ⟨v25, g25, hrun⟩ := hrun
  refine h_iald S hK (kd := 0) rfl hw g25 d_MacroExpandModel_expandName_25 ?_
  refine lv_iconst (v := (1 : Int32)) hx hb d_MacroExpandModel_expandName_26 (by decide) ?_
  refine lv_iand hx hb d_MacroExpandModel_expandName_27 ?_
  refine lv_if_eq (tgt := 35) hx hb d_MacroExpandModel_expandName_28 (by decide) (fun c28 => ?_) (fun c28 => ?_)
  · rw [if_pos c28] at hrun
    refine lv_iconst (v := (0 : Int32)) hx hb d_MacroExpandModel_expandName_35 (by decide) ?_
    exact j_36 i1 v1 v16 (0 : Int32) h11 _ _ _ hrun hw hS (lv_sub hl [2, 3, 1, 0] rfl)
  · rw [if_neg c28] at hrun
    refine lv_iconst (v := (1 : Int32)) hx hb d_MacroExpandModel_expandName_31 (by decide) ?_
    refine lv_goto (tgt := 36) hx hb d_MacroExpandModel_expandName_32 (by decide) ?_
    exact j_36 i1 v1 v16 (1 : Int32) h11 _ _ _ hrun hw hS (lv_sub hl [2, 3, 1, 0] rfl)
