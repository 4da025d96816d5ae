set_option maxHeartbeats 4000000 in
set_option maxRecDepth 100000 in
theorem c_Input_beginsWith (l : Launch) (D : va_G) (dA : Nat → ClassId) (b0 : Nat) (n : Nat) (a0 : Nat) (a1 : Nat) (nx : Nat) {h : hH} {r : Int32} (hrun : f_Input_beginsWith n a0 a1 h = some r) : Met l y_Input_beginsWith w_Input_beginsWith ({ frames := 1, cells := 0, slots := 0, locals := 21 } : Room) (va_Pc [.ref a0, .ref a1] (hB D dA b0 nx h)) (va_Qi (fun r' (_ : Unit) => r' = r) (fun (_ : Unit) t => hW D dA classes b0 nx h t.heap) (hA b0)) 0 0 (hA b0) := by
  refine Met.ofW (cc := b_Input_beginsWith) (maxL := 3) (ret := (some .boolean)) (by decide) rfl ?_
  intro p e s m args below meth c s₁ B hml hv
  obtain ⟨rfl, hw, hK, hN⟩ := hv
  have hx := B.exec
  have hb := B.bytes
  have hr := B.returns
  have hlocks := B.notSynchronized
  have S : CallFix p m c b_Input_beginsWith 3 s ([.ref a0, .ref a1] : List Value).toArray w_Input_beginsWith R_Input := ⟨hx, hb, hml, findClass_of_methodNamed B.named, atoms_spec (ws := w_Input_beginsWith) B.pre⟩
  have hT : ∀ w ∈ tbl, w ∈ w_Input_beginsWith := fun _ q => List.mem_cons_of_mem _ q
  have hS : va_S (hA b0) s.heap s.heap [] := va_S.rf
  have hl := lv_entry ([.ref a0, .ref a1]) (n := 3) (Nat.le_of_ble_eq_true rfl)
  rw [lg_entry_eq]
  generalize (lg_sl ([.ref a0, .ref a1]) ++ List.replicate (3 - (lg_sl ([.ref a0, .ref a1])).length) Slot.unset).toArray = ls at hl ⊢
  have hl : lv_has ls 3 [(0, .ref a0), (1, .ref a1)] := hl
  have l_15 : ∀ (n9 : Nat) (x9 : Int32) (b9 : (Unit) ⊕ (Unit)) (H : Heap) (locs : List Loc) (ls : Array Slot), hloopR (f_Input_beginsWith_b15 n a0 a1 h) n9 x9 = some b9 → hW D dA classes b0 nx h H → va_S (hA b0) s.heap H locs → lv_has ls 3 (match x9 with | x2 => [(0, .ref a0), (1, .ref a1), (2, .int x2)]) → (b9 = .inl () → ∀ (H : Heap) (locs : List Loc) (ls : Array Slot), hW D dA classes b0 nx h H → va_S (hA b0) s.heap H locs → lv_has ls 3 [] → W p l e (headSpec w_Input_beginsWith ({ frames := 1, cells := 0, slots := 0, locals := 21 } : Room)).room s m ([.ref a0, .ref a1] : List Value).toArray below meth c H locs 0 0 (MQ below (va_Qi (fun r' (_ : Unit) => r' = r) (fun (_ : Unit) t => hW D dA classes b0 nx h t.heap) (hA b0)) ([.ref a0, .ref a1] : List Value).toArray s 0 0 (hA b0)) (F0 m 36 ls [])) → (b9 = .inr (()) → ∀ (H : Heap) (locs : List Loc) (ls : Array Slot), hW D dA classes b0 nx h H → va_S (hA b0) s.heap H locs → lv_has ls 3 [] → W p l e (headSpec w_Input_beginsWith ({ frames := 1, cells := 0, slots := 0, locals := 21 } : Room)).room s m ([.ref a0, .ref a1] : List Value).toArray below meth c H locs 0 0 (MQ below (va_Qi (fun r' (_ : Unit) => r' = r) (fun (_ : Unit) t => hW D dA classes b0 nx h t.heap) (hA b0)) ([.ref a0, .ref a1] : List Value).toArray s 0 0 (hA b0)) (F0 m 44 ls [])) → W p l e (headSpec w_Input_beginsWith ({ frames := 1, cells := 0, slots := 0, locals := 21 } : Room)).room s m ([.ref a0, .ref a1] : List Value).toArray below meth c H locs 0 0 (MQ below (va_Qi (fun r' (_ : Unit) => r' = r) (fun (_ : Unit) t => hW D dA classes b0 nx h t.heap) (hA b0)) ([.ref a0, .ref a1] : List Value).toArray s 0 0 (hA b0)) (F0 m 15 ls []) := by
    intro  n9
    induction n9 with
    | zero =>
      intro x9 b9 H locs ls hrun
      cases hrun
    | succ n9 ih =>
      rintro x2 b9 H locs ls hrun hw hS hl k0 k1
      have hl : lv_has ls 3 [(0, .ref a0), (1, .ref a1), (2, .int x2)] := hl
      unfold hloopR at hrun
      obtain ⟨q9, hbody, hrun9⟩ := hb_some hrun
      have K0 : (∀ (z2 : Int32), q9 = .inl z2 → ∀ (H : Heap) (locs : List Loc) (ls : Array Slot), hW D dA classes b0 nx h H → va_S (hA b0) s.heap H locs → lv_has ls 3 [(0, .ref a0), (1, .ref a1), (2, .int z2)] → W p l e (headSpec w_Input_beginsWith ({ frames := 1, cells := 0, slots := 0, locals := 21 } : Room)).room s m ([.ref a0, .ref a1] : List Value).toArray below meth c H locs 0 0 (MQ below (va_Qi (fun r' (_ : Unit) => r' = r) (fun (_ : Unit) t => hW D dA classes b0 nx h t.heap) (hA b0)) ([.ref a0, .ref a1] : List Value).toArray s 0 0 (hA b0)) (F0 m 15 ls [])) := by
        intro z2 eq9 H locs ls hw hS hl
        subst eq9
        exact ih z2 b9 H locs ls hrun9 hw hS hl k0 k1
      have K1 : (q9 = .inr (.inl ()) → ∀ (H : Heap) (locs : List Loc) (ls : Array Slot), hW D dA classes b0 nx h H → va_S (hA b0) s.heap H locs → lv_has ls 3 [] → W p l e (headSpec w_Input_beginsWith ({ frames := 1, cells := 0, slots := 0, locals := 21 } : Room)).room s m ([.ref a0, .ref a1] : List Value).toArray below meth c H locs 0 0 (MQ below (va_Qi (fun r' (_ : Unit) => r' = r) (fun (_ : Unit) t => hW D dA classes b0 nx h t.heap) (hA b0)) ([.ref a0, .ref a1] : List Value).toArray s 0 0 (hA b0)) (F0 m 36 ls [])) := by
        intro  eq9 H locs ls hw hS hl
        subst eq9
        cases hrun9
        exact k0  rfl H locs ls hw hS hl
      have K2 : (q9 = .inr (.inr (())) → ∀ (H : Heap) (locs : List Loc) (ls : Array Slot), hW D dA classes b0 nx h H → va_S (hA b0) s.heap H locs → lv_has ls 3 [] → W p l e (headSpec w_Input_beginsWith ({ frames := 1, cells := 0, slots := 0, locals := 21 } : Room)).room s m ([.ref a0, .ref a1] : List Value).toArray below meth c H locs 0 0 (MQ below (va_Qi (fun r' (_ : Unit) => r' = r) (fun (_ : Unit) t => hW D dA classes b0 nx h t.heap) (hA b0)) ([.ref a0, .ref a1] : List Value).toArray s 0 0 (hA b0)) (F0 m 44 ls [])) := by
        intro  eq9 H locs ls hw hS hl
        subst eq9
        cases hrun9
        exact k1  rfl H locs ls hw hS hl
      clear hrun hrun9 ih k0 k1
      have hrun := hbody
      clear hbody
      dsimp only [f_Input_beginsWith_b15] at hrun
      refine lv_iload_n hx hb d_Input_beginsWith_15 rfl (lv_at hl 2 rfl) ?_
      refine lv_aload_n hx hb d_Input_beginsWith_16 rfl (lv_at hl 1 rfl) ?_
      replace hrun := hb_some hrun
      obtain ⟨v17, g17, hrun⟩ := hrun
      refine h_getNI S (fun w q => hT w (i_Row w q)) hK (ci := 8) rfl 2 (by decide) (hN.1 _ nf_Input_19) hw g17 d_Input_beginsWith_17 ?_
      refine lv_icmp_ge (tgt := 44) hx hb d_Input_beginsWith_20 (by decide) (fun c20 => ?_) (fun c20 => ?_)
      · rw [if_pos c20] at hrun
        cases hrun
        exact K2  rfl H locs ls hw hS (lv_sub hl [] rfl)
      · rw [if_neg c20] at hrun
        refine lv_aload_n hx hb d_Input_beginsWith_23 rfl (lv_at hl 0 rfl) ?_
        refine lv_iload_n hx hb d_Input_beginsWith_24 rfl (lv_at hl 2 rfl) ?_
        replace hrun := hb_some hrun
        obtain ⟨c25, k25, hrun⟩ := hrun
        replace hrun := hb_some hrun
        obtain ⟨v25, g25, hrun⟩ := hrun
        refine h_ci (h_runV S (As := [.int x2]) (rest := []) (c_Input_get l D dA b0 a0 x2 nx g25) (cwV 1 S.2.2.2.2 (h_good _ (h_in4 ml_Input_42 im_Input_get se_Input_get it_Input) cd_Input_get) rfl rfl rfl (by decide +kernel) ⟨Nat.le_of_ble_eq_true rfl, Nat.le_of_ble_eq_true rfl⟩) hK hN hw (ci := 6) rfl k25 rfl hl.1 (lv_room (Nat.le_of_ble_eq_true rfl)) d_Input_beginsWith_25 ⟨Nat.le_refl _, Nat.le_refl _⟩) hS (fun H locs hw hS => ?_)
        refine lv_aload_n hx hb d_Input_beginsWith_28 rfl (lv_at hl 1 rfl) ?_
        refine lv_iload_n hx hb d_Input_beginsWith_29 rfl (lv_at hl 2 rfl) ?_
        replace hrun := hb_some hrun
        obtain ⟨c30, k30, hrun⟩ := hrun
        replace hrun := hb_some hrun
        obtain ⟨v30, g30, hrun⟩ := hrun
        refine h_ci (h_runV S (As := [.int x2]) (rest := [.int v25]) (c_Row_get l D dA b0 a1 x2 nx g30) (cwV 1 S.2.2.2.2 (h_good _ (h_in4 ml_Input_22 im_Row_get se_Row_get it_Row) cd_Row_get) rfl rfl rfl (by decide +kernel) ⟨Nat.le_of_ble_eq_true rfl, Nat.le_of_ble_eq_true rfl⟩) hK hN hw (ci := 8) rfl k30 rfl hl.1 (lv_room (Nat.le_of_ble_eq_true rfl)) d_Input_beginsWith_30 ⟨Nat.le_refl _, Nat.le_refl _⟩) hS (fun H locs hw hS => ?_)
        refine lv_icmp_eq (tgt := 38) hx hb d_Input_beginsWith_33 (by decide) (fun c33 => ?_) (fun c33 => ?_)
        · rw [if_pos c33] at hrun
          refine lv_iinc (v := (x2 + (1 : Int32))) (lv' := [(2, .int (x2 + (1 : Int32))), (0, .ref a0), (1, .ref a1)]) hx hb d_Input_beginsWith_38 hl (k := 2) rfl rfl (by decide) rfl (fun ls hl => ?_)
          refine lv_goto (tgt := 15) hx hb d_Input_beginsWith_41 (by decide) ?_
          cases hrun
          exact K0 (x2 + (1 : Int32)) rfl H locs ls hw hS (lv_sub hl [1, 2, 0] rfl)
        · rw [if_neg c33] at hrun
          cases hrun
          exact K1  rfl H locs ls hw hS (lv_sub hl [] rfl)
  unfold f_Input_beginsWith at hrun
  refine lv_aload_n hx hb d_Input_beginsWith_0 rfl (lv_at hl 1 rfl) ?_
  replace hrun := hb_some hrun
  obtain ⟨v1, g1, hrun⟩ := hrun
  refine h_getNI S (fun w q => hT w (i_Row w q)) hK (ci := 8) rfl 2 (by decide) (hN.1 _ nf_Input_19) hw g1 d_Input_beginsWith_1 ?_
  refine lv_aload_n hx hb d_Input_beginsWith_4 rfl (lv_at hl 0 rfl) ?_
  replace hrun := hb_some hrun
  obtain ⟨v5, g5, hrun⟩ := hrun
  refine h_getI S (fun w q => hT w (i_Input w q)) hK (ci := 6) rfl 1 (by decide) (hT _ fl_Input_15) hw g5 d_Input_beginsWith_5 ?_
  refine lv_icmp_le (tgt := 13) hx hb d_Input_beginsWith_8 (by decide) (fun c8 => ?_) (fun c8 => ?_)
  · rw [if_pos c8] at hrun
    refine lv_iconst (v := (0 : Int32)) hx hb d_Input_beginsWith_13 (by decide) ?_
    refine lv_istore_n (lv' := [(2, .int (0 : Int32)), (0, .ref a0), (1, .ref a1)]) hx hb d_Input_beginsWith_14 rfl hl (by decide) rfl (fun ls hl => ?_)
    replace hrun := hb_some hrun
    obtain ⟨b15, g15, hrun⟩ := hrun
    refine l_15 n (0 : Int32) _ _ _ _ g15 hw hS (lv_sub hl [1, 2, 0] rfl) ?_ ?_
    · rintro  eq9 H locs ls hw hS hl
      obtain rfl := eq9.symm
      try dsimp only at hrun
      refine lv_iconst (v := (0 : Int32)) hx hb d_Input_beginsWith_36 (by decide) ?_
      cases hrun
      exact W.zret hx hb hr (by decide) (fun t ht hW9 => ⟨⟨_, (), rfl, rfl, by show hW D dA classes b0 _ _ t.heap; rw [ht]; exact hw⟩, hS.F ht⟩) hS.2.2 d_Input_beginsWith_37
    · rintro  eq9 H locs ls hw hS hl
      obtain rfl := eq9.symm
      try dsimp only at hrun
      refine lv_iconst (v := (1 : Int32)) hx hb d_Input_beginsWith_44 (by decide) ?_
      cases hrun
      exact W.zret hx hb hr (by decide) (fun t ht hW9 => ⟨⟨_, (), rfl, rfl, by show hW D dA classes b0 _ _ t.heap; rw [ht]; exact hw⟩, hS.F ht⟩) hS.2.2 d_Input_beginsWith_45
  · rw [if_neg c8] at hrun
    refine lv_iconst (v := (0 : Int32)) hx hb d_Input_beginsWith_11 (by decide) ?_
    cases hrun
    exact W.zret hx hb hr (by decide) (fun t ht hW9 => ⟨⟨_, (), rfl, rfl, by show hW D dA classes b0 _ _ t.heap; rw [ht]; exact hw⟩, hS.F ht⟩) hS.2.2 d_Input_beginsWith_12
set_option maxHeartbeats 4000000 in
set_option maxRecDepth 100000 in
theorem c_Input_drop (l : Launch) (D : va_G) (dA : Nat → ClassId) (b0 : Nat) (a0 : Nat) (i1 : Int32) (nx : Nat) {h h' : hH} {r : Unit} (hrun : f_Input_drop a0 i1 h = some (r, h')) : Met l y_Input_drop w_Input_drop ({ frames := 1, cells := 0, slots := 0, locals := 21 } : Room) (va_Pc [.ref a0, .int i1] (hB D dA b0 nx h)) (va_Qv (fun (_ : Unit) => True) (fun (_ : Unit) t => hW D dA classes b0 nx h' t.heap) (hA b0)) 0 0 (hA b0) := by
  refine Met.ofW (cc := b_Input_drop) (maxL := 2) (ret := none) (by decide) rfl ?_
  intro p e s m args below meth c s₁ B hml hv
  obtain ⟨rfl, hw, hK, hN⟩ := hv
  have hx := B.exec
  have hb := B.bytes
  have hr := B.returns
  have hlocks := B.notSynchronized
  have S : CallFix p m c b_Input_drop 2 s ([.ref a0, .int i1] : List Value).toArray w_Input_drop R_Input := ⟨hx, hb, hml, findClass_of_methodNamed B.named, atoms_spec (ws := w_Input_drop) B.pre⟩
  have hT : ∀ w ∈ tbl, w ∈ w_Input_drop := fun _ q => List.mem_cons_of_mem _ q
  have hS : va_S (hA b0) s.heap s.heap [] := va_S.rf
  have hl := lv_entry ([.ref a0, .int i1]) (n := 2) (Nat.le_of_ble_eq_true rfl)
  rw [lg_entry_eq]
  generalize (lg_sl ([.ref a0, .int i1]) ++ List.replicate (2 - (lg_sl ([.ref a0, .int i1])).length) Slot.unset).toArray = ls at hl ⊢
  have hl : lv_has ls 2 [(0, .ref a0), (1, .int i1)] := hl
  unfold f_Input_drop at hrun
  refine lv_aload_n hx hb d_Input_drop_0 rfl (lv_at hl 0 rfl) ?_
  refine lv_iconst (v := (0 : Int32)) hx hb d_Input_drop_1 (by decide) ?_
  refine lv_aload_n hx hb d_Input_drop_2 rfl (lv_at hl 0 rfl) ?_
  replace hrun := hb_some hrun
  obtain ⟨v3, g3, hrun⟩ := hrun
  refine h_getI S (fun w q => hT w (i_Input w q)) hK (ci := 6) rfl 1 (by decide) (hT _ fl_Input_15) hw g3 d_Input_drop_3 ?_
  refine lv_iconst (v := (0 : Int32)) hx hb d_Input_drop_6 (by decide) ?_
  refine lv_iload_n hx hb d_Input_drop_7 rfl (lv_at hl 1 rfl) ?_
  refine va_mmax hx hb (by rw [hml]; exact hl.1.symm) S.2.2.2.1 (S.2.2.2.2 _ (hT _ ml_Input_36)) (S.2.2.2.2 _ (hT _ sm_mmax)) (S.2.2.2.2 _ (hT _ it_Math)) (S.2.2.2.2 _ (hT _ cd_mmax)) (Nat.le_of_ble_eq_true rfl) (Nat.le_of_ble_eq_true rfl) (Nat.le_refl _) (Nat.le_refl _) d_Input_drop_8 ?_
  refine lv_isub hx hb d_Input_drop_11 ?_
  refine va_mmax hx hb (by rw [hml]; exact hl.1.symm) S.2.2.2.1 (S.2.2.2.2 _ (hT _ ml_Input_36)) (S.2.2.2.2 _ (hT _ sm_mmax)) (S.2.2.2.2 _ (hT _ it_Math)) (S.2.2.2.2 _ (hT _ cd_mmax)) (Nat.le_of_ble_eq_true rfl) (Nat.le_of_ble_eq_true rfl) (Nat.le_refl _) (Nat.le_refl _) d_Input_drop_12 ?_
  replace hrun := hb_some hrun
  obtain ⟨h15, g15, hrun⟩ := hrun
  refine h_put S (fun w q => hT w (i_Input w q)) t_Input t_Input_ok n_Input hK (ci := 6) rfl 1 (by decide) (hT _ fl_Input_15) rfl rfl rfl hw hS g15 d_Input_drop_15 (fun H locs hw hS => ?_)
  cases hrun
  exact W.vret hx hb hr (fun t ht hW9 => ⟨⟨(), rfl, trivial, by show hW D dA classes b0 _ _ t.heap; rw [ht]; exact hw⟩, hS.F ht⟩) hS.2.2 d_Input_drop_18
set_option maxHeartbeats 4000000 in
set_option maxRecDepth 100000 in
theorem c_Row_leaveOutOuterPair (l : Launch) (D : va_G) (dA : Nat → ClassId) (b0 : Nat) (n : Nat) (a0 : Nat) (nx : Nat) {h h' : hH} {r : Unit} (hrun : f_Row_leaveOutOuterPair n a0 h = some (r, h')) : Met l y_Row_leaveOutOuterPair w_Row_leaveOutOuterPair ({ frames := 1, cells := 0, slots := 0, locals := 48 } : Room) (va_Pc [.ref a0] (hB D dA b0 nx h)) (va_Qv (fun (_ : Unit) => True) (fun (_ : Unit) t => hW D dA classes b0 nx h' t.heap) (hA b0)) 0 0 (hA b0) := by
  refine Met.ofW (cc := b_Row_leaveOutOuterPair) (maxL := 3) (ret := none) (by decide) rfl ?_
  intro p e s m args below meth c s₁ B hml hv
  obtain ⟨rfl, hw, hK, hN⟩ := hv
  have hx := B.exec
  have hb := B.bytes
  have hr := B.returns
  have hlocks := B.notSynchronized
  have S : CallFix p m c b_Row_leaveOutOuterPair 3 s ([.ref a0] : List Value).toArray w_Row_leaveOutOuterPair R_Row := ⟨hx, hb, hml, findClass_of_methodNamed B.named, atoms_spec (ws := w_Row_leaveOutOuterPair) B.pre⟩
  have hT : ∀ w ∈ tbl, w ∈ w_Row_leaveOutOuterPair := fun _ q => List.mem_cons_of_mem _ q
  have hS : va_S (hA b0) s.heap s.heap [] := va_S.rf
  have hl := lv_entry ([.ref a0]) (n := 3) (Nat.le_of_ble_eq_true rfl)
  rw [lg_entry_eq]
  generalize (lg_sl ([.ref a0]) ++ List.replicate (3 - (lg_sl ([.ref a0])).length) Slot.unset).toArray = ls at hl ⊢
  have hl : lv_has ls 3 [(0, .ref a0)] := hl
  have l_40 : ∀ (n9 : Nat) (x9 : Int32 × Int32) (h : hH) (b9 : (Unit) ⊕ (Unit)) (h9 : hH) (H : Heap) (locs : List Loc) (ls : Array Slot), hloopW (f_Row_leaveOutOuterPair_b40 n a0) n9 x9 h = some (b9, h9) → hW D dA classes b0 nx h H → va_S (hA b0) s.heap H locs → lv_has ls 3 (match x9 with | (x1, x2) => [(0, .ref a0), (1, .int x1), (2, .int x2)]) → (b9 = .inl () → ∀ (H : Heap) (locs : List Loc) (ls : Array Slot), hW D dA classes b0 nx h9 H → va_S (hA b0) s.heap H locs → lv_has ls 3 [] → W p l e (headSpec w_Row_leaveOutOuterPair ({ frames := 1, cells := 0, slots := 0, locals := 48 } : Room)).room s m ([.ref a0] : List Value).toArray below meth c H locs 0 0 (MQ below (va_Qv (fun (_ : Unit) => True) (fun (_ : Unit) t => hW D dA classes b0 nx h' t.heap) (hA b0)) ([.ref a0] : List Value).toArray s 0 0 (hA b0)) (F0 m 65 ls [])) → (b9 = .inr (()) → ∀ (H : Heap) (locs : List Loc) (ls : Array Slot), hW D dA classes b0 nx h9 H → va_S (hA b0) s.heap H locs → lv_has ls 3 [(0, .ref a0)] → W p l e (headSpec w_Row_leaveOutOuterPair ({ frames := 1, cells := 0, slots := 0, locals := 48 } : Room)).room s m ([.ref a0] : List Value).toArray below meth c H locs 0 0 (MQ below (va_Qv (fun (_ : Unit) => True) (fun (_ : Unit) t => hW D dA classes b0 nx h' t.heap) (hA b0)) ([.ref a0] : List Value).toArray s 0 0 (hA b0)) (F0 m 72 ls [])) → W p l e (headSpec w_Row_leaveOutOuterPair ({ frames := 1, cells := 0, slots := 0, locals := 48 } : Room)).room s m ([.ref a0] : List Value).toArray below meth c H locs 0 0 (MQ below (va_Qv (fun (_ : Unit) => True) (fun (_ : Unit) t => hW D dA classes b0 nx h' t.heap) (hA b0)) ([.ref a0] : List Value).toArray s 0 0 (hA b0)) (F0 m 40 ls []) := by
    intro  n9
    induction n9 with
    | zero =>
      intro x9 h b9 h9 H locs ls hrun
      cases hrun
    | succ n9 ih =>
      rintro ⟨x1, x2⟩ h b9 h9 H locs ls hrun hw hS hl k0 k1
      have hl : lv_has ls 3 [(0, .ref a0), (1, .int x1), (2, .int x2)] := hl
      unfold hloopW at hrun
      obtain ⟨q9, h9b, hbody, hrun9⟩ := hbW_some hrun
      have K0 : (∀ (z1 : Int32) (z2 : Int32), q9 = .inl (z1, z2) → ∀ (H : Heap) (locs : List Loc) (ls : Array Slot), hW D dA classes b0 nx h9b H → va_S (hA b0) s.heap H locs → lv_has ls 3 [(0, .ref a0), (1, .int z1), (2, .int z2)] → W p l e (headSpec w_Row_leaveOutOuterPair ({ frames := 1, cells := 0, slots := 0, locals := 48 } : Room)).room s m ([.ref a0] : List Value).toArray below meth c H locs 0 0 (MQ below (va_Qv (fun (_ : Unit) => True) (fun (_ : Unit) t => hW D dA classes b0 nx h' t.heap) (hA b0)) ([.ref a0] : List Value).toArray s 0 0 (hA b0)) (F0 m 40 ls [])) := by
        intro z1 z2 eq9 H locs ls hw hS hl
        subst eq9
        exact ih (z1, z2) h9b b9 h9 H locs ls hrun9 hw hS hl k0 k1
      have K1 : (q9 = .inr (.inl ()) → ∀ (H : Heap) (locs : List Loc) (ls : Array Slot), hW D dA classes b0 nx h9b H → va_S (hA b0) s.heap H locs → lv_has ls 3 [] → W p l e (headSpec w_Row_leaveOutOuterPair ({ frames := 1, cells := 0, slots := 0, locals := 48 } : Room)).room s m ([.ref a0] : List Value).toArray below meth c H locs 0 0 (MQ below (va_Qv (fun (_ : Unit) => True) (fun (_ : Unit) t => hW D dA classes b0 nx h' t.heap) (hA b0)) ([.ref a0] : List Value).toArray s 0 0 (hA b0)) (F0 m 65 ls [])) := by
        intro  eq9 H locs ls hw hS hl
        subst eq9
        cases hrun9
        exact k0  rfl H locs ls hw hS hl
      have K2 : (q9 = .inr (.inr (())) → ∀ (H : Heap) (locs : List Loc) (ls : Array Slot), hW D dA classes b0 nx h9b H → va_S (hA b0) s.heap H locs → lv_has ls 3 [(0, .ref a0)] → W p l e (headSpec w_Row_leaveOutOuterPair ({ frames := 1, cells := 0, slots := 0, locals := 48 } : Room)).room s m ([.ref a0] : List Value).toArray below meth c H locs 0 0 (MQ below (va_Qv (fun (_ : Unit) => True) (fun (_ : Unit) t => hW D dA classes b0 nx h' t.heap) (hA b0)) ([.ref a0] : List Value).toArray s 0 0 (hA b0)) (F0 m 72 ls [])) := by
        intro  eq9 H locs ls hw hS hl
        subst eq9
        cases hrun9
        exact k1  rfl H locs ls hw hS hl
      clear hrun hrun9 ih k0 k1
      have hrun := hbody
      clear hbody
      dsimp only [f_Row_leaveOutOuterPair_b40] at hrun
      refine lv_iload_n hx hb d_Row_leaveOutOuterPair_40 rfl (lv_at hl 2 rfl) ?_
      refine lv_aload_n hx hb d_Row_leaveOutOuterPair_41 rfl (lv_at hl 0 rfl) ?_
      replace hrun := hb_some hrun
      obtain ⟨v42, g42, hrun⟩ := hrun
      refine h_getI S (fun w q => hT w (i_Row w q)) hK (ci := 8) rfl 2 (by decide) (hT _ fl_Row_19) hw g42 d_Row_leaveOutOuterPair_42 ?_
      refine lv_iconst (v := (1 : Int32)) hx hb d_Row_leaveOutOuterPair_45 (by decide) ?_
      refine lv_isub hx hb d_Row_leaveOutOuterPair_46 ?_
      refine lv_icmp_ge (tgt := 72) hx hb d_Row_leaveOutOuterPair_47 (by decide) (fun c47 => ?_) (fun c47 => ?_)
      · rw [if_pos c47] at hrun
        cases hrun
        exact K2  rfl H locs ls hw hS (lv_sub hl [0] rfl)
      · rw [if_neg c47] at hrun
        refine lv_iload_n hx hb d_Row_leaveOutOuterPair_50 rfl (lv_at hl 1 rfl) ?_
        refine lv_aload_n hx hb d_Row_leaveOutOuterPair_51 rfl (lv_at hl 0 rfl) ?_
        refine lv_iload_n hx hb d_Row_leaveOutOuterPair_52 rfl (lv_at hl 2 rfl) ?_
        replace hrun := hb_some hrun
        obtain ⟨c53, k53, hrun⟩ := hrun
        replace hrun := hb_some hrun
        obtain ⟨v53, g53, hrun⟩ := hrun
        refine h_ci (h_runV S (As := [.int x2]) (rest := [.int x1]) (c_Row_get l D dA b0 a0 x2 nx g53) (cwV 1 S.2.2.2.2 (h_good _ (h_in4 ml_Row_34 im_Row_get se_Row_get it_Row) cd_Row_get) rfl rfl rfl (by decide +kernel) ⟨Nat.le_of_ble_eq_true rfl, Nat.le_of_ble_eq_true rfl⟩) hK hN hw (ci := 8) rfl k53 rfl hl.1 (lv_room (Nat.le_of_ble_eq_true rfl)) d_Row_leaveOutOuterPair_53 ⟨Nat.le_refl _, Nat.le_refl _⟩) hS (fun H locs hw hS => ?_)
        replace hrun := hb_some hrun
        obtain ⟨v56, g56, hrun⟩ := hrun
        refine h_ci (h_runS S (As := [.int v53]) (rest := [.int x1]) (c_Kind_nesting l D dA b0 v53 nx g56) (va_cwS 1 S.2.2.2.2 (h_good _ (h_in3 ml_Row_38 sm_Kind_nesting it_Kind) cd_Kind_nesting) rfl rfl rfl (by decide +kernel) ⟨Nat.le_of_ble_eq_true rfl, Nat.le_of_ble_eq_true rfl⟩) hK hN hw rfl hl.1 (lv_room (Nat.le_of_ble_eq_true rfl)) d_Row_leaveOutOuterPair_56 ⟨Nat.le_refl _, Nat.le_refl _⟩) hS (fun H locs hw hS => ?_)
        refine lv_iadd hx hb d_Row_leaveOutOuterPair_59 ?_
        refine lv_istore_n (lv' := [(1, .int (x1 + v56)), (0, .ref a0), (2, .int x2)]) hx hb d_Row_leaveOutOuterPair_60 rfl hl (by decide) rfl (fun ls hl => ?_)
        refine lv_iload_n hx hb d_Row_leaveOutOuterPair_61 rfl (lv_at hl 0 rfl) ?_
        refine lv_if_ne (tgt := 66) hx hb d_Row_leaveOutOuterPair_62 (by decide) (fun c62 => ?_) (fun c62 => ?_)
        · rw [if_neg c62] at hrun
          refine lv_iinc (v := (x2 + (1 : Int32))) (lv' := [(2, .int (x2 + (1 : Int32))), (1, .int (x1 + v56)), (0, .ref a0)]) hx hb d_Row_leaveOutOuterPair_66 hl (k := 2) rfl rfl (by decide) rfl (fun ls hl => ?_)
          refine lv_goto (tgt := 40) hx hb d_Row_leaveOutOuterPair_69 (by decide) ?_
          cases hrun
          exact K0 (x1 + v56) (x2 + (1 : Int32)) rfl H locs ls hw hS (lv_sub hl [2, 1, 0] rfl)
        · rw [if_pos c62] at hrun
          cases hrun
          exact K1  rfl H locs ls hw hS (lv_sub hl [] rfl)
  unfold f_Row_leaveOutOuterPair at hrun
  refine lv_aload_n hx hb d_Row_leaveOutOuterPair_0 rfl (lv_at hl 0 rfl) ?_
  replace hrun := hb_some hrun
  obtain ⟨v1, g1, hrun⟩ := hrun
  refine h_getI S (fun w q => hT w (i_Row w q)) hK (ci := 8) rfl 2 (by decide) (hT _ fl_Row_19) hw g1 d_Row_leaveOutOuterPair_1 ?_
  refine lv_iconst (v := (2 : Int32)) hx hb d_Row_leaveOutOuterPair_4 (by decide) ?_
  refine lv_icmp_lt (tgt := 35) hx hb d_Row_leaveOutOuterPair_5 (by decide) (fun c5 => ?_) (fun c5 => ?_)
  · rw [if_pos c5] at hrun
    cases hrun
    exact W.vret hx hb hr (fun t ht hW9 => ⟨⟨(), rfl, trivial, by show hW D dA classes b0 _ _ t.heap; rw [ht]; exact hw⟩, hS.F ht⟩) hS.2.2 d_Row_leaveOutOuterPair_35
  · rw [if_neg c5] at hrun
    refine lv_aload_n hx hb d_Row_leaveOutOuterPair_8 rfl (lv_at hl 0 rfl) ?_
    refine lv_iconst (v := (0 : Int32)) hx hb d_Row_leaveOutOuterPair_9 (by decide) ?_
    replace hrun := hb_some hrun
    obtain ⟨c10, k10, hrun⟩ := hrun
    replace hrun := hb_some hrun
    obtain ⟨v10, g10, hrun⟩ := hrun
    refine h_ci (h_runV S (As := [.int (0 : Int32)]) (rest := []) (c_Row_get l D dA b0 a0 (0 : Int32) nx g10) (cwV 1 S.2.2.2.2 (h_good _ (h_in4 ml_Row_34 im_Row_get se_Row_get it_Row) cd_Row_get) rfl rfl rfl (by decide +kernel) ⟨Nat.le_of_ble_eq_true rfl, Nat.le_of_ble_eq_true rfl⟩) hK hN hw (ci := 8) rfl k10 rfl hl.1 (lv_room (Nat.le_of_ble_eq_true rfl)) d_Row_leaveOutOuterPair_10 ⟨Nat.le_refl _, Nat.le_refl _⟩) hS (fun H locs hw hS => ?_)
    refine lv_sipush (v := (257 : Int32)) hx hb d_Row_leaveOutOuterPair_13 (by decide) ?_
    refine lv_icmp_ne (tgt := 35) hx hb d_Row_leaveOutOuterPair_16 (by decide) (fun c16 => ?_) (fun c16 => ?_)
    · rw [if_neg c16] at hrun
      cases hrun
      exact W.vret hx hb hr (fun t ht hW9 => ⟨⟨(), rfl, trivial, by show hW D dA classes b0 _ _ t.heap; rw [ht]; exact hw⟩, hS.F ht⟩) hS.2.2 d_Row_leaveOutOuterPair_35
    · rw [if_pos c16] at hrun
      refine lv_aload_n hx hb d_Row_leaveOutOuterPair_19 rfl (lv_at hl 0 rfl) ?_
      refine lv_aload_n hx hb d_Row_leaveOutOuterPair_20 rfl (lv_at hl 0 rfl) ?_
      replace hrun := hb_some hrun
      obtain ⟨v21, g21, hrun⟩ := hrun
      refine h_getI S (fun w q => hT w (i_Row w q)) hK (ci := 8) rfl 2 (by decide) (hT _ fl_Row_19) hw g21 d_Row_leaveOutOuterPair_21 ?_
      refine lv_iconst (v := (1 : Int32)) hx hb d_Row_leaveOutOuterPair_24 (by decide) ?_
      refine lv_isub hx hb d_Row_leaveOutOuterPair_25 ?_
      replace hrun := hb_some hrun
      obtain ⟨c26, k26, hrun⟩ := hrun
      replace hrun := hb_some hrun
      obtain ⟨v26, g26, hrun⟩ := hrun
      refine h_ci (h_runV S (As := [.int (v21 - (1 : Int32))]) (rest := []) (c_Row_get l D dA b0 a0 (v21 - (1 : Int32)) nx g26) (cwV 1 S.2.2.2.2 (h_good _ (h_in4 ml_Row_34 im_Row_get se_Row_get it_Row) cd_Row_get) rfl rfl rfl (by decide +kernel) ⟨Nat.le_of_ble_eq_true rfl, Nat.le_of_ble_eq_true rfl⟩) hK hN hw (ci := 8) rfl k26 rfl hl.1 (lv_room (Nat.le_of_ble_eq_true rfl)) d_Row_leaveOutOuterPair_26 ⟨Nat.le_refl _, Nat.le_refl _⟩) hS (fun H locs hw hS => ?_)
      refine lv_sipush (v := (258 : Int32)) hx hb d_Row_leaveOutOuterPair_29 (by decide) ?_
      refine lv_icmp_eq (tgt := 36) hx hb d_Row_leaveOutOuterPair_32 (by decide) (fun c32 => ?_) (fun c32 => ?_)
      · rw [if_pos c32] at hrun
        refine lv_iconst (v := (0 : Int32)) hx hb d_Row_leaveOutOuterPair_36 (by decide) ?_
        refine lv_istore_n (lv' := [(1, .int (0 : Int32)), (0, .ref a0)]) hx hb d_Row_leaveOutOuterPair_37 rfl hl (by decide) rfl (fun ls hl => ?_)
        refine lv_iconst (v := (0 : Int32)) hx hb d_Row_leaveOutOuterPair_38 (by decide) ?_
        refine lv_istore_n (lv' := [(2, .int (0 : Int32)), (1, .int (0 : Int32)), (0, .ref a0)]) hx hb d_Row_leaveOutOuterPair_39 rfl hl (by decide) rfl (fun ls hl => ?_)
        replace hrun := hbW_some hrun
        obtain ⟨b40, h40l, g40, hrun⟩ := hrun
        refine l_40 n ((0 : Int32), (0 : Int32)) h _ _ _ _ _ g40 hw hS (lv_sub hl [2, 1, 0] rfl) ?_ ?_
        · rintro  eq9 H locs ls hw hS hl
          obtain rfl := eq9.symm
          try dsimp only at hrun
          cases hrun
          exact W.vret hx hb hr (fun t ht hW9 => ⟨⟨(), rfl, trivial, by show hW D dA classes b0 _ _ t.heap; rw [ht]; exact hw⟩, hS.F ht⟩) hS.2.2 d_Row_leaveOutOuterPair_65
        · rintro  eq9 H locs ls hw hS hl
          obtain rfl := eq9.symm
          try dsimp only at hrun
          refine lv_aload_n hx hb d_Row_leaveOutOuterPair_72 rfl (lv_at hl 0 rfl) ?_
          replace hrun := hb_some hrun
          obtain ⟨v73, g73, hrun⟩ := hrun
          refine h_getR S (fun w q => hT w (i_Row w q)) hK (ci := 8) rfl 1 (by decide) (hT _ fl_Row_15) hw g73 d_Row_leaveOutOuterPair_73 ?_
          refine lv_iconst (v := (1 : Int32)) hx hb d_Row_leaveOutOuterPair_76 (by decide) ?_
          refine lv_aload_n hx hb d_Row_leaveOutOuterPair_77 rfl (lv_at hl 0 rfl) ?_
          replace hrun := hb_some hrun
          obtain ⟨v78, g78, hrun⟩ := hrun
          refine h_getR S (fun w q => hT w (i_Row w q)) hK (ci := 8) rfl 1 (by decide) (hT _ fl_Row_15) hw g78 d_Row_leaveOutOuterPair_78 ?_
          refine lv_iconst (v := (0 : Int32)) hx hb d_Row_leaveOutOuterPair_81 (by decide) ?_
          refine lv_aload_n hx hb d_Row_leaveOutOuterPair_82 rfl (lv_at hl 0 rfl) ?_
          replace hrun := hb_some hrun
          obtain ⟨v83, g83, hrun⟩ := hrun
          refine h_getI S (fun w q => hT w (i_Row w q)) hK (ci := 8) rfl 2 (by decide) (hT _ fl_Row_19) hw g83 d_Row_leaveOutOuterPair_83 ?_
          refine lv_iconst (v := (2 : Int32)) hx hb d_Row_leaveOutOuterPair_86 (by decide) ?_
          refine lv_isub hx hb d_Row_leaveOutOuterPair_87 ?_
          replace hrun := hb_some hrun
          obtain ⟨p88_0, rfl, hrun⟩ := hrun
          replace hrun := hb_some hrun
          obtain ⟨p88_2, rfl, hrun⟩ := hrun
          replace hrun := hb_some hrun
          obtain ⟨h88, g88, hrun⟩ := hrun
          refine h_copyi S hl.1 (hT _ ml_Row_43) (hT _ nt_copy) (hT _ sm_copy) (hT _ it_System) hK (kd := 0) rfl hw hS g88 (Nat.le_of_ble_eq_true rfl) (Nat.le_of_ble_eq_true rfl) d_Row_leaveOutOuterPair_88 (fun H locs hw hS => ?_)
          refine lv_aload_n hx hb d_Row_leaveOutOuterPair_91 rfl (lv_at hl 0 rfl) ?_
          refine lv_dup hx hb d_Row_leaveOutOuterPair_92 rfl ?_
          replace hrun := hb_some hrun
          obtain ⟨v93, g93, hrun⟩ := hrun
          refine h_getI S (fun w q => hT w (i_Row w q)) hK (ci := 8) rfl 2 (by decide) (hT _ fl_Row_19) hw g93 d_Row_leaveOutOuterPair_93 ?_
          refine lv_iconst (v := (2 : Int32)) hx hb d_Row_leaveOutOuterPair_96 (by decide) ?_
          refine lv_isub hx hb d_Row_leaveOutOuterPair_97 ?_
          replace hrun := hb_some hrun
          obtain ⟨h98, g98, hrun⟩ := hrun
          refine h_put S (fun w q => hT w (i_Row w q)) t_Row t_Row_ok n_Row hK (ci := 8) rfl 2 (by decide) (hT _ fl_Row_19) rfl rfl rfl hw hS g98 d_Row_leaveOutOuterPair_98 (fun H locs hw hS => ?_)
          cases hrun
          exact W.vret hx hb hr (fun t ht hW9 => ⟨⟨(), rfl, trivial, by show hW D dA classes b0 _ _ t.heap; rw [ht]; exact hw⟩, hS.F ht⟩) hS.2.2 d_Row_leaveOutOuterPair_101
      · rw [if_neg c32] at hrun
        cases hrun
        exact W.vret hx hb hr (fun t ht hW9 => ⟨⟨(), rfl, trivial, by show hW D dA classes b0 _ _ t.heap; rw [ht]; exact hw⟩, hS.F ht⟩) hS.2.2 d_Row_leaveOutOuterPair_35
set_option maxHeartbeats 4000000 in
set_option maxRecDepth 100000 in
theorem c_Arguments_readUpTo (l : Launch) (D : va_G) (dA : Nat → ClassId) (b0 : Nat) (n : Nat) (a0 : Nat) (a1 : Nat) (i2 : Int32) (a3 : Nat) (nxZ : Nat) {h h' : hH} {r : Int32} {dnZ dsZ : Nat} (hrun : f_Arguments_readUpTo n a0 a1 i2 a3 nxZ h = some (r, dnZ, dsZ, h')) : Met l y_Arguments_readUpTo w_Arguments_readUpTo ({ frames := 3, cells := dnZ, slots := dsZ, locals := 91 } : Room) (va_Pc [.ref a0, .ref a1, .int i2, .ref a3] (hB D dA b0 nxZ h)) (va_Qi (fun r' (_ : Unit) => r' = r) (fun (_ : Unit) t => hW D dA classes b0 (nxZ + dnZ) h' t.heap) (hA b0)) dnZ dsZ (hA b0) := by
  refine Met.ofW (cc := b_Arguments_readUpTo) (maxL := 8) (ret := (some .int)) (by decide) rfl ?_
  intro p e s m args below meth c s₁ B hml hv
  obtain ⟨rfl, hw, hK, hN⟩ := hv
  have hx := B.exec
  have hb := B.bytes
  have hr := B.returns
  have hlocks := B.notSynchronized
  have S : CallFix p m c b_Arguments_readUpTo 8 s ([.ref a0, .ref a1, .int i2, .ref a3] : List Value).toArray w_Arguments_readUpTo R_Arguments := ⟨hx, hb, hml, findClass_of_methodNamed B.named, atoms_spec (ws := w_Arguments_readUpTo) B.pre⟩
  have hT : ∀ w ∈ tbl, w ∈ w_Arguments_readUpTo := fun _ q => List.mem_cons_of_mem _ q
  have hS : va_S (hA b0) s.heap s.heap [] := va_S.rf
  have hl := lv_entry ([.ref a0, .ref a1, .int i2, .ref a3]) (n := 8) (Nat.le_of_ble_eq_true rfl)
  rw [lg_entry_eq]
  generalize (lg_sl ([.ref a0, .ref a1, .int i2, .ref a3]) ++ List.replicate (8 - (lg_sl ([.ref a0, .ref a1, .int i2, .ref a3])).length) Slot.unset).toArray = ls at hl ⊢
  have hl : lv_has ls 8 [(0, .ref a0), (1, .ref a1), (2, .int i2), (3, .ref a3)] := hl
  obtain ⟨dn, edn⟩ : ∃ z, z = dnZ := ⟨_, rfl⟩
  obtain ⟨ds, eds⟩ : ∃ z, z = dsZ := ⟨_, rfl⟩
  obtain ⟨nx, enx⟩ : ∃ z, z = nxZ := ⟨_, rfl⟩
  rw [← edn, ← eds, ← enx] at hrun
  rw [← enx] at hw
  have hcR : 0 + dn = dnZ := by omega
  have hsR : 0 + ds = dsZ := by omega
  have hnR : nx + dn = nxZ + dnZ := by omega
  clear edn eds enx
  have l_18 : ∀ (x4 : Option Nat) (n9 : Nat) (x9 : Int32 × Int32) (cells slots dn ds nx : Nat) (h : hH) (b9 : (Unit) ⊕ (Unit) ⊕ (Unit) ⊕ (Unit) ⊕ (Unit)) (h9 : hH) (H : Heap) (locs : List Loc) (ls : Array Slot), hloopA (f_Arguments_readUpTo_b18 n a0 a1 a3 x4) n9 x9 nx h = some (b9, dn, ds, h9) → cells + dn ≤ dnZ → slots + ds ≤ dsZ → hW D dA classes b0 nx h H → va_S (hA b0) s.heap H locs → lv_has ls 8 (match x9 with | (x5, x6) => [(0, .ref a0), (1, .ref a1), (3, .ref a3), (4, va_rf x4), (5, .int x5), (6, .int x6)]) → (b9 = .inl () → ∀ (H : Heap) (locs : List Loc) (ls : Array Slot), hW D dA classes b0 (nx + dn) h9 H → va_S (hA b0) s.heap H locs → lv_has ls 8 [(0, .ref a0), (1, .ref a1), (4, va_rf x4)] → W p l e (headSpec w_Arguments_readUpTo ({ frames := 3, cells := dnZ, slots := dsZ, locals := 91 } : Room)).room s m ([.ref a0, .ref a1, .int i2, .ref a3] : List Value).toArray below meth c H locs (cells + dn) (slots + ds) (MQ below (va_Qi (fun r' (_ : Unit) => r' = r) (fun (_ : Unit) t => hW D dA classes b0 (nxZ + dnZ) h' t.heap) (hA b0)) ([.ref a0, .ref a1, .int i2, .ref a3] : List Value).toArray s dnZ dsZ (hA b0)) (F0 m 52 ls [])) → (b9 = .inr (.inl ()) → ∀ (H : Heap) (locs : List Loc) (ls : Array Slot), hW D dA classes b0 (nx + dn) h9 H → va_S (hA b0) s.heap H locs → lv_has ls 8 [] → W p l e (headSpec w_Arguments_readUpTo ({ frames := 3, cells := dnZ, slots := dsZ, locals := 91 } : Room)).room s m ([.ref a0, .ref a1, .int i2, .ref a3] : List Value).toArray below meth c H locs (cells + dn) (slots + ds) (MQ below (va_Qi (fun r' (_ : Unit) => r' = r) (fun (_ : Unit) t => hW D dA classes b0 (nxZ + dnZ) h' t.heap) (hA b0)) ([.ref a0, .ref a1, .int i2, .ref a3] : List Value).toArray s dnZ dsZ (hA b0)) (F0 m 89 ls [])) → (b9 = .inr (.inr (.inl ())) → ∀ (H : Heap) (locs : List Loc) (ls : Array Slot), hW D dA classes b0 (nx + dn) h9 H → va_S (hA b0) s.heap H locs → lv_has ls 8 [] → W p l e (headSpec w_Arguments_readUpTo ({ frames := 3, cells := dnZ, slots := dsZ, locals := 91 } : Room)).room s m ([.ref a0, .ref a1, .int i2, .ref a3] : List Value).toArray below meth c H locs (cells + dn) (slots + ds) (MQ below (va_Qi (fun r' (_ : Unit) => r' = r) (fun (_ : Unit) t => hW D dA classes b0 (nxZ + dnZ) h' t.heap) (hA b0)) ([.ref a0, .ref a1, .int i2, .ref a3] : List Value).toArray s dnZ dsZ (hA b0)) (F0 m 106 ls [])) → (b9 = .inr (.inr (.inr (.inl ()))) → ∀ (H : Heap) (locs : List Loc) (ls : Array Slot), hW D dA classes b0 (nx + dn) h9 H → va_S (hA b0) s.heap H locs → lv_has ls 8 [] → W p l e (headSpec w_Arguments_readUpTo ({ frames := 3, cells := dnZ, slots := dsZ, locals := 91 } : Room)).room s m ([.ref a0, .ref a1, .int i2, .ref a3] : List Value).toArray below meth c H locs (cells + dn) (slots + ds) (MQ below (va_Qi (fun r' (_ : Unit) => r' = r) (fun (_ : Unit) t => hW D dA classes b0 (nxZ + dnZ) h' t.heap) (hA b0)) ([.ref a0, .ref a1, .int i2, .ref a3] : List Value).toArray s dnZ dsZ (hA b0)) (F0 m 117 ls [])) → (b9 = .inr (.inr (.inr (.inr (())))) → ∀ (H : Heap) (locs : List Loc) (ls : Array Slot), hW D dA classes b0 (nx + dn) h9 H → va_S (hA b0) s.heap H locs → lv_has ls 8 [] → W p l e (headSpec w_Arguments_readUpTo ({ frames := 3, cells := dnZ, slots := dsZ, locals := 91 } : Room)).room s m ([.ref a0, .ref a1, .int i2, .ref a3] : List Value).toArray below meth c H locs (cells + dn) (slots + ds) (MQ below (va_Qi (fun r' (_ : Unit) => r' = r) (fun (_ : Unit) t => hW D dA classes b0 (nxZ + dnZ) h' t.heap) (hA b0)) ([.ref a0, .ref a1, .int i2, .ref a3] : List Value).toArray s dnZ dsZ (hA b0)) (F0 m 133 ls [])) → W p l e (headSpec w_Arguments_readUpTo ({ frames := 3, cells := dnZ, slots := dsZ, locals := 91 } : Room)).room s m ([.ref a0, .ref a1, .int i2, .ref a3] : List Value).toArray below meth c H locs cells slots (MQ below (va_Qi (fun r' (_ : Unit) => r' = r) (fun (_ : Unit) t => hW D dA classes b0 (nxZ + dnZ) h' t.heap) (hA b0)) ([.ref a0, .ref a1, .int i2, .ref a3] : List Value).toArray s dnZ dsZ (hA b0)) (F0 m 18 ls []) := by
    intro x4 n9
    induction n9 with
    | zero =>
      intro x9 cells slots dn ds nx h b9 h9 H locs ls hrun
      cases hrun
    | succ n9 ih =>
      rintro ⟨x5, x6⟩ cells slots dn ds nx h b9 h9 H locs ls hrun hcB hsB hw hS hl k0 k1 k2 k3 k4
      have hl : lv_has ls 8 [(0, .ref a0), (1, .ref a1), (3, .ref a3), (4, va_rf x4), (5, .int x5), (6, .int x6)] := hl
      unfold hloopA at hrun
      obtain ⟨q9, dnb, dsb, h9b, dnr, dsr, hbody, hrun9, edn, eds⟩ := hbind_some hrun
      have K0 : (∀ (z5 : Int32) (z6 : Int32), q9 = .inl (z5, z6) → ∀ (H : Heap) (locs : List Loc) (ls : Array Slot), hW D dA classes b0 (nx + dnb) h9b H → va_S (hA b0) s.heap H locs → lv_has ls 8 [(0, .ref a0), (1, .ref a1), (3, .ref a3), (4, va_rf x4), (5, .int z5), (6, .int z6)] → W p l e (headSpec w_Arguments_readUpTo ({ frames := 3, cells := dnZ, slots := dsZ, locals := 91 } : Room)).room s m ([.ref a0, .ref a1, .int i2, .ref a3] : List Value).toArray below meth c H locs (cells + dnb) (slots + dsb) (MQ below (va_Qi (fun r' (_ : Unit) => r' = r) (fun (_ : Unit) t => hW D dA classes b0 (nxZ + dnZ) h' t.heap) (hA b0)) ([.ref a0, .ref a1, .int i2, .ref a3] : List Value).toArray s dnZ dsZ (hA b0)) (F0 m 18 ls [])) := by
        intro z5 z6 eq9 H locs ls hw hS hl
        subst eq9
        exact ih (z5, z6) (cells + dnb) (slots + dsb) dnr dsr (nx + dnb) h9b b9 h9 H locs ls hrun9 (by omega) (by omega) hw hS hl (by have q := k0; rw [show nx + dn = nx + dnb + dnr by omega, show cells + dn = cells + dnb + dnr by omega, show slots + ds = slots + dsb + dsr by omega] at q; exact q) (by have q := k1; rw [show nx + dn = nx + dnb + dnr by omega, show cells + dn = cells + dnb + dnr by omega, show slots + ds = slots + dsb + dsr by omega] at q; exact q) (by have q := k2; rw [show nx + dn = nx + dnb + dnr by omega, show cells + dn = cells + dnb + dnr by omega, show slots + ds = slots + dsb + dsr by omega] at q; exact q) (by have q := k3; rw [show nx + dn = nx + dnb + dnr by omega, show cells + dn = cells + dnb + dnr by omega, show slots + ds = slots + dsb + dsr by omega] at q; exact q) (by have q := k4; rw [show nx + dn = nx + dnb + dnr by omega, show cells + dn = cells + dnb + dnr by omega, show slots + ds = slots + dsb + dsr by omega] at q; exact q)
      have K1 : (q9 = .inr (.inl ()) → ∀ (H : Heap) (locs : List Loc) (ls : Array Slot), hW D dA classes b0 (nx + dnb) h9b H → va_S (hA b0) s.heap H locs → lv_has ls 8 [(0, .ref a0), (1, .ref a1), (4, va_rf x4)] → W p l e (headSpec w_Arguments_readUpTo ({ frames := 3, cells := dnZ, slots := dsZ, locals := 91 } : Room)).room s m ([.ref a0, .ref a1, .int i2, .ref a3] : List Value).toArray below meth c H locs (cells + dnb) (slots + dsb) (MQ below (va_Qi (fun r' (_ : Unit) => r' = r) (fun (_ : Unit) t => hW D dA classes b0 (nxZ + dnZ) h' t.heap) (hA b0)) ([.ref a0, .ref a1, .int i2, .ref a3] : List Value).toArray s dnZ dsZ (hA b0)) (F0 m 52 ls [])) := by
        intro  eq9 H locs ls hw hS hl
        subst eq9
        cases hrun9
        subst edn; subst eds
        exact k0  rfl H locs ls hw hS hl
      have K2 : (q9 = .inr (.inr (.inl ())) → ∀ (H : Heap) (locs : List Loc) (ls : Array Slot), hW D dA classes b0 (nx + dnb) h9b H → va_S (hA b0) s.heap H locs → lv_has ls 8 [] → W p l e (headSpec w_Arguments_readUpTo ({ frames := 3, cells := dnZ, slots := dsZ, locals := 91 } : Room)).room s m ([.ref a0, .ref a1, .int i2, .ref a3] : List Value).toArray below meth c H locs (cells + dnb) (slots + dsb) (MQ below (va_Qi (fun r' (_ : Unit) => r' = r) (fun (_ : Unit) t => hW D dA classes b0 (nxZ + dnZ) h' t.heap) (hA b0)) ([.ref a0, .ref a1, .int i2, .ref a3] : List Value).toArray s dnZ dsZ (hA b0)) (F0 m 89 ls [])) := by
        intro  eq9 H locs ls hw hS hl
        subst eq9
        cases hrun9
        subst edn; subst eds
        exact k1  rfl H locs ls hw hS hl
      have K3 : (q9 = .inr (.inr (.inr (.inl ()))) → ∀ (H : Heap) (locs : List Loc) (ls : Array Slot), hW D dA classes b0 (nx + dnb) h9b H → va_S (hA b0) s.heap H locs → lv_has ls 8 [] → W p l e (headSpec w_Arguments_readUpTo ({ frames := 3, cells := dnZ, slots := dsZ, locals := 91 } : Room)).room s m ([.ref a0, .ref a1, .int i2, .ref a3] : List Value).toArray below meth c H locs (cells + dnb) (slots + dsb) (MQ below (va_Qi (fun r' (_ : Unit) => r' = r) (fun (_ : Unit) t => hW D dA classes b0 (nxZ + dnZ) h' t.heap) (hA b0)) ([.ref a0, .ref a1, .int i2, .ref a3] : List Value).toArray s dnZ dsZ (hA b0)) (F0 m 106 ls [])) := by
        intro  eq9 H locs ls hw hS hl
        subst eq9
        cases hrun9
        subst edn; subst eds
        exact k2  rfl H locs ls hw hS hl
      have K4 : (q9 = .inr (.inr (.inr (.inr (.inl ())))) → ∀ (H : Heap) (locs : List Loc) (ls : Array Slot), hW D dA classes b0 (nx + dnb) h9b H → va_S (hA b0) s.heap H locs → lv_has ls 8 [] → W p l e (headSpec w_Arguments_readUpTo ({ frames := 3, cells := dnZ, slots := dsZ, locals := 91 } : Room)).room s m ([.ref a0, .ref a1, .int i2, .ref a3] : List Value).toArray below meth c H locs (cells + dnb) (slots + dsb) (MQ below (va_Qi (fun r' (_ : Unit) => r' = r) (fun (_ : Unit) t => hW D dA classes b0 (nxZ + dnZ) h' t.heap) (hA b0)) ([.ref a0, .ref a1, .int i2, .ref a3] : List Value).toArray s dnZ dsZ (hA b0)) (F0 m 117 ls [])) := by
        intro  eq9 H locs ls hw hS hl
        subst eq9
        cases hrun9
        subst edn; subst eds
        exact k3  rfl H locs ls hw hS hl
      have K5 : (q9 = .inr (.inr (.inr (.inr (.inr (()))))) → ∀ (H : Heap) (locs : List Loc) (ls : Array Slot), hW D dA classes b0 (nx + dnb) h9b H → va_S (hA b0) s.heap H locs → lv_has ls 8 [] → W p l e (headSpec w_Arguments_readUpTo ({ frames := 3, cells := dnZ, slots := dsZ, locals := 91 } : Room)).room s m ([.ref a0, .ref a1, .int i2, .ref a3] : List Value).toArray below meth c H locs (cells + dnb) (slots + dsb) (MQ below (va_Qi (fun r' (_ : Unit) => r' = r) (fun (_ : Unit) t => hW D dA classes b0 (nxZ + dnZ) h' t.heap) (hA b0)) ([.ref a0, .ref a1, .int i2, .ref a3] : List Value).toArray s dnZ dsZ (hA b0)) (F0 m 133 ls [])) := by
        intro  eq9 H locs ls hw hS hl
        subst eq9
        cases hrun9
        subst edn; subst eds
        exact k4  rfl H locs ls hw hS hl
      clear hrun hrun9 ih k0 k1 k2 k3 k4
      have hrun := hbody
      clear hbody
      replace hcB : cells + dnb ≤ dnZ := by omega
      replace hsB : slots + dsb ≤ dsZ := by omega
      clear edn eds
      have j_70 : ∀  (x4 : Option Nat) (x5 : Int32) (x6 : Int32) (q9 : (Int32 × Int32) ⊕ ((Unit) ⊕ (Unit) ⊕ (Unit) ⊕ (Unit) ⊕ (Unit))) (h9 : hH) (cells slots dn ds nx : Nat) (h : hH) (H : Heap) (locs : List Loc) (ls : Array Slot), f_Arguments_readUpTo_j70 n a0 a1 a3 x4 x5 x6 nx h = some (q9, dn, ds, h9) → cells + dn ≤ dnZ → slots + ds ≤ dsZ → hW D dA classes b0 nx h H → va_S (hA b0) s.heap H locs → lv_has ls 8 [(0, .ref a0), (1, .ref a1), (3, .ref a3), (4, va_rf x4), (5, .int x5), (6, .int x6)] → (∀ (z5 : Int32) (z6 : Int32), q9 = .inl (z5, z6) → ∀ (H : Heap) (locs : List Loc) (ls : Array Slot), hW D dA classes b0 (nx + dn) h9 H → va_S (hA b0) s.heap H locs → lv_has ls 8 [(0, .ref a0), (1, .ref a1), (3, .ref a3), (4, va_rf x4), (5, .int z5), (6, .int z6)] → W p l e (headSpec w_Arguments_readUpTo ({ frames := 3, cells := dnZ, slots := dsZ, locals := 91 } : Room)).room s m ([.ref a0, .ref a1, .int i2, .ref a3] : List Value).toArray below meth c H locs (cells + dn) (slots + ds) (MQ below (va_Qi (fun r' (_ : Unit) => r' = r) (fun (_ : Unit) t => hW D dA classes b0 (nxZ + dnZ) h' t.heap) (hA b0)) ([.ref a0, .ref a1, .int i2, .ref a3] : List Value).toArray s dnZ dsZ (hA b0)) (F0 m 18 ls [])) → (q9 = .inr (.inl ()) → ∀ (H : Heap) (locs : List Loc) (ls : Array Slot), hW D dA classes b0 (nx + dn) h9 H → va_S (hA b0) s.heap H locs → lv_has ls 8 [(0, .ref a0), (1, .ref a1), (4, va_rf x4)] → W p l e (headSpec w_Arguments_readUpTo ({ frames := 3, cells := dnZ, slots := dsZ, locals := 91 } : Room)).room s m ([.ref a0, .ref a1, .int i2, .ref a3] : List Value).toArray below meth c H locs (cells + dn) (slots + ds) (MQ below (va_Qi (fun r' (_ : Unit) => r' = r) (fun (_ : Unit) t => hW D dA classes b0 (nxZ + dnZ) h' t.heap) (hA b0)) ([.ref a0, .ref a1, .int i2, .ref a3] : List Value).toArray s dnZ dsZ (hA b0)) (F0 m 52 ls [])) → (q9 = .inr (.inr (.inl ())) → ∀ (H : Heap) (locs : List Loc) (ls : Array Slot), hW D dA classes b0 (nx + dn) h9 H → va_S (hA b0) s.heap H locs → lv_has ls 8 [] → W p l e (headSpec w_Arguments_readUpTo ({ frames := 3, cells := dnZ, slots := dsZ, locals := 91 } : Room)).room s m ([.ref a0, .ref a1, .int i2, .ref a3] : List Value).toArray below meth c H locs (cells + dn) (slots + ds) (MQ below (va_Qi (fun r' (_ : Unit) => r' = r) (fun (_ : Unit) t => hW D dA classes b0 (nxZ + dnZ) h' t.heap) (hA b0)) ([.ref a0, .ref a1, .int i2, .ref a3] : List Value).toArray s dnZ dsZ (hA b0)) (F0 m 89 ls [])) → (q9 = .inr (.inr (.inr (.inl ()))) → ∀ (H : Heap) (locs : List Loc) (ls : Array Slot), hW D dA classes b0 (nx + dn) h9 H → va_S (hA b0) s.heap H locs → lv_has ls 8 [] → W p l e (headSpec w_Arguments_readUpTo ({ frames := 3, cells := dnZ, slots := dsZ, locals := 91 } : Room)).room s m ([.ref a0, .ref a1, .int i2, .ref a3] : List Value).toArray below meth c H locs (cells + dn) (slots + ds) (MQ below (va_Qi (fun r' (_ : Unit) => r' = r) (fun (_ : Unit) t => hW D dA classes b0 (nxZ + dnZ) h' t.heap) (hA b0)) ([.ref a0, .ref a1, .int i2, .ref a3] : List Value).toArray s dnZ dsZ (hA b0)) (F0 m 106 ls [])) → (q9 = .inr (.inr (.inr (.inr (.inl ())))) → ∀ (H : Heap) (locs : List Loc) (ls : Array Slot), hW D dA classes b0 (nx + dn) h9 H → va_S (hA b0) s.heap H locs → lv_has ls 8 [] → W p l e (headSpec w_Arguments_readUpTo ({ frames := 3, cells := dnZ, slots := dsZ, locals := 91 } : Room)).room s m ([.ref a0, .ref a1, .int i2, .ref a3] : List Value).toArray below meth c H locs (cells + dn) (slots + ds) (MQ below (va_Qi (fun r' (_ : Unit) => r' = r) (fun (_ : Unit) t => hW D dA classes b0 (nxZ + dnZ) h' t.heap) (hA b0)) ([.ref a0, .ref a1, .int i2, .ref a3] : List Value).toArray s dnZ dsZ (hA b0)) (F0 m 117 ls [])) → (q9 = .inr (.inr (.inr (.inr (.inr (()))))) → ∀ (H : Heap) (locs : List Loc) (ls : Array Slot), hW D dA classes b0 (nx + dn) h9 H → va_S (hA b0) s.heap H locs → lv_has ls 8 [] → W p l e (headSpec w_Arguments_readUpTo ({ frames := 3, cells := dnZ, slots := dsZ, locals := 91 } : Room)).room s m ([.ref a0, .ref a1, .int i2, .ref a3] : List Value).toArray below meth c H locs (cells + dn) (slots + ds) (MQ below (va_Qi (fun r' (_ : Unit) => r' = r) (fun (_ : Unit) t => hW D dA classes b0 (nxZ + dnZ) h' t.heap) (hA b0)) ([.ref a0, .ref a1, .int i2, .ref a3] : List Value).toArray s dnZ dsZ (hA b0)) (F0 m 133 ls [])) → W p l e (headSpec w_Arguments_readUpTo ({ frames := 3, cells := dnZ, slots := dsZ, locals := 91 } : Room)).room s m ([.ref a0, .ref a1, .int i2, .ref a3] : List Value).toArray below meth c H locs cells slots (MQ below (va_Qi (fun r' (_ : Unit) => r' = r) (fun (_ : Unit) t => hW D dA classes b0 (nxZ + dnZ) h' t.heap) (hA b0)) ([.ref a0, .ref a1, .int i2, .ref a3] : List Value).toArray s dnZ dsZ (hA b0)) (F0 m 70 ls []) := by
        intro x4 x5 x6 q9 h9 cells slots dn ds nx h H locs ls hrun hcB hsB hw hS hl k0 k1 k2 k3 k4 k5
        unfold f_Arguments_readUpTo_j70 at hrun
        have hcR : cells + dn = cells + dn := rfl
        have hsR : slots + ds = slots + ds := rfl
        have hnR : nx + dn = nx + dn := rfl
        refine lv_aload_n hx hb d_Arguments_readUpTo_70 rfl (lv_at hl 0 rfl) ?_
        replace hrun := hb_some hrun
        obtain ⟨v71, g71, hrun⟩ := hrun
        refine h_getR S (fun w q => hT w (i_Arguments w q)) hK (ci := 2) rfl 0 (by decide) (hT _ fl_Arguments_9) hw g71 d_Arguments_readUpTo_71 ?_
        replace hrun := hb_some hrun
        obtain ⟨p74, rfl, hrun⟩ := hrun
        replace hrun := hb_some hrun
        obtain ⟨c74, k74, hrun⟩ := hrun
        replace hrun := hbW_some hrun
        obtain ⟨v74, h74, g74, hrun⟩ := hrun
        refine h_ci (h_runV S (As := []) (rest := []) (c_Input_take l D dA b0 p74 nx g74) (cwV 0 S.2.2.2.2 (h_good _ (h_in4 ml_Arguments_51 im_Input_take se_Input_take it_Input) cd_Input_take) rfl rfl rfl (by decide +kernel) ⟨Nat.le_of_ble_eq_true rfl, Nat.le_of_ble_eq_true rfl⟩) hK hN hw (ci := 6) rfl k74 rfl hl.1 (lv_room (Nat.le_of_ble_eq_true rfl)) d_Arguments_readUpTo_74 ⟨show cells + 0 ≤ dnZ by omega, show slots + 0 ≤ dsZ by omega⟩) hS (fun H locs hw hS => ?_)
        refine lv_istore (lv' := [(7, .int v74), (0, .ref a0), (1, .ref a1), (3, .ref a3), (4, va_rf x4), (5, .int x5), (6, .int x6)]) hx hb d_Arguments_readUpTo_77 hl (by decide) rfl (fun ls hl => ?_)
        refine lv_aload_n hx hb d_Arguments_readUpTo_79 rfl (lv_at hl 1 rfl) ?_
        refine lv_iload hx hb d_Arguments_readUpTo_80 (lv_at hl 0 rfl) ?_
        refine lv_aload_n hx hb d_Arguments_readUpTo_82 rfl (lv_at hl 3 rfl) ?_
        replace hrun := hb_some hrun
        obtain ⟨c83, k83, hrun⟩ := hrun
        replace hrun := hb_some hrun
        obtain ⟨v83, g83, hrun⟩ := hrun
        refine h_ci (h_runV S (As := [.int v74, .ref a3]) (rest := []) (c_Arguments_isForbidden l D dA b0 a0 v74 a3 nx g83) (cwV 2 S.2.2.2.2 (h_good _ (h_in4 ml_Arguments_69 im_Arguments_isForbidden se_Arguments_isForbidden it_Arguments) cd_Arguments_isForbidden) rfl rfl rfl (by decide +kernel) ⟨Nat.le_of_ble_eq_true rfl, Nat.le_of_ble_eq_true rfl⟩) hK hN hw (ci := 2) rfl k83 rfl hl.1 (lv_room (Nat.le_of_ble_eq_true rfl)) d_Arguments_readUpTo_83 ⟨show cells + 0 ≤ dnZ by omega, show slots + 0 ≤ dsZ by omega⟩) hS (fun H locs hw hS => ?_)
        refine lv_if_eq (tgt := 91) hx hb d_Arguments_readUpTo_86 (by decide) (fun c86 => ?_) (fun c86 => ?_)
        · rw [if_pos c86] at hrun
          refine lv_iload hx hb d_Arguments_readUpTo_91 (lv_at hl 5 rfl) ?_
          refine lv_iload hx hb d_Arguments_readUpTo_93 (lv_at hl 0 rfl) ?_
          replace hrun := hb_some hrun
          obtain ⟨v95, g95, hrun⟩ := hrun
          refine h_ci (h_runS S (As := [.int v74]) (rest := [.int x5]) (c_Kind_nesting l D dA b0 v74 nx g95) (va_cwS 1 S.2.2.2.2 (h_good _ (h_in3 ml_Arguments_73 sm_Kind_nesting it_Kind) cd_Kind_nesting) rfl rfl rfl (by decide +kernel) ⟨Nat.le_of_ble_eq_true rfl, Nat.le_of_ble_eq_true rfl⟩) hK hN hw rfl hl.1 (lv_room (Nat.le_of_ble_eq_true rfl)) d_Arguments_readUpTo_95 ⟨show cells + 0 ≤ dnZ by omega, show slots + 0 ≤ dsZ by omega⟩) hS (fun H locs hw hS => ?_)
          refine lv_iadd hx hb d_Arguments_readUpTo_98 ?_
          refine lv_istore (lv' := [(5, .int (x5 + v95)), (7, .int v74), (0, .ref a0), (1, .ref a1), (3, .ref a3), (4, va_rf x4), (6, .int x6)]) hx hb d_Arguments_readUpTo_99 hl (by decide) (by simp [h_cat]) (fun ls hl => ?_)
          refine lv_iload hx hb d_Arguments_readUpTo_101 (lv_at hl 0 rfl) ?_
          refine lv_if_ge (tgt := 109) hx hb d_Arguments_readUpTo_103 (by decide) (fun c103 => ?_) (fun c103 => ?_)
          · rw [if_pos c103] at hrun
            refine h_aload hx hb d_Arguments_readUpTo_109 (lv_at hl 5 rfl) ?_
            replace hrun := hb_some hrun
            obtain ⟨p111, rfl, hrun⟩ := hrun
            replace hrun := hb_some hrun
            obtain ⟨c111, k111, hrun⟩ := hrun
            replace hrun := hb_some hrun
            obtain ⟨v111, g111, hrun⟩ := hrun
            refine h_ci (h_runV S (As := []) (rest := []) (c_Row_isFull l D dA b0 p111 nx g111) (cwV 0 S.2.2.2.2 (h_good _ (h_in4 ml_Arguments_78 im_Row_isFull se_Row_isFull it_Row) cd_Row_isFull) rfl rfl rfl (by decide +kernel) ⟨Nat.le_of_ble_eq_true rfl, Nat.le_of_ble_eq_true rfl⟩) hK hN hw (ci := 8) rfl k111 rfl hl.1 (lv_room (Nat.le_of_ble_eq_true rfl)) d_Arguments_readUpTo_111 ⟨show cells + 0 ≤ dnZ by omega, show slots + 0 ≤ dsZ by omega⟩) hS (fun H locs hw hS => ?_)
            refine lv_if_eq (tgt := 120) hx hb d_Arguments_readUpTo_114 (by decide) (fun c114 => ?_) (fun c114 => ?_)
            · rw [if_pos c114] at hrun
              refine lv_aload hx hb d_Arguments_readUpTo_120 (lv_at hl 5 rfl) ?_
              refine lv_iload hx hb d_Arguments_readUpTo_122 (lv_at hl 1 rfl) ?_
              replace hrun := hb_some hrun
              obtain ⟨c124, k124, hrun⟩ := hrun
              replace hrun := hbind_some hrun
              obtain ⟨_u124, d124, s124, h124, dn124, ds124, g124, hrun, en124, es124⟩ := hrun
              refine h_cv (h_runV S (As := [.int v74]) (rest := []) (c_Row_add l D dA b0 p111 v74 nx g124) (cwV 1 S.2.2.2.2 (h_good _ (h_in4 ml_Arguments_81 im_Row_add se_Row_add it_Row) cd_Row_add) rfl rfl rfl (by decide +kernel) ⟨Nat.le_of_ble_eq_true rfl, Nat.le_of_ble_eq_true rfl⟩) hK hN hw (ci := 8) rfl k124 rfl hl.1 (lv_room (Nat.le_of_ble_eq_true rfl)) d_Arguments_readUpTo_124 ⟨show cells + d124 ≤ dnZ by omega, show slots + s124 ≤ dsZ by omega⟩) hS (fun H locs hw hS => ?_)
              obtain ⟨nx124, ex124⟩ : ∃ z, z = nx + d124 := ⟨_, rfl⟩
              rw [← ex124] at hw
              try rw [← ex124] at hrun
              replace hcR : (cells + d124) + dn124 = cells + dn := by omega
              replace hsR : (slots + s124) + ds124 = slots + ds := by omega
              replace hnR : nx124 + dn124 = nx + dn := by omega
              clear en124 es124 ex124
              refine lv_iinc (v := (x6 + (1 : Int32))) (lv' := [(6, .int (x6 + (1 : Int32))), (5, .int (x5 + v95)), (7, .int v74), (0, .ref a0), (1, .ref a1), (3, .ref a3), (4, .ref p111)]) hx hb d_Arguments_readUpTo_127 hl (k := 6) rfl rfl (by decide) rfl (fun ls hl => ?_)
              refine lv_goto (tgt := 18) hx hb d_Arguments_readUpTo_130 (by decide) ?_
              cases hrun
              rw [show nx124 = nx + dn by omega] at hw
              exact W.widen (by omega) (by omega) (k0 (x5 + v95) (x6 + (1 : Int32)) rfl H locs ls hw hS (lv_sub hl [3, 4, 5, 6, 1, 0] rfl))
            · rw [if_neg c114] at hrun
              cases hrun
              exact W.widen (by omega) (by omega) (k4  rfl H locs ls hw hS (lv_sub hl [] rfl))
          · rw [if_neg c103] at hrun
            cases hrun
            exact W.widen (by omega) (by omega) (k3  rfl H locs ls hw hS (lv_sub hl [] rfl))
        · rw [if_neg c86] at hrun
          cases hrun
          exact W.widen (by omega) (by omega) (k2  rfl H locs ls hw hS (lv_sub hl [] rfl))
      dsimp only [f_Arguments_readUpTo_b18] at hrun
      have hcR : cells + dnb = cells + dnb := rfl
      have hsR : slots + dsb = slots + dsb := rfl
      have hnR : nx + dnb = nx + dnb := rfl
      refine lv_iload hx hb d_Arguments_readUpTo_18 (lv_at hl 5 rfl) ?_
      refine lv_sipush (v := (3000 : Int32)) hx hb d_Arguments_readUpTo_20 (by decide) ?_
      refine lv_icmp_ge (tgt := 133) hx hb d_Arguments_readUpTo_23 (by decide) (fun c23 => ?_) (fun c23 => ?_)
      · rw [if_pos c23] at hrun
        cases hrun
        exact W.widen (by omega) (by omega) (K5  rfl H locs ls hw hS (lv_sub hl [] rfl))
      · rw [if_neg c23] at hrun
        refine lv_aload_n hx hb d_Arguments_readUpTo_26 rfl (lv_at hl 0 rfl) ?_
        replace hrun := hb_some hrun
        obtain ⟨v27, g27, hrun⟩ := hrun
        refine h_getR S (fun w q => hT w (i_Arguments w q)) hK (ci := 2) rfl 0 (by decide) (hT _ fl_Arguments_9) hw g27 d_Arguments_readUpTo_27 ?_
        replace hrun := hb_some hrun
        obtain ⟨p30, rfl, hrun⟩ := hrun
        replace hrun := hb_some hrun
        obtain ⟨c30, k30, hrun⟩ := hrun
        replace hrun := hb_some hrun
        obtain ⟨v30, g30, hrun⟩ := hrun
        refine h_ci (h_runV S (As := []) (rest := []) (c_Input_isEmpty l D dA b0 p30 nx g30) (cwV 0 S.2.2.2.2 (h_good _ (h_in4 ml_Arguments_45 im_Input_isEmpty se_Input_isEmpty it_Input) cd_Input_isEmpty) rfl rfl rfl (by decide +kernel) ⟨Nat.le_of_ble_eq_true rfl, Nat.le_of_ble_eq_true rfl⟩) hK hN hw (ci := 6) rfl k30 rfl hl.1 (lv_room (Nat.le_of_ble_eq_true rfl)) d_Arguments_readUpTo_30 ⟨show cells + 0 ≤ dnZ by omega, show slots + 0 ≤ dsZ by omega⟩) hS (fun H locs hw hS => ?_)
        refine lv_if_ne (tgt := 133) hx hb d_Arguments_readUpTo_33 (by decide) (fun c33 => ?_) (fun c33 => ?_)
        · rw [if_neg c33] at hrun
          cases hrun
          exact W.widen (by omega) (by omega) (K5  rfl H locs ls hw hS (lv_sub hl [] rfl))
        · rw [if_pos c33] at hrun
          refine lv_iload hx hb d_Arguments_readUpTo_36 (lv_at hl 4 rfl) ?_
          refine lv_if_ne (tgt := 70) hx hb d_Arguments_readUpTo_38 (by decide) (fun c38 => ?_) (fun c38 => ?_)
          · rw [if_neg c38] at hrun
            exact j_70 x4 x5 x6 _ _ cells slots _ _ nx h _ _ _ hrun (by omega) (by omega) hw hS (lv_sub hl [0, 1, 2, 3, 4, 5] rfl) K0 K1 K2 K3 K4 K5
          · rw [if_pos c38] at hrun
            refine lv_aload_n hx hb d_Arguments_readUpTo_41 rfl (lv_at hl 0 rfl) ?_
            replace hrun := hb_some hrun
            obtain ⟨v42, g42, hrun⟩ := hrun
            refine h_getR S (fun w q => hT w (i_Arguments w q)) hK (ci := 2) rfl 0 (by decide) (hT _ fl_Arguments_9) hw g42 d_Arguments_readUpTo_42 ?_
            refine lv_aload_n hx hb d_Arguments_readUpTo_45 rfl (lv_at hl 1 rfl) ?_
            replace hrun := hb_some hrun
            obtain ⟨p46, rfl, hrun⟩ := hrun
            replace hrun := hb_some hrun
            obtain ⟨c46, k46, hrun⟩ := hrun
            replace hrun := hb_some hrun
            obtain ⟨v46, g46, hrun⟩ := hrun
            refine h_ci (h_runV S (As := [.ref a1]) (rest := []) (c_Input_beginsWith l D dA b0 n p46 a1 nx g46) (cwV 1 S.2.2.2.2 (h_good _ (h_in4 ml_Arguments_84 im_Input_beginsWith se_Input_beginsWith it_Input) cd_Input_beginsWith) rfl rfl rfl (by decide +kernel) ⟨Nat.le_of_ble_eq_true rfl, Nat.le_of_ble_eq_true rfl⟩) hK hN hw (ci := 6) rfl k46 rfl hl.1 (lv_room (Nat.le_of_ble_eq_true rfl)) d_Arguments_readUpTo_46 ⟨show cells + 0 ≤ dnZ by omega, show slots + 0 ≤ dsZ by omega⟩) hS (fun H locs hw hS => ?_)
            refine lv_if_eq (tgt := 70) hx hb d_Arguments_readUpTo_49 (by decide) (fun c49 => ?_) (fun c49 => ?_)
            · rw [if_pos c49] at hrun
              exact j_70 x4 x5 x6 _ _ cells slots _ _ nx h _ _ _ hrun (by omega) (by omega) hw hS (lv_sub hl [0, 1, 2, 3, 4, 5] rfl) K0 K1 K2 K3 K4 K5
            · rw [if_neg c49] at hrun
              cases hrun
              exact W.widen (by omega) (by omega) (K1  rfl H locs ls hw hS (lv_sub hl [0, 1, 3] rfl))
  unfold f_Arguments_readUpTo at hrun
  refine lv_aload_n hx hb d_Arguments_readUpTo_0 rfl (lv_at hl 0 rfl) ?_
  refine lv_iload_n hx hb d_Arguments_readUpTo_1 rfl (lv_at hl 2 rfl) ?_
  replace hrun := hb_some hrun
  obtain ⟨c2, k2, hrun⟩ := hrun
  replace hrun := hb_some hrun
  obtain ⟨v2, g2, hrun⟩ := hrun
  refine h_cq (h_runV S (As := [.int i2]) (rest := []) (c_Arguments_argument l D dA b0 a0 i2 nx g2) (cwV 1 S.2.2.2.2 (h_good _ (h_in4 ml_Arguments_37 im_Arguments_argument se_Arguments_argument it_Arguments) cd_Arguments_argument) rfl rfl rfl (by decide +kernel) ⟨Nat.le_of_ble_eq_true rfl, Nat.le_of_ble_eq_true rfl⟩) hK hN hw (ci := 2) rfl k2 rfl hl.1 (lv_room (Nat.le_of_ble_eq_true rfl)) d_Arguments_readUpTo_2 ⟨show 0 + 0 ≤ dnZ by omega, show 0 + 0 ≤ dsZ by omega⟩) hS (fun H locs hw hS => ?_)
  refine h_astore (lv' := [(4, va_rf v2), (0, .ref a0), (1, .ref a1), (2, .int i2), (3, .ref a3)]) hx hb d_Arguments_readUpTo_5 hl (by decide) rfl (fun ls hl => ?_)
  refine h_aload hx hb d_Arguments_readUpTo_7 (lv_at hl 0 rfl) ?_
  replace hrun := hb_some hrun
  obtain ⟨p9, rfl, hrun⟩ := hrun
  replace hrun := hb_some hrun
  obtain ⟨c9, k9, hrun⟩ := hrun
  replace hrun := hbW_some hrun
  obtain ⟨_u9, h9, g9, hrun⟩ := hrun
  refine h_cv (h_runV S (As := []) (rest := []) (c_Row_clear l D dA b0 p9 nx g9) (cwV 0 S.2.2.2.2 (h_good _ (h_in4 ml_Arguments_65 im_Row_clear se_Row_clear it_Row) cd_Row_clear) rfl rfl rfl (by decide +kernel) ⟨Nat.le_of_ble_eq_true rfl, Nat.le_of_ble_eq_true rfl⟩) hK hN hw (ci := 8) rfl k9 rfl hl.1 (lv_room (Nat.le_of_ble_eq_true rfl)) d_Arguments_readUpTo_9 ⟨show 0 + 0 ≤ dnZ by omega, show 0 + 0 ≤ dsZ by omega⟩) hS (fun H locs hw hS => ?_)
  refine lv_iconst (v := (0 : Int32)) hx hb d_Arguments_readUpTo_12 (by decide) ?_
  refine lv_istore (lv' := [(5, .int (0 : Int32)), (4, .ref p9), (0, .ref a0), (1, .ref a1), (2, .int i2), (3, .ref a3)]) hx hb d_Arguments_readUpTo_13 hl (by decide) rfl (fun ls hl => ?_)
  refine lv_iconst (v := (0 : Int32)) hx hb d_Arguments_readUpTo_15 (by decide) ?_
  refine lv_istore (lv' := [(6, .int (0 : Int32)), (5, .int (0 : Int32)), (4, .ref p9), (0, .ref a0), (1, .ref a1), (2, .int i2), (3, .ref a3)]) hx hb d_Arguments_readUpTo_16 hl (by decide) rfl (fun ls hl => ?_)
  replace hrun := hbind_some hrun
  obtain ⟨b18, d18, s18, h18l, dn18, ds18, g18, hrun, en18, es18⟩ := hrun
  refine l_18 (some p9) n ((0 : Int32), (0 : Int32)) 0 0 _ _ nx h9 _ _ _ _ _ g18 (by omega) (by omega) hw hS (lv_sub hl [3, 4, 6, 2, 1, 0] rfl) ?_ ?_ ?_ ?_ ?_
  · rintro  eq9 H locs ls hw hS hl
    obtain rfl := eq9.symm
    obtain ⟨nx18l, ex18⟩ : ∃ z, z = nx + d18 := ⟨_, rfl⟩
    rw [← ex18] at hw
    try rw [← ex18] at hrun
    replace hcR : (0 + d18) + dn18 = dnZ := by omega
    replace hsR : (0 + s18) + ds18 = dsZ := by omega
    replace hnR : nx18l + dn18 = nxZ + dnZ := by omega
    clear en18 es18 ex18
    try dsimp only at hrun
    refine lv_aload_n hx hb d_Arguments_readUpTo_52 rfl (lv_at hl 0 rfl) ?_
    replace hrun := hb_some hrun
    obtain ⟨v53, g53, hrun⟩ := hrun
    refine h_getR S (fun w q => hT w (i_Arguments w q)) hK (ci := 2) rfl 0 (by decide) (hT _ fl_Arguments_9) hw g53 d_Arguments_readUpTo_53 ?_
    refine lv_aload_n hx hb d_Arguments_readUpTo_56 rfl (lv_at hl 1 rfl) ?_
    replace hrun := hb_some hrun
    obtain ⟨v57, g57, hrun⟩ := hrun
    refine h_getNI S (fun w q => hT w (i_Row w q)) hK (ci := 8) rfl 2 (by decide) (hN.1 _ nf_Arguments_41) hw g57 d_Arguments_readUpTo_57 ?_
    replace hrun := hb_some hrun
    obtain ⟨p60, rfl, hrun⟩ := hrun
    replace hrun := hb_some hrun
    obtain ⟨c60, k60, hrun⟩ := hrun
    replace hrun := hbW_some hrun
    obtain ⟨_u60, h60, g60, hrun⟩ := hrun
    refine h_cv (h_runV S (As := [.int v57]) (rest := []) (c_Input_drop l D dA b0 p60 v57 nx18l g60) (cwV 1 S.2.2.2.2 (h_good _ (h_in4 ml_Arguments_88 im_Input_drop se_Input_drop it_Input) cd_Input_drop) rfl rfl rfl (by decide +kernel) ⟨Nat.le_of_ble_eq_true rfl, Nat.le_of_ble_eq_true rfl⟩) hK hN hw (ci := 6) rfl k60 rfl hl.1 (lv_room (Nat.le_of_ble_eq_true rfl)) d_Arguments_readUpTo_60 ⟨show (0 + d18) + 0 ≤ dnZ by omega, show (0 + s18) + 0 ≤ dsZ by omega⟩) hS (fun H locs hw hS => ?_)
    refine lv_aload hx hb d_Arguments_readUpTo_63 (lv_at hl 2 rfl) ?_
    replace hrun := hb_some hrun
    obtain ⟨c65, k65, hrun⟩ := hrun
    replace hrun := hbW_some hrun
    obtain ⟨_u65, h65, g65, hrun⟩ := hrun
    refine h_cv (h_runV S (As := []) (rest := []) (c_Row_leaveOutOuterPair l D dA b0 n p9 nx18l g65) (cwV 0 S.2.2.2.2 (h_good _ (h_in4 ml_Arguments_91 im_Row_leaveOutOuterPair se_Row_leaveOutOuterPair it_Row) cd_Row_leaveOutOuterPair) rfl rfl rfl (by decide +kernel) ⟨Nat.le_of_ble_eq_true rfl, Nat.le_of_ble_eq_true rfl⟩) hK hN hw (ci := 8) rfl k65 rfl hl.1 (lv_room (Nat.le_of_ble_eq_true rfl)) d_Arguments_readUpTo_65 ⟨show (0 + d18) + 0 ≤ dnZ by omega, show (0 + s18) + 0 ≤ dsZ by omega⟩) hS (fun H locs hw hS => ?_)
    refine lv_iconst (v := (0 : Int32)) hx hb d_Arguments_readUpTo_68 (by decide) ?_
    cases hrun
    refine W.widen (k := dnZ) (n := dsZ) (by omega) (by omega) ?_
    rw [show nx18l = nxZ + dnZ by omega] at hw
    exact W.iret hx hb hr (fun t ht hW9 => ⟨⟨_, (), rfl, rfl, by show hW D dA classes b0 _ _ t.heap; rw [ht]; exact hw⟩, hS.F ht⟩) hS.2.2 d_Arguments_readUpTo_69
  · rintro  eq9 H locs ls hw hS hl
    obtain rfl := eq9.symm
    obtain ⟨nx18l, ex18⟩ : ∃ z, z = nx + d18 := ⟨_, rfl⟩
    rw [← ex18] at hw
    try rw [← ex18] at hrun
    replace hcR : (0 + d18) + dn18 = dnZ := by omega
    replace hsR : (0 + s18) + ds18 = dsZ := by omega
    replace hnR : nx18l + dn18 = nxZ + dnZ := by omega
    clear en18 es18 ex18
    try dsimp only at hrun
    refine lv_iconst (v := (2 : Int32)) hx hb d_Arguments_readUpTo_89 (by decide) ?_
    cases hrun
    refine W.widen (k := dnZ) (n := dsZ) (by omega) (by omega) ?_
    rw [show nx18l = nxZ + dnZ by omega] at hw
    exact W.iret hx hb hr (fun t ht hW9 => ⟨⟨_, (), rfl, rfl, by show hW D dA classes b0 _ _ t.heap; rw [ht]; exact hw⟩, hS.F ht⟩) hS.2.2 d_Arguments_readUpTo_90
  · rintro  eq9 H locs ls hw hS hl
    obtain rfl := eq9.symm
    obtain ⟨nx18l, ex18⟩ : ∃ z, z = nx + d18 := ⟨_, rfl⟩
    rw [← ex18] at hw
    try rw [← ex18] at hrun
    replace hcR : (0 + d18) + dn18 = dnZ := by omega
    replace hsR : (0 + s18) + ds18 = dsZ := by omega
    replace hnR : nx18l + dn18 = nxZ + dnZ := by omega
    clear en18 es18 ex18
    try dsimp only at hrun
    refine lv_bipush (v := (7 : Int32)) hx hb d_Arguments_readUpTo_106 (by decide) ?_
    cases hrun
    refine W.widen (k := dnZ) (n := dsZ) (by omega) (by omega) ?_
    rw [show nx18l = nxZ + dnZ by omega] at hw
    exact W.iret hx hb hr (fun t ht hW9 => ⟨⟨_, (), rfl, rfl, by show hW D dA classes b0 _ _ t.heap; rw [ht]; exact hw⟩, hS.F ht⟩) hS.2.2 d_Arguments_readUpTo_108
  · rintro  eq9 H locs ls hw hS hl
    obtain rfl := eq9.symm
    obtain ⟨nx18l, ex18⟩ : ∃ z, z = nx + d18 := ⟨_, rfl⟩
    rw [← ex18] at hw
    try rw [← ex18] at hrun
    replace hcR : (0 + d18) + dn18 = dnZ := by omega
    replace hsR : (0 + s18) + ds18 = dsZ := by omega
    replace hnR : nx18l + dn18 = nxZ + dnZ := by omega
    clear en18 es18 ex18
    try dsimp only at hrun
    refine lv_bipush (v := (8 : Int32)) hx hb d_Arguments_readUpTo_117 (by decide) ?_
    cases hrun
    refine W.widen (k := dnZ) (n := dsZ) (by omega) (by omega) ?_
    rw [show nx18l = nxZ + dnZ by omega] at hw
    exact W.iret hx hb hr (fun t ht hW9 => ⟨⟨_, (), rfl, rfl, by show hW D dA classes b0 _ _ t.heap; rw [ht]; exact hw⟩, hS.F ht⟩) hS.2.2 d_Arguments_readUpTo_119
  · rintro  eq9 H locs ls hw hS hl
    obtain rfl := eq9.symm
    obtain ⟨nx18l, ex18⟩ : ∃ z, z = nx + d18 := ⟨_, rfl⟩
    rw [← ex18] at hw
    try rw [← ex18] at hrun
    replace hcR : (0 + d18) + dn18 = dnZ := by omega
    replace hsR : (0 + s18) + ds18 = dsZ := by omega
    replace hnR : nx18l + dn18 = nxZ + dnZ := by omega
    clear en18 es18 ex18
    try dsimp only at hrun
    refine lv_iconst (v := (1 : Int32)) hx hb d_Arguments_readUpTo_133 (by decide) ?_
    cases hrun
    refine W.widen (k := dnZ) (n := dsZ) (by omega) (by omega) ?_
    rw [show nx18l = nxZ + dnZ by omega] at hw
    exact W.iret hx hb hr (fun t ht hW9 => ⟨⟨_, (), rfl, rfl, by show hW D dA classes b0 _ _ t.heap; rw [ht]; exact hw⟩, hS.F ht⟩) hS.2.2 d_Arguments_readUpTo_134
set_option maxHeartbeats 4000000 in
set_option maxRecDepth 100000 in
theorem c_Kind_argumentOf (l : Launch) (D : va_G) (dA : Nat → ClassId) (b0 : Nat) (i0 : Int32) (nx : Nat) {h : hH} {r : Int32} (hrun : f_Kind_argumentOf i0 h = some r) : Met l y_Kind_argumentOf w_Kind_argumentOf ({ frames := 0, cells := 0, slots := 0, locals := 0 } : Room) (va_Pc [.int i0] (hB D dA b0 nx h)) (va_Qi (fun r' (_ : Unit) => r' = r) (fun (_ : Unit) t => hW D dA classes b0 nx h t.heap) (hA b0)) 0 0 (hA b0) := by
  refine Met.ofW (cc := b_Kind_argumentOf) (maxL := 1) (ret := (some .int)) (by decide) rfl ?_
  intro p e s m args below meth c s₁ B hml hv
  obtain ⟨rfl, hw, hK, hN⟩ := hv
  have hx := B.exec
  have hb := B.bytes
  have hr := B.returns
  have hlocks := B.notSynchronized
  have S : CallFix p m c b_Kind_argumentOf 1 s ([.int i0] : List Value).toArray w_Kind_argumentOf R_Kind := ⟨hx, hb, hml, findClass_of_methodNamed B.named, atoms_spec (ws := w_Kind_argumentOf) B.pre⟩
  have hT : ∀ w ∈ tbl, w ∈ w_Kind_argumentOf := fun _ q => List.mem_cons_of_mem _ q
  have hS : va_S (hA b0) s.heap s.heap [] := va_S.rf
  have hl := lv_entry ([.int i0]) (n := 1) (Nat.le_of_ble_eq_true rfl)
  rw [lg_entry_eq]
  generalize (lg_sl ([.int i0]) ++ List.replicate (1 - (lg_sl ([.int i0])).length) Slot.unset).toArray = ls at hl ⊢
  have hl : lv_has ls 1 [(0, .int i0)] := hl
  unfold f_Kind_argumentOf at hrun
  refine lv_iload_n hx hb d_Kind_argumentOf_0 rfl (lv_at hl 0 rfl) ?_
  refine lv_sipush (v := (310 : Int32)) hx hb d_Kind_argumentOf_1 (by decide) ?_
  refine lv_icmp_le (tgt := 22) hx hb d_Kind_argumentOf_4 (by decide) (fun c4 => ?_) (fun c4 => ?_)
  · rw [if_pos c4] at hrun
    refine lv_iconst (v := (0 : Int32)) hx hb d_Kind_argumentOf_22 (by decide) ?_
    cases hrun
    exact W.iret hx hb hr (fun t ht hW9 => ⟨⟨_, (), rfl, rfl, by show hW D dA classes b0 _ _ t.heap; rw [ht]; exact hw⟩, hS.F ht⟩) hS.2.2 d_Kind_argumentOf_23
  · rw [if_neg c4] at hrun
    refine lv_iload_n hx hb d_Kind_argumentOf_7 rfl (lv_at hl 0 rfl) ?_
    refine lv_sipush (v := (320 : Int32)) hx hb d_Kind_argumentOf_8 (by decide) ?_
    refine lv_icmp_ge (tgt := 22) hx hb d_Kind_argumentOf_11 (by decide) (fun c11 => ?_) (fun c11 => ?_)
    · rw [if_pos c11] at hrun
      refine lv_iconst (v := (0 : Int32)) hx hb d_Kind_argumentOf_22 (by decide) ?_
      cases hrun
      exact W.iret hx hb hr (fun t ht hW9 => ⟨⟨_, (), rfl, rfl, by show hW D dA classes b0 _ _ t.heap; rw [ht]; exact hw⟩, hS.F ht⟩) hS.2.2 d_Kind_argumentOf_23
    · rw [if_neg c11] at hrun
      refine lv_iload_n hx hb d_Kind_argumentOf_14 rfl (lv_at hl 0 rfl) ?_
      refine lv_sipush (v := (310 : Int32)) hx hb d_Kind_argumentOf_15 (by decide) ?_
      refine lv_isub hx hb d_Kind_argumentOf_18 ?_
      refine lv_goto (tgt := 23) hx hb d_Kind_argumentOf_19 (by decide) ?_
      cases hrun
      exact W.iret hx hb hr (fun t ht hW9 => ⟨⟨_, (), rfl, rfl, by show hW D dA classes b0 _ _ t.heap; rw [ht]; exact hw⟩, hS.F ht⟩) hS.2.2 d_Kind_argumentOf_23
set_option maxHeartbeats 4000000 in
set_option maxRecDepth 100000 in
theorem c_Expander_sizeOfText (l : Launch) (D : va_G) (dA : Nat → ClassId) (b0 : Nat) (n : Nat) (a0 : Nat) (a1 : Nat) (nx : Nat) {h : hH} {r : Int32} (hrun : f_Expander_sizeOfText n a0 a1 h = some r) : Met l y_Expander_sizeOfText w_Expander_sizeOfText ({ frames := 2, cells := 0, slots := 0, locals := 42 } : Room) (va_Pc [.ref a0, .ref a1] (hB D dA b0 nx h)) (va_Qi (fun r' (_ : Unit) => r' = r) (fun (_ : Unit) t => hW D dA classes b0 nx h t.heap) (hA b0)) 0 0 (hA b0) := by
  refine Met.ofW (cc := b_Expander_sizeOfText) (maxL := 5) (ret := (some .int)) (by decide) rfl ?_
  intro p e s m args below meth c s₁ B hml hv
  obtain ⟨rfl, hw, hK, hN⟩ := hv
  have hx := B.exec
  have hb := B.bytes
  have hr := B.returns
  have hlocks := B.notSynchronized
  have S : CallFix p m c b_Expander_sizeOfText 5 s ([.ref a0, .ref a1] : List Value).toArray w_Expander_sizeOfText R_Expander := ⟨hx, hb, hml, findClass_of_methodNamed B.named, atoms_spec (ws := w_Expander_sizeOfText) B.pre⟩
  have hT : ∀ w ∈ tbl, w ∈ w_Expander_sizeOfText := fun _ q => List.mem_cons_of_mem _ q
  have hS : va_S (hA b0) s.heap s.heap [] := va_S.rf
  have hl := lv_entry ([.ref a0, .ref a1]) (n := 5) (Nat.le_of_ble_eq_true rfl)
  rw [lg_entry_eq]
  generalize (lg_sl ([.ref a0, .ref a1]) ++ List.replicate (5 - (lg_sl ([.ref a0, .ref a1])).length) Slot.unset).toArray = ls at hl ⊢
  have hl : lv_has ls 5 [(0, .ref a0), (1, .ref a1)] := hl
  have l_4 : ∀ (n9 : Nat) (x9 : Int32 × Int32) (b9 : (Int32)) (H : Heap) (locs : List Loc) (ls : Array Slot), hloopR (f_Expander_sizeOfText_b4 n a0 a1 h) n9 x9 = some b9 → hW D dA classes b0 nx h H → va_S (hA b0) s.heap H locs → lv_has ls 5 (match x9 with | (x2, x3) => [(0, .ref a0), (1, .ref a1), (2, .int x2), (3, .int x3)]) → (∀ (z2 : Int32), b9 = z2 → ∀ (H : Heap) (locs : List Loc) (ls : Array Slot), hW D dA classes b0 nx h H → va_S (hA b0) s.heap H locs → lv_has ls 5 [(2, .int z2)] → W p l e (headSpec w_Expander_sizeOfText ({ frames := 2, cells := 0, slots := 0, locals := 42 } : Room)).room s m ([.ref a0, .ref a1] : List Value).toArray below meth c H locs 0 0 (MQ below (va_Qi (fun r' (_ : Unit) => r' = r) (fun (_ : Unit) t => hW D dA classes b0 nx h t.heap) (hA b0)) ([.ref a0, .ref a1] : List Value).toArray s 0 0 (hA b0)) (F0 m 69 ls [])) → W p l e (headSpec w_Expander_sizeOfText ({ frames := 2, cells := 0, slots := 0, locals := 42 } : Room)).room s m ([.ref a0, .ref a1] : List Value).toArray below meth c H locs 0 0 (MQ below (va_Qi (fun r' (_ : Unit) => r' = r) (fun (_ : Unit) t => hW D dA classes b0 nx h t.heap) (hA b0)) ([.ref a0, .ref a1] : List Value).toArray s 0 0 (hA b0)) (F0 m 4 ls []) := by
    intro  n9
    induction n9 with
    | zero =>
      intro x9 b9 H locs ls hrun
      cases hrun
    | succ n9 ih =>
      rintro ⟨x2, x3⟩ b9 H locs ls hrun hw hS hl k0
      have hl : lv_has ls 5 [(0, .ref a0), (1, .ref a1), (2, .int x2), (3, .int x3)] := hl
      unfold hloopR at hrun
      obtain ⟨q9, hbody, hrun9⟩ := hb_some hrun
      have K0 : (∀ (z2 : Int32) (z3 : Int32), q9 = .inl (z2, z3) → ∀ (H : Heap) (locs : List Loc) (ls : Array Slot), hW D dA classes b0 nx h H → va_S (hA b0) s.heap H locs → lv_has ls 5 [(0, .ref a0), (1, .ref a1), (2, .int z2), (3, .int z3)] → W p l e (headSpec w_Expander_sizeOfText ({ frames := 2, cells := 0, slots := 0, locals := 42 } : Room)).room s m ([.ref a0, .ref a1] : List Value).toArray below meth c H locs 0 0 (MQ below (va_Qi (fun r' (_ : Unit) => r' = r) (fun (_ : Unit) t => hW D dA classes b0 nx h t.heap) (hA b0)) ([.ref a0, .ref a1] : List Value).toArray s 0 0 (hA b0)) (F0 m 4 ls [])) := by
        intro z2 z3 eq9 H locs ls hw hS hl
        subst eq9
        exact ih (z2, z3) b9 H locs ls hrun9 hw hS hl k0
      have K1 : (∀ (z2 : Int32), q9 = .inr z2 → ∀ (H : Heap) (locs : List Loc) (ls : Array Slot), hW D dA classes b0 nx h H → va_S (hA b0) s.heap H locs → lv_has ls 5 [(2, .int z2)] → W p l e (headSpec w_Expander_sizeOfText ({ frames := 2, cells := 0, slots := 0, locals := 42 } : Room)).room s m ([.ref a0, .ref a1] : List Value).toArray below meth c H locs 0 0 (MQ below (va_Qi (fun r' (_ : Unit) => r' = r) (fun (_ : Unit) t => hW D dA classes b0 nx h t.heap) (hA b0)) ([.ref a0, .ref a1] : List Value).toArray s 0 0 (hA b0)) (F0 m 69 ls [])) := by
        intro z2 eq9 H locs ls hw hS hl
        subst eq9
        cases hrun9
        exact k0 _ rfl H locs ls hw hS hl
      clear hrun hrun9 ih k0
      have hrun := hbody
      clear hbody
      have j_63 : ∀  (x2 : Int32) (x3 : Int32) (q9 : (Int32 × Int32) ⊕ ((Int32))) (H : Heap) (locs : List Loc) (ls : Array Slot), f_Expander_sizeOfText_j63 n a0 a1 x2 x3 h = some q9 → hW D dA classes b0 nx h H → va_S (hA b0) s.heap H locs → lv_has ls 5 [(0, .ref a0), (1, .ref a1), (2, .int x2), (3, .int x3)] → (∀ (z2 : Int32) (z3 : Int32), q9 = .inl (z2, z3) → ∀ (H : Heap) (locs : List Loc) (ls : Array Slot), hW D dA classes b0 nx h H → va_S (hA b0) s.heap H locs → lv_has ls 5 [(0, .ref a0), (1, .ref a1), (2, .int z2), (3, .int z3)] → W p l e (headSpec w_Expander_sizeOfText ({ frames := 2, cells := 0, slots := 0, locals := 42 } : Room)).room s m ([.ref a0, .ref a1] : List Value).toArray below meth c H locs 0 0 (MQ below (va_Qi (fun r' (_ : Unit) => r' = r) (fun (_ : Unit) t => hW D dA classes b0 nx h t.heap) (hA b0)) ([.ref a0, .ref a1] : List Value).toArray s 0 0 (hA b0)) (F0 m 4 ls [])) → (∀ (z2 : Int32), q9 = .inr z2 → ∀ (H : Heap) (locs : List Loc) (ls : Array Slot), hW D dA classes b0 nx h H → va_S (hA b0) s.heap H locs → lv_has ls 5 [(2, .int z2)] → W p l e (headSpec w_Expander_sizeOfText ({ frames := 2, cells := 0, slots := 0, locals := 42 } : Room)).room s m ([.ref a0, .ref a1] : List Value).toArray below meth c H locs 0 0 (MQ below (va_Qi (fun r' (_ : Unit) => r' = r) (fun (_ : Unit) t => hW D dA classes b0 nx h t.heap) (hA b0)) ([.ref a0, .ref a1] : List Value).toArray s 0 0 (hA b0)) (F0 m 69 ls [])) → W p l e (headSpec w_Expander_sizeOfText ({ frames := 2, cells := 0, slots := 0, locals := 42 } : Room)).room s m ([.ref a0, .ref a1] : List Value).toArray below meth c H locs 0 0 (MQ below (va_Qi (fun r' (_ : Unit) => r' = r) (fun (_ : Unit) t => hW D dA classes b0 nx h t.heap) (hA b0)) ([.ref a0, .ref a1] : List Value).toArray s 0 0 (hA b0)) (F0 m 63 ls []) := by
        intro x2 x3 q9 H locs ls hrun hw hS hl k0 k1
        unfold f_Expander_sizeOfText_j63 at hrun
        refine lv_iinc (v := (x3 + (1 : Int32))) (lv' := [(3, .int (x3 + (1 : Int32))), (0, .ref a0), (1, .ref a1), (2, .int x2)]) hx hb d_Expander_sizeOfText_63 hl (k := 3) rfl rfl (by decide) rfl (fun ls hl => ?_)
        refine lv_goto (tgt := 4) hx hb d_Expander_sizeOfText_66 (by decide) ?_
        cases hrun
        exact k0 x2 (x3 + (1 : Int32)) rfl H locs ls hw hS (lv_sub hl [1, 2, 3, 0] rfl)
      dsimp only [f_Expander_sizeOfText_b4] at hrun
      refine lv_iload_n hx hb d_Expander_sizeOfText_4 rfl (lv_at hl 3 rfl) ?_
      refine lv_aload_n hx hb d_Expander_sizeOfText_5 rfl (lv_at hl 1 rfl) ?_
      replace hrun := hb_some hrun
      obtain ⟨v6, g6, hrun⟩ := hrun
      refine h_getNR S (fun w q => hT w (i_Macro w q)) hK (ci := 7) rfl 4 (by decide) (hN.1 _ nf_Expander_181) hw g6 d_Expander_sizeOfText_6 ?_
      replace hrun := hb_some hrun
      obtain ⟨p9, rfl, hrun⟩ := hrun
      replace hrun := hb_some hrun
      obtain ⟨v9, g9, hrun⟩ := hrun
      refine h_getNI S (fun w q => hT w (i_Row w q)) hK (ci := 8) rfl 2 (by decide) (hN.1 _ nf_Expander_156) hw g9 d_Expander_sizeOfText_9 ?_
      refine lv_icmp_ge (tgt := 69) hx hb d_Expander_sizeOfText_12 (by decide) (fun c12 => ?_) (fun c12 => ?_)
      · rw [if_pos c12] at hrun
        cases hrun
        exact K1 x2 rfl H locs ls hw hS (lv_sub hl [2] rfl)
      · rw [if_neg c12] at hrun
        refine lv_aload_n hx hb d_Expander_sizeOfText_15 rfl (lv_at hl 1 rfl) ?_
        replace hrun := hb_some hrun
        obtain ⟨v16, g16, hrun⟩ := hrun
        refine h_getNR S (fun w q => hT w (i_Macro w q)) hK (ci := 7) rfl 4 (by decide) (hN.1 _ nf_Expander_181) hw g16 d_Expander_sizeOfText_16 ?_
        refine lv_iload_n hx hb d_Expander_sizeOfText_19 rfl (lv_at hl 3 rfl) ?_
        replace hrun := hb_some hrun
        obtain ⟨p20, rfl, hrun⟩ := hrun
        replace hrun := hb_some hrun
        obtain ⟨c20, k20, hrun⟩ := hrun
        replace hrun := hb_some hrun
        obtain ⟨v20, g20, hrun⟩ := hrun
        refine h_ci (h_runV S (As := [.int x3]) (rest := []) (c_Row_get l D dA b0 p20 x3 nx g20) (cwV 1 S.2.2.2.2 (h_good _ (h_in4 ml_Expander_185 im_Row_get se_Row_get it_Row) cd_Row_get) rfl rfl rfl (by decide +kernel) ⟨Nat.le_of_ble_eq_true rfl, Nat.le_of_ble_eq_true rfl⟩) hK hN hw (ci := 8) rfl k20 rfl hl.1 (lv_room (Nat.le_of_ble_eq_true rfl)) d_Expander_sizeOfText_20 ⟨Nat.le_refl _, Nat.le_refl _⟩) hS (fun H locs hw hS => ?_)
        replace hrun := hb_some hrun
        obtain ⟨v23, g23, hrun⟩ := hrun
        refine h_ci (h_runS S (As := [.int v20]) (rest := []) (c_Kind_argumentOf l D dA b0 v20 nx g23) (va_cwS 1 S.2.2.2.2 (h_good _ (h_in3 ml_Expander_186 sm_Kind_argumentOf it_Kind) cd_Kind_argumentOf) rfl rfl rfl (by decide +kernel) ⟨Nat.le_of_ble_eq_true rfl, Nat.le_of_ble_eq_true rfl⟩) hK hN hw rfl hl.1 (lv_room (Nat.le_of_ble_eq_true rfl)) d_Expander_sizeOfText_23 ⟨Nat.le_refl _, Nat.le_refl _⟩) hS (fun H locs hw hS => ?_)
        refine lv_istore (lv' := [(4, .int v23), (0, .ref a0), (1, .ref a1), (2, .int x2), (3, .int x3)]) hx hb d_Expander_sizeOfText_26 hl (by decide) rfl (fun ls hl => ?_)
        refine lv_iload hx hb d_Expander_sizeOfText_28 (lv_at hl 0 rfl) ?_
        refine lv_if_ne (tgt := 39) hx hb d_Expander_sizeOfText_30 (by decide) (fun c30 => ?_) (fun c30 => ?_)
        · rw [if_neg c30] at hrun
          refine lv_iload hx hb d_Expander_sizeOfText_39 (lv_at hl 0 rfl) ?_
          refine lv_aload_n hx hb d_Expander_sizeOfText_41 rfl (lv_at hl 2 rfl) ?_
          replace hrun := hb_some hrun
          obtain ⟨v42, g42, hrun⟩ := hrun
          refine h_getNI S (fun w q => hT w (i_Macro w q)) hK (ci := 7) rfl 0 (by decide) (hN.1 _ nf_Expander_154) hw g42 d_Expander_sizeOfText_42 ?_
          refine lv_icmp_gt (tgt := 63) hx hb d_Expander_sizeOfText_45 (by decide) (fun c45 => ?_) (fun c45 => ?_)
          · rw [if_pos c45] at hrun
            exact j_63 x2 x3 _ _ _ _ hrun hw hS (lv_sub hl [1, 2, 3, 4] rfl) K0 K1
          · rw [if_neg c45] at hrun
            refine lv_iload_n hx hb d_Expander_sizeOfText_48 rfl (lv_at hl 3 rfl) ?_
            refine lv_aload_n hx hb d_Expander_sizeOfText_49 rfl (lv_at hl 1 rfl) ?_
            replace hrun := hb_some hrun
            obtain ⟨v50, g50, hrun⟩ := hrun
            refine h_getR S (fun w q => hT w (i_Expander w q)) hK (ci := 5) rfl 5 (by decide) (hT _ fl_Expander_39) hw g50 d_Expander_sizeOfText_50 ?_
            refine lv_iload hx hb d_Expander_sizeOfText_53 (lv_at hl 0 rfl) ?_
            replace hrun := hb_some hrun
            obtain ⟨p55, rfl, hrun⟩ := hrun
            replace hrun := hb_some hrun
            obtain ⟨c55, k55, hrun⟩ := hrun
            replace hrun := hb_some hrun
            obtain ⟨v55, g55, hrun⟩ := hrun
            refine h_cq (h_runV S (As := [.int v23]) (rest := [.int x2]) (c_Arguments_argument l D dA b0 p55 v23 nx g55) (cwV 1 S.2.2.2.2 (h_good _ (h_in4 ml_Expander_189 im_Arguments_argument se_Arguments_argument it_Arguments) cd_Arguments_argument) rfl rfl rfl (by decide +kernel) ⟨Nat.le_of_ble_eq_true rfl, Nat.le_of_ble_eq_true rfl⟩) hK hN hw (ci := 2) rfl k55 rfl hl.1 (lv_room (Nat.le_of_ble_eq_true rfl)) d_Expander_sizeOfText_55 ⟨Nat.le_refl _, Nat.le_refl _⟩) hS (fun H locs hw hS => ?_)
            replace hrun := hb_some hrun
            obtain ⟨p58, rfl, hrun⟩ := hrun
            replace hrun := hb_some hrun
            obtain ⟨v58, g58, hrun⟩ := hrun
            refine h_getNI S (fun w q => hT w (i_Row w q)) hK (ci := 8) rfl 2 (by decide) (hN.1 _ nf_Expander_156) hw g58 d_Expander_sizeOfText_58 ?_
            refine lv_iadd hx hb d_Expander_sizeOfText_61 ?_
            refine lv_istore_n (lv' := [(2, .int (x2 + v58)), (4, .int v23), (0, .ref a0), (1, .ref a1), (3, .int x3)]) hx hb d_Expander_sizeOfText_62 rfl hl (by decide) rfl (fun ls hl => ?_)
            exact j_63 (x2 + v58) x3 _ _ _ _ hrun hw hS (lv_sub hl [2, 3, 0, 4] rfl) K0 K1
        · rw [if_pos c30] at hrun
          refine lv_iinc (v := (x2 + (1 : Int32))) (lv' := [(2, .int (x2 + (1 : Int32))), (4, .int v23), (0, .ref a0), (1, .ref a1), (3, .int x3)]) hx hb d_Expander_sizeOfText_33 hl (k := 3) rfl rfl (by decide) rfl (fun ls hl => ?_)
          refine lv_goto (tgt := 63) hx hb d_Expander_sizeOfText_36 (by decide) ?_
          exact j_63 (x2 + (1 : Int32)) x3 _ _ _ _ hrun hw hS (lv_sub hl [2, 3, 0, 4] rfl) K0 K1
  unfold f_Expander_sizeOfText at hrun
  refine lv_iconst (v := (0 : Int32)) hx hb d_Expander_sizeOfText_0 (by decide) ?_
  refine lv_istore_n (lv' := [(2, .int (0 : Int32)), (0, .ref a0), (1, .ref a1)]) hx hb d_Expander_sizeOfText_1 rfl hl (by decide) rfl (fun ls hl => ?_)
  refine lv_iconst (v := (0 : Int32)) hx hb d_Expander_sizeOfText_2 (by decide) ?_
  refine lv_istore_n (lv' := [(3, .int (0 : Int32)), (2, .int (0 : Int32)), (0, .ref a0), (1, .ref a1)]) hx hb d_Expander_sizeOfText_3 rfl hl (by decide) rfl (fun ls hl => ?_)
  replace hrun := hb_some hrun
  obtain ⟨b4, g4, hrun⟩ := hrun
  refine l_4 n ((0 : Int32), (0 : Int32)) _ _ _ _ g4 hw hS (lv_sub hl [2, 3, 1, 0] rfl) ?_
  · rintro x2_4 eq9 H locs ls hw hS hl
    obtain rfl := eq9.symm
    try dsimp only at hrun
    refine lv_iload_n hx hb d_Expander_sizeOfText_69 rfl (lv_at hl 0 rfl) ?_
    cases hrun
    exact W.iret hx hb hr (fun t ht hW9 => ⟨⟨_, (), rfl, rfl, by show hW D dA classes b0 _ _ t.heap; rw [ht]; exact hw⟩, hS.F ht⟩) hS.2.2 d_Expander_sizeOfText_70
