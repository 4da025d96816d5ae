set_option maxHeartbeats 4000000 in
set_option maxRecDepth 100000 in
theorem c_Definition_isRead (l : Launch) (D : va_G) (dA : Nat → ClassId) (b0 : Nat) (a0 : Nat) (nx : Nat) {h : hH} {r : Int32} (hrun : f_Definition_isRead a0 h = some r) : Met l y_Definition_isRead w_Definition_isRead ({ frames := 0, cells := 0, slots := 0, locals := 0 } : Room) (va_Pc [.ref a0] (hB D dA b0 nx h)) (va_Qi (fun r' (_ : Unit) => r' = r) (fun (_ : Unit) t => hW D dA classes b0 nx h t.heap) (hA b0)) 0 0 (hA b0) := by
  refine Met.ofW (cc := b_Definition_isRead) (maxL := 1) (ret := (some .boolean)) (by decide) rfl ?_
  intro p e s m args below meth c s₁ B hml hv
  obtain ⟨rfl, hw, hK, hN⟩ := hv
  have hx := B.exec
  have hb := B.bytes
  have hr := B.returns
  have hlocks := B.notSynchronized
  have S : CallFix p m c b_Definition_isRead 1 s ([.ref a0] : List Value).toArray w_Definition_isRead R_Definition := ⟨hx, hb, hml, findClass_of_methodNamed B.named, atoms_spec (ws := w_Definition_isRead) B.pre⟩
  have hT : ∀ w ∈ tbl, w ∈ w_Definition_isRead := fun _ q => List.mem_cons_of_mem _ q
  have hS : va_S (hA b0) s.heap s.heap [] := va_S.rf
  have hl := lv_entry ([.ref a0]) (n := 1) (Nat.le_of_ble_eq_true rfl)
  rw [lg_entry_eq]
  generalize (lg_sl ([.ref a0]) ++ List.replicate (1 - (lg_sl ([.ref a0])).length) Slot.unset).toArray = ls at hl ⊢
  have hl : lv_has ls 1 [(0, .ref a0)] := hl
  unfold f_Definition_isRead at hrun
  refine lv_aload_n hx hb d_Definition_isRead_0 rfl (lv_at hl 0 rfl) ?_
  replace hrun := hb_some hrun
  obtain ⟨v1, g1, hrun⟩ := hrun
  refine h_getI S (fun w q => hT w (i_Definition w q)) hK (ci := 4) rfl 2 (by decide) (hT _ fl_Definition_24) hw g1 d_Definition_isRead_1 ?_
  refine lv_iconst (v := (4 : Int32)) hx hb d_Definition_isRead_4 (by decide) ?_
  refine lv_icmp_ne (tgt := 12) hx hb d_Definition_isRead_5 (by decide) (fun c5 => ?_) (fun c5 => ?_)
  · rw [if_neg c5] at hrun
    refine lv_iconst (v := (0 : Int32)) hx hb d_Definition_isRead_12 (by decide) ?_
    cases hrun
    exact W.zret hx hb hr (by decide) (fun t ht hW9 => ⟨⟨_, (), rfl, rfl, by show hW D dA classes b0 _ _ t.heap; rw [ht]; exact hw⟩, hS.F ht⟩) hS.2.2 d_Definition_isRead_13
  · rw [if_pos c5] at hrun
    refine lv_iconst (v := (1 : Int32)) hx hb d_Definition_isRead_8 (by decide) ?_
    refine lv_goto (tgt := 13) hx hb d_Definition_isRead_9 (by decide) ?_
    cases hrun
    exact W.zret hx hb hr (by decide) (fun t ht hW9 => ⟨⟨_, (), rfl, rfl, by show hW D dA classes b0 _ _ t.heap; rw [ht]; exact hw⟩, hS.F ht⟩) hS.2.2 d_Definition_isRead_13
set_option maxHeartbeats 4000000 in
set_option maxRecDepth 100000 in
theorem c_Row_copyFrom (l : Launch) (D : va_G) (dA : Nat → ClassId) (b0 : Nat) (a0 : Nat) (a1 : Nat) (nxZ : Nat) {h h' : hH} {r : Unit} {dnZ dsZ : Nat} (hrun : f_Row_copyFrom a0 a1 nxZ h = some (r, dnZ, dsZ, h')) : Met l y_Row_copyFrom w_Row_copyFrom ({ frames := 2, cells := dnZ, slots := dsZ, locals := 70 } : Room) (va_Pc [.ref a0, .ref a1] (hB D dA b0 nxZ h)) (va_Qv (fun (_ : Unit) => True) (fun (_ : Unit) t => hW D dA classes b0 (nxZ + dnZ) h' t.heap) (hA b0)) dnZ dsZ (hA b0) := by
  refine Met.ofW (cc := b_Row_copyFrom) (maxL := 2) (ret := none) (by decide) rfl ?_
  intro p e s m args below meth c s₁ B hml hv
  obtain ⟨rfl, hw, hK, hN⟩ := hv
  have hx := B.exec
  have hb := B.bytes
  have hr := B.returns
  have hlocks := B.notSynchronized
  have S : CallFix p m c b_Row_copyFrom 2 s ([.ref a0, .ref a1] : List Value).toArray w_Row_copyFrom R_Row := ⟨hx, hb, hml, findClass_of_methodNamed B.named, atoms_spec (ws := w_Row_copyFrom) B.pre⟩
  have hT : ∀ w ∈ tbl, w ∈ w_Row_copyFrom := fun _ q => List.mem_cons_of_mem _ q
  have hS : va_S (hA b0) s.heap s.heap [] := va_S.rf
  have hl := lv_entry ([.ref a0, .ref a1]) (n := 2) (Nat.le_of_ble_eq_true rfl)
  rw [lg_entry_eq]
  generalize (lg_sl ([.ref a0, .ref a1]) ++ List.replicate (2 - (lg_sl ([.ref a0, .ref a1])).length) Slot.unset).toArray = ls at hl ⊢
  have hl : lv_has ls 2 [(0, .ref a0), (1, .ref a1)] := hl
  obtain ⟨dn, edn⟩ : ∃ z, z = dnZ := ⟨_, rfl⟩
  obtain ⟨ds, eds⟩ : ∃ z, z = dsZ := ⟨_, rfl⟩
  obtain ⟨nx, enx⟩ : ∃ z, z = nxZ := ⟨_, rfl⟩
  rw [← edn, ← eds, ← enx] at hrun
  rw [← enx] at hw
  have hcR : 0 + dn = dnZ := by omega
  have hsR : 0 + ds = dsZ := by omega
  have hnR : nx + dn = nxZ + dnZ := by omega
  clear edn eds enx
  unfold f_Row_copyFrom at hrun
  refine lv_aload_n hx hb d_Row_copyFrom_0 rfl (lv_at hl 0 rfl) ?_
  refine lv_aload_n hx hb d_Row_copyFrom_1 rfl (lv_at hl 1 rfl) ?_
  replace hrun := hb_some hrun
  obtain ⟨v2, g2, hrun⟩ := hrun
  refine h_getR S (fun w q => hT w (i_Row w q)) hK (ci := 8) rfl 1 (by decide) (hT _ fl_Row_15) hw g2 d_Row_copyFrom_2 ?_
  refine lv_aload_n hx hb d_Row_copyFrom_5 rfl (lv_at hl 1 rfl) ?_
  replace hrun := hb_some hrun
  obtain ⟨v6, g6, hrun⟩ := hrun
  refine h_getI S (fun w q => hT w (i_Row w q)) hK (ci := 8) rfl 2 (by decide) (hT _ fl_Row_19) hw g6 d_Row_copyFrom_6 ?_
  refine lv_aload_n hx hb d_Row_copyFrom_9 rfl (lv_at hl 0 rfl) ?_
  replace hrun := hb_some hrun
  obtain ⟨v10, g10, hrun⟩ := hrun
  refine h_getI S (fun w q => hT w (i_Row w q)) hK (ci := 8) rfl 0 (by decide) (hT _ fl_Row_9) hw g10 d_Row_copyFrom_10 ?_
  refine va_mmin hx hb (by rw [hml]; exact hl.1.symm) S.2.2.2.1 (S.2.2.2.2 _ (hT _ ml_Row_22)) (S.2.2.2.2 _ (hT _ sm_mmin)) (S.2.2.2.2 _ (hT _ it_Math)) (S.2.2.2.2 _ (hT _ cd_mmin)) (Nat.le_of_ble_eq_true rfl) (by simp only [List.map, List.sum_cons, List.sum_nil, h_cat]; exact Nat.le_of_ble_eq_true rfl) (show 0 ≤ dnZ by omega) (show 0 ≤ dsZ by omega) d_Row_copyFrom_13 ?_
  replace hrun := hb_some hrun
  obtain ⟨p16_0, rfl, hrun⟩ := hrun
  replace hrun := hbind_some hrun
  obtain ⟨v16, d16, s16, h16, dn16, ds16, g16, hrun, en16, es16⟩ := hrun
  refine h_cq (h_runS S (As := [.ref p16_0, .int (if v10 < v6 then v10 else v6)]) (rest := [.ref a0]) (c_Arrays_copyOf l D dA b0 p16_0 (if v10 < v6 then v10 else v6) nx g16) (va_cwS 2 S.2.2.2.2 (h_good _ (h_in3 ml_Row_28 sm_Arrays_copyOf it_Arrays) cd_Arrays_copyOf) rfl rfl rfl (by decide +kernel) ⟨Nat.le_of_ble_eq_true rfl, Nat.le_of_ble_eq_true rfl⟩) hK hN hw rfl hl.1 (lv_room (Nat.le_of_ble_eq_true rfl)) d_Row_copyFrom_16 ⟨show 0 + d16 ≤ dnZ by omega, show 0 + s16 ≤ dsZ by omega⟩) hS (fun H locs hw hS => ?_)
  obtain ⟨nx16, ex16⟩ : ∃ z, z = nx + d16 := ⟨_, rfl⟩
  rw [← ex16] at hw
  try rw [← ex16] at hrun
  replace hcR : (0 + d16) + dn16 = dnZ := by omega
  replace hsR : (0 + s16) + ds16 = dsZ := by omega
  replace hnR : nx16 + dn16 = nxZ + dnZ := by omega
  clear en16 es16 ex16
  replace hrun := hb_some hrun
  obtain ⟨h19, g19, hrun⟩ := hrun
  refine h_put S (fun w q => hT w (i_Row w q)) t_Row t_Row_ok n_Row hK (ci := 8) rfl 1 (by decide) (hT _ fl_Row_15) rfl (h_narA _ _) (h_fitA _ _) hw hS g19 d_Row_copyFrom_19 (fun H locs hw hS => ?_)
  refine lv_aload_n hx hb d_Row_copyFrom_22 rfl (lv_at hl 0 rfl) ?_
  refine lv_aload_n hx hb d_Row_copyFrom_23 rfl (lv_at hl 0 rfl) ?_
  replace hrun := hb_some hrun
  obtain ⟨v24, g24, hrun⟩ := hrun
  refine h_getR S (fun w q => hT w (i_Row w q)) hK (ci := 8) rfl 1 (by decide) (hT _ fl_Row_15) hw g24 d_Row_copyFrom_24 ?_
  replace hrun := hb_some hrun
  obtain ⟨p27, rfl, hrun⟩ := hrun
  replace hrun := hb_some hrun
  obtain ⟨v27, g27, hrun⟩ := hrun
  refine h_alen S hK (kd := 0) rfl hw g27 d_Row_copyFrom_27 ?_
  replace hrun := hb_some hrun
  obtain ⟨h28, g28, hrun⟩ := hrun
  refine h_put S (fun w q => hT w (i_Row w q)) t_Row t_Row_ok n_Row hK (ci := 8) rfl 2 (by decide) (hT _ fl_Row_19) rfl rfl rfl hw hS g28 d_Row_copyFrom_28 (fun H locs hw hS => ?_)
  cases hrun
  refine W.widen (k := dnZ) (n := dsZ) (by omega) (by omega) ?_
  rw [show nx16 = nxZ + dnZ by omega] at hw
  exact W.vret hx hb hr (fun t ht hW9 => ⟨⟨(), rfl, trivial, by show hW D dA classes b0 _ _ t.heap; rw [ht]; exact hw⟩, hS.F ht⟩) hS.2.2 d_Row_copyFrom_31
set_option maxHeartbeats 4000000 in
set_option maxRecDepth 100000 in
theorem c_Definition_toMacro (l : Launch) (D : va_G) (dA : Nat → ClassId) (b0 : Nat) (n : Nat) (a0 : Nat) (i1 : Int32) (nxZ : Nat) {h h' : hH} {r : Option Nat} {dnZ dsZ : Nat} (hrun : f_Definition_toMacro n a0 i1 nxZ h = some (r, dnZ, dsZ, h')) : Met l y_Definition_toMacro w_Definition_toMacro ({ frames := 3, cells := dnZ, slots := dsZ, locals := 91 } : Room) (va_Pc [.ref a0, .int i1] (hB D dA b0 nxZ h)) (va_Qq (fun r' (_ : Unit) => r' = r) (fun (_ : Unit) t => hW D dA classes b0 (nxZ + dnZ) h' t.heap) (hA b0)) dnZ dsZ (hA b0) := by
  refine Met.ofW (cc := b_Definition_toMacro) (maxL := 4) (ret := (some (.object "MacroExpand$Macro"))) (by decide) rfl ?_
  intro p e s m args below meth c s₁ B hml hv
  obtain ⟨rfl, hw, hK, hN⟩ := hv
  have hx := B.exec
  have hb := B.bytes
  have hr := B.returns
  have hlocks := B.notSynchronized
  have S : CallFix p m c b_Definition_toMacro 4 s ([.ref a0, .int i1] : List Value).toArray w_Definition_toMacro R_Definition := ⟨hx, hb, hml, findClass_of_methodNamed B.named, atoms_spec (ws := w_Definition_toMacro) B.pre⟩
  have hT : ∀ w ∈ tbl, w ∈ w_Definition_toMacro := fun _ q => List.mem_cons_of_mem _ q
  have hS : va_S (hA b0) s.heap s.heap [] := va_S.rf
  have hl := lv_entry ([.ref a0, .int i1]) (n := 4) (Nat.le_of_ble_eq_true rfl)
  rw [lg_entry_eq]
  generalize (lg_sl ([.ref a0, .int i1]) ++ List.replicate (4 - (lg_sl ([.ref a0, .int i1])).length) Slot.unset).toArray = ls at hl ⊢
  have hl : lv_has ls 4 [(0, .ref a0), (1, .int i1)] := hl
  obtain ⟨dn, edn⟩ : ∃ z, z = dnZ := ⟨_, rfl⟩
  obtain ⟨ds, eds⟩ : ∃ z, z = dsZ := ⟨_, rfl⟩
  obtain ⟨nx, enx⟩ : ∃ z, z = nxZ := ⟨_, rfl⟩
  rw [← edn, ← eds, ← enx] at hrun
  rw [← enx] at hw
  have hcR : 0 + dn = dnZ := by omega
  have hsR : 0 + ds = dsZ := by omega
  have hnR : nx + dn = nxZ + dnZ := by omega
  clear edn eds enx
  have l_15 : ∀ (x2 : Option Nat) (n9 : Nat) (x9 : Int32) (cells slots dn ds nx : Nat) (h : hH) (b9 : (Unit)) (h9 : hH) (H : Heap) (locs : List Loc) (ls : Array Slot), hloopA (f_Definition_toMacro_b15 n a0 x2) n9 x9 nx h = some (b9, dn, ds, h9) → cells + dn ≤ dnZ → slots + ds ≤ dsZ → hW D dA classes b0 nx h H → va_S (hA b0) s.heap H locs → lv_has ls 4 (match x9 with | x3 => [(0, .ref a0), (2, va_rf x2), (3, .int x3)]) → (b9 = () → ∀ (H : Heap) (locs : List Loc) (ls : Array Slot), hW D dA classes b0 (nx + dn) h9 H → va_S (hA b0) s.heap H locs → lv_has ls 4 [(0, .ref a0), (2, va_rf x2)] → W p l e (headSpec w_Definition_toMacro ({ frames := 3, cells := dnZ, slots := dsZ, locals := 91 } : Room)).room s m ([.ref a0, .int i1] : List Value).toArray below meth c H locs (cells + dn) (slots + ds) (MQ below (va_Qq (fun r' (_ : Unit) => r' = r) (fun (_ : Unit) t => hW D dA classes b0 (nxZ + dnZ) h' t.heap) (hA b0)) ([.ref a0, .int i1] : List Value).toArray s dnZ dsZ (hA b0)) (F0 m 52 ls [])) → W p l e (headSpec w_Definition_toMacro ({ frames := 3, cells := dnZ, slots := dsZ, locals := 91 } : Room)).room s m ([.ref a0, .int i1] : List Value).toArray below meth c H locs cells slots (MQ below (va_Qq (fun r' (_ : Unit) => r' = r) (fun (_ : Unit) t => hW D dA classes b0 (nxZ + dnZ) h' t.heap) (hA b0)) ([.ref a0, .int i1] : List Value).toArray s dnZ dsZ (hA b0)) (F0 m 15 ls []) := by
    intro x2 n9
    induction n9 with
    | zero =>
      intro x9 cells slots dn ds nx h b9 h9 H locs ls hrun
      cases hrun
    | succ n9 ih =>
      rintro x3 cells slots dn ds nx h b9 h9 H locs ls hrun hcB hsB hw hS hl k0
      have hl : lv_has ls 4 [(0, .ref a0), (2, va_rf x2), (3, .int x3)] := hl
      unfold hloopA at hrun
      obtain ⟨q9, dnb, dsb, h9b, dnr, dsr, hbody, hrun9, edn, eds⟩ := hbind_some hrun
      have K0 : (∀ (z3 : Int32), q9 = .inl z3 → ∀ (H : Heap) (locs : List Loc) (ls : Array Slot), hW D dA classes b0 (nx + dnb) h9b H → va_S (hA b0) s.heap H locs → lv_has ls 4 [(0, .ref a0), (2, va_rf x2), (3, .int z3)] → W p l e (headSpec w_Definition_toMacro ({ frames := 3, cells := dnZ, slots := dsZ, locals := 91 } : Room)).room s m ([.ref a0, .int i1] : List Value).toArray below meth c H locs (cells + dnb) (slots + dsb) (MQ below (va_Qq (fun r' (_ : Unit) => r' = r) (fun (_ : Unit) t => hW D dA classes b0 (nxZ + dnZ) h' t.heap) (hA b0)) ([.ref a0, .int i1] : List Value).toArray s dnZ dsZ (hA b0)) (F0 m 15 ls [])) := by
        intro z3 eq9 H locs ls hw hS hl
        subst eq9
        exact ih z3 (cells + dnb) (slots + dsb) dnr dsr (nx + dnb) h9b b9 h9 H locs ls hrun9 (by omega) (by omega) hw hS hl (by have q := k0; rw [show nx + dn = nx + dnb + dnr by omega, show cells + dn = cells + dnb + dnr by omega, show slots + ds = slots + dsb + dsr by omega] at q; exact q)
      have K1 : (q9 = .inr () → ∀ (H : Heap) (locs : List Loc) (ls : Array Slot), hW D dA classes b0 (nx + dnb) h9b H → va_S (hA b0) s.heap H locs → lv_has ls 4 [(0, .ref a0), (2, va_rf x2)] → W p l e (headSpec w_Definition_toMacro ({ frames := 3, cells := dnZ, slots := dsZ, locals := 91 } : Room)).room s m ([.ref a0, .int i1] : List Value).toArray below meth c H locs (cells + dnb) (slots + dsb) (MQ below (va_Qq (fun r' (_ : Unit) => r' = r) (fun (_ : Unit) t => hW D dA classes b0 (nxZ + dnZ) h' t.heap) (hA b0)) ([.ref a0, .int i1] : List Value).toArray s dnZ dsZ (hA b0)) (F0 m 52 ls [])) := by
        intro  eq9 H locs ls hw hS hl
        subst eq9
        cases hrun9
        subst edn; subst eds
        exact k0  rfl H locs ls hw hS hl
      clear hrun hrun9 ih k0
      have hrun := hbody
      clear hbody
      replace hcB : cells + dnb ≤ dnZ := by omega
      replace hsB : slots + dsb ≤ dsZ := by omega
      clear edn eds
      dsimp only [f_Definition_toMacro_b15] at hrun
      have hcR : cells + dnb = cells + dnb := rfl
      have hsR : slots + dsb = slots + dsb := rfl
      have hnR : nx + dnb = nx + dnb := rfl
      refine lv_iload_n hx hb d_Definition_toMacro_15 rfl (lv_at hl 2 rfl) ?_
      refine lv_aload_n hx hb d_Definition_toMacro_16 rfl (lv_at hl 0 rfl) ?_
      replace hrun := hb_some hrun
      obtain ⟨v17, g17, hrun⟩ := hrun
      refine h_getI S (fun w q => hT w (i_Definition w q)) hK (ci := 4) rfl 5 (by decide) (hT _ fl_Definition_38) hw g17 d_Definition_toMacro_17 ?_
      refine lv_icmp_gt (tgt := 52) hx hb d_Definition_toMacro_20 (by decide) (fun c20 => ?_) (fun c20 => ?_)
      · rw [if_pos c20] at hrun
        cases hrun
        exact W.widen (by omega) (by omega) (K1  rfl H locs ls hw hS (lv_sub hl [0, 1] rfl))
      · rw [if_neg c20] at hrun
        refine lv_iload_n hx hb d_Definition_toMacro_23 rfl (lv_at hl 2 rfl) ?_
        refine lv_aload_n hx hb d_Definition_toMacro_24 rfl (lv_at hl 0 rfl) ?_
        replace hrun := hb_some hrun
        obtain ⟨v25, g25, hrun⟩ := hrun
        refine h_getR S (fun w q => hT w (i_Definition w q)) hK (ci := 4) rfl 0 (by decide) (hT _ fl_Definition_11) hw g25 d_Definition_toMacro_25 ?_
        replace hrun := hb_some hrun
        obtain ⟨p28, rfl, hrun⟩ := hrun
        replace hrun := hb_some hrun
        obtain ⟨v28, g28, hrun⟩ := hrun
        refine h_alen S hK (kd := 3) rfl hw g28 d_Definition_toMacro_28 ?_
        refine lv_icmp_ge (tgt := 52) hx hb d_Definition_toMacro_29 (by decide) (fun c29 => ?_) (fun c29 => ?_)
        · rw [if_pos c29] at hrun
          cases hrun
          exact W.widen (by omega) (by omega) (K1  rfl H locs ls hw hS (lv_sub hl [0, 1] rfl))
        · rw [if_neg c29] at hrun
          refine h_aload_n hx hb d_Definition_toMacro_32 rfl (lv_at hl 1 rfl) ?_
          refine lv_iload_n hx hb d_Definition_toMacro_33 rfl (lv_at hl 2 rfl) ?_
          replace hrun := hb_some hrun
          obtain ⟨p34, rfl, hrun⟩ := hrun
          replace hrun := hb_some hrun
          obtain ⟨c34, k34, hrun⟩ := hrun
          replace hrun := hb_some hrun
          obtain ⟨v34, g34, hrun⟩ := hrun
          refine h_cq (h_runV S (As := [.int x3]) (rest := []) (c_Macro_row l D dA b0 p34 x3 nx g34) (cwV 1 S.2.2.2.2 (h_good _ (h_in4 ml_Definition_97 im_Macro_row se_Macro_row it_Macro) cd_Macro_row) rfl rfl rfl (by decide +kernel) ⟨Nat.le_of_ble_eq_true rfl, Nat.le_of_ble_eq_true rfl⟩) hK hN hw (ci := 7) rfl k34 rfl hl.1 (lv_room (Nat.le_of_ble_eq_true rfl)) d_Definition_toMacro_34 ⟨show cells + 0 ≤ dnZ by omega, show slots + 0 ≤ dsZ by omega⟩) hS (fun H locs hw hS => ?_)
          refine lv_aload_n hx hb d_Definition_toMacro_37 rfl (lv_at hl 0 rfl) ?_
          replace hrun := hb_some hrun
          obtain ⟨v38, g38, hrun⟩ := hrun
          refine h_getR S (fun w q => hT w (i_Definition w q)) hK (ci := 4) rfl 0 (by decide) (hT _ fl_Definition_11) hw g38 d_Definition_toMacro_38 ?_
          refine lv_iload_n hx hb d_Definition_toMacro_41 rfl (lv_at hl 2 rfl) ?_
          replace hrun := hb_some hrun
          obtain ⟨p42, rfl, hrun⟩ := hrun
          replace hrun := hb_some hrun
          obtain ⟨v42, g42, hrun⟩ := hrun
          refine h_aald S hK (kd := 3) rfl hw g42 d_Definition_toMacro_42 ?_
          replace hrun := hb_some hrun
          obtain ⟨p43, rfl, hrun⟩ := hrun
          replace hrun := hb_some hrun
          obtain ⟨p43_0, rfl, hrun⟩ := hrun
          replace hrun := hb_some hrun
          obtain ⟨c43, k43, hrun⟩ := hrun
          replace hrun := hbind_some hrun
          obtain ⟨_u43, d43, s43, h43, dn43, ds43, g43, hrun, en43, es43⟩ := hrun
          refine h_cv (h_runV S (As := [.ref p43_0]) (rest := []) (c_Row_copyFrom l D dA b0 p43 p43_0 nx g43) (cwV 1 S.2.2.2.2 (h_good _ (h_in4 ml_Definition_101 im_Row_copyFrom se_Row_copyFrom it_Row) cd_Row_copyFrom) rfl rfl rfl (by decide +kernel) ⟨Nat.le_of_ble_eq_true rfl, Nat.le_of_ble_eq_true rfl⟩) hK hN hw (ci := 8) rfl k43 rfl hl.1 (lv_room (Nat.le_of_ble_eq_true rfl)) d_Definition_toMacro_43 ⟨show cells + d43 ≤ dnZ by omega, show slots + s43 ≤ dsZ by omega⟩) hS (fun H locs hw hS => ?_)
          obtain ⟨nx43, ex43⟩ : ∃ z, z = nx + d43 := ⟨_, rfl⟩
          rw [← ex43] at hw
          try rw [← ex43] at hrun
          replace hcR : (cells + d43) + dn43 = cells + dnb := by omega
          replace hsR : (slots + s43) + ds43 = slots + dsb := by omega
          replace hnR : nx43 + dn43 = nx + dnb := by omega
          clear en43 es43 ex43
          refine lv_iinc (v := (x3 + (1 : Int32))) (lv' := [(3, .int (x3 + (1 : Int32))), (0, .ref a0), (2, .ref p34)]) hx hb d_Definition_toMacro_46 hl (k := 2) rfl rfl (by decide) rfl (fun ls hl => ?_)
          refine lv_goto (tgt := 15) hx hb d_Definition_toMacro_49 (by decide) ?_
          cases hrun
          rw [show nx43 = nx + dnb by omega] at hw
          exact W.widen (by omega) (by omega) (K0 (x3 + (1 : Int32)) rfl H locs ls hw hS (lv_sub hl [1, 2, 0] rfl))
  unfold f_Definition_toMacro at hrun
  replace hrun := hnew_some hrun
  obtain ⟨h0, dn0, ds0, eh0, hrun, en0, es0⟩ := hrun
  refine h_new S (fun w q => hT w (i_Macro w q)) t_Macro t_Macro_ok (hT _ cl_Definition_92) (hT _ in_Macro) (hT _ it_Macro) hK (ci := 7) rfl dv_Macro hw hS (show 0 + 1 ≤ dnZ by omega) (show 0 + 5 ≤ dsZ by omega) d_Definition_toMacro_0 (fun H hw hS => ?_)
  rw [← eh0] at hw
  clear eh0
  obtain ⟨nx0, ex0⟩ : ∃ z, z = nx + 1 := ⟨_, rfl⟩
  rw [← ex0] at hw
  try rw [← ex0] at hrun
  replace hcR : (0 + 1) + dn0 = dnZ := by omega
  replace hsR : (0 + 5) + ds0 = dsZ := by omega
  replace hnR : nx0 + dn0 = nxZ + dnZ := by omega
  clear en0 es0 ex0
  refine lv_dup hx hb d_Definition_toMacro_3 rfl ?_
  refine lv_aload_n hx hb d_Definition_toMacro_4 rfl (lv_at hl 0 rfl) ?_
  replace hrun := hb_some hrun
  obtain ⟨v5, g5, hrun⟩ := hrun
  refine h_getI S (fun w q => hT w (i_Definition w q)) hK (ci := 4) rfl 5 (by decide) (hT _ fl_Definition_38) hw g5 d_Definition_toMacro_5 ?_
  refine lv_iload_n hx hb d_Definition_toMacro_8 rfl (lv_at hl 1 rfl) ?_
  replace hrun := hbind_some hrun
  obtain ⟨_u9, d9, s9, h9, dn9, ds9, g9, hrun, en9, es9⟩ := hrun
  refine h_cv (h_runI S (As := [.int v5, .int i1]) (rest := [.ref nx]) (c_Macro_init l D dA b0 n nx v5 i1 nx0 g9) (cwI 2 S.2.2.2.2 (h_good [] (fun _ q => absurd q List.not_mem_nil) cd_Macro_init) rfl rfl rfl (S.2.2.2.2 _ (hT _ it_Macro)) (S.2.2.2.2 _ (hT _ ml_Definition_94)) (S.2.2.2.2 _ (hT _ im_Macro_init)) rfl (by decide +kernel) ⟨Nat.le_of_ble_eq_true rfl, Nat.le_of_ble_eq_true rfl⟩) hK hN hw rfl hl.1 (lv_room (Nat.le_of_ble_eq_true rfl)) d_Definition_toMacro_9 ⟨show (0 + 1) + d9 ≤ dnZ by omega, show (0 + 5) + s9 ≤ dsZ by omega⟩) hS (fun H locs hw hS => ?_)
  obtain ⟨nx9, ex9⟩ : ∃ z, z = nx0 + d9 := ⟨_, rfl⟩
  rw [← ex9] at hw
  try rw [← ex9] at hrun
  replace hcR : ((0 + 1) + d9) + dn9 = dnZ := by omega
  replace hsR : ((0 + 5) + s9) + ds9 = dsZ := by omega
  replace hnR : nx9 + dn9 = nxZ + dnZ := by omega
  clear en9 es9 ex9
  refine lv_astore_n (lv' := [(2, .ref nx), (0, .ref a0), (1, .int i1)]) hx hb d_Definition_toMacro_12 rfl hl (by decide) rfl (fun ls hl => ?_)
  refine lv_iconst (v := (0 : Int32)) hx hb d_Definition_toMacro_13 (by decide) ?_
  refine lv_istore_n (lv' := [(3, .int (0 : Int32)), (2, .ref nx), (0, .ref a0), (1, .int i1)]) hx hb d_Definition_toMacro_14 rfl hl (by decide) rfl (fun ls hl => ?_)
  replace hrun := hbind_some hrun
  obtain ⟨b15, d15, s15, h15l, dn15, ds15, g15, hrun, en15, es15⟩ := hrun
  refine l_15 (some nx) n (0 : Int32) ((0 + 1) + d9) ((0 + 5) + s9) _ _ nx9 h9 _ _ _ _ _ g15 (by omega) (by omega) hw hS (lv_sub hl [2, 1, 0] rfl) ?_
  · rintro  eq9 H locs ls hw hS hl
    obtain rfl := eq9.symm
    obtain ⟨nx15l, ex15⟩ : ∃ z, z = nx9 + d15 := ⟨_, rfl⟩
    rw [← ex15] at hw
    try rw [← ex15] at hrun
    replace hcR : (((0 + 1) + d9) + d15) + dn15 = dnZ := by omega
    replace hsR : (((0 + 5) + s9) + s15) + ds15 = dsZ := by omega
    replace hnR : nx15l + dn15 = nxZ + dnZ := by omega
    clear en15 es15 ex15
    try dsimp only at hrun
    refine lv_aload_n hx hb d_Definition_toMacro_52 rfl (lv_at hl 1 rfl) ?_
    replace hrun := hb_some hrun
    obtain ⟨v53, g53, hrun⟩ := hrun
    refine h_getNR S (fun w q => hT w (i_Macro w q)) hK (ci := 7) rfl 4 (by decide) (hN.1 _ nf_Definition_105) hw g53 d_Definition_toMacro_53 ?_
    refine lv_aload_n hx hb d_Definition_toMacro_56 rfl (lv_at hl 0 rfl) ?_
    replace hrun := hb_some hrun
    obtain ⟨v57, g57, hrun⟩ := hrun
    refine h_getR S (fun w q => hT w (i_Definition w q)) hK (ci := 4) rfl 1 (by decide) (hT _ fl_Definition_20) hw g57 d_Definition_toMacro_57 ?_
    replace hrun := hb_some hrun
    obtain ⟨p60, rfl, hrun⟩ := hrun
    replace hrun := hb_some hrun
    obtain ⟨p60_0, rfl, hrun⟩ := hrun
    replace hrun := hb_some hrun
    obtain ⟨c60, k60, hrun⟩ := hrun
    replace hrun := hbind_some hrun
    obtain ⟨_u60, d60, s60, h60, dn60, ds60, g60, hrun, en60, es60⟩ := hrun
    refine h_cv (h_runV S (As := [.ref p60_0]) (rest := []) (c_Row_copyFrom l D dA b0 p60 p60_0 nx15l g60) (cwV 1 S.2.2.2.2 (h_good _ (h_in4 ml_Definition_101 im_Row_copyFrom se_Row_copyFrom it_Row) cd_Row_copyFrom) rfl rfl rfl (by decide +kernel) ⟨Nat.le_of_ble_eq_true rfl, Nat.le_of_ble_eq_true rfl⟩) hK hN hw (ci := 8) rfl k60 rfl hl.1 (lv_room (Nat.le_of_ble_eq_true rfl)) d_Definition_toMacro_60 ⟨show (((0 + 1) + d9) + d15) + d60 ≤ dnZ by omega, show (((0 + 5) + s9) + s15) + s60 ≤ dsZ by omega⟩) hS (fun H locs hw hS => ?_)
    obtain ⟨nx60, ex60⟩ : ∃ z, z = nx15l + d60 := ⟨_, rfl⟩
    rw [← ex60] at hw
    try rw [← ex60] at hrun
    replace hcR : ((((0 + 1) + d9) + d15) + d60) + dn60 = dnZ := by omega
    replace hsR : ((((0 + 5) + s9) + s15) + s60) + ds60 = dsZ := by omega
    replace hnR : nx60 + dn60 = nxZ + dnZ := by omega
    clear en60 es60 ex60
    refine lv_aload_n hx hb d_Definition_toMacro_63 rfl (lv_at hl 1 rfl) ?_
    cases hrun
    refine W.widen (k := dnZ) (n := dsZ) (by omega) (by omega) ?_
    rw [show nx60 = nxZ + dnZ by omega] at hw
    exact W.aret hx hb hr (Or.inl ⟨_, rfl⟩) (va_rf_or (some nx)) (fun t ht hW9 => ⟨⟨_, (), rfl, rfl, by show hW D dA classes b0 _ _ t.heap; rw [ht]; exact hw⟩, hS.F ht⟩) hS.2.2 d_Definition_toMacro_64
set_option maxHeartbeats 4000000 in
set_option maxRecDepth 100000 in
theorem c_Whole_goOnDefining (l : Launch) (D : va_G) (dA : Nat → ClassId) (b0 : Nat) (n : Nat) (a0 : Nat) (i1 : Int32) (nxZ : Nat) {h h' : hH} {r : Int32} {dnZ dsZ : Nat} (hrun : f_Whole_goOnDefining n a0 i1 nxZ h = some (r, dnZ, dsZ, h')) : Met l y_Whole_goOnDefining w_Whole_goOnDefining ({ frames := 6, cells := dnZ, slots := dsZ, locals := 154 } : Room) (va_Pc [.ref a0, .int i1] (hB D dA b0 nxZ h)) (va_Qi (fun r' (_ : Unit) => r' = r) (fun (_ : Unit) t => hW D dA classes b0 (nxZ + dnZ) h' t.heap) (hA b0)) dnZ dsZ (hA b0) := by
  refine Met.ofW (cc := b_Whole_goOnDefining) (maxL := 3) (ret := (some .int)) (by decide) rfl ?_
  intro p e s m args below meth c s₁ B hml hv
  obtain ⟨rfl, hw, hK, hN⟩ := hv
  have hx := B.exec
  have hb := B.bytes
  have hr := B.returns
  have hlocks := B.notSynchronized
  have S : CallFix p m c b_Whole_goOnDefining 3 s ([.ref a0, .int i1] : List Value).toArray w_Whole_goOnDefining R_Whole := ⟨hx, hb, hml, findClass_of_methodNamed B.named, atoms_spec (ws := w_Whole_goOnDefining) B.pre⟩
  have hT : ∀ w ∈ tbl, w ∈ w_Whole_goOnDefining := fun _ q => List.mem_cons_of_mem _ q
  have hS : va_S (hA b0) s.heap s.heap [] := va_S.rf
  have hl := lv_entry ([.ref a0, .int i1]) (n := 3) (Nat.le_of_ble_eq_true rfl)
  rw [lg_entry_eq]
  generalize (lg_sl ([.ref a0, .int i1]) ++ List.replicate (3 - (lg_sl ([.ref a0, .int i1])).length) Slot.unset).toArray = ls at hl ⊢
  have hl : lv_has ls 3 [(0, .ref a0), (1, .int i1)] := hl
  obtain ⟨dn, edn⟩ : ∃ z, z = dnZ := ⟨_, rfl⟩
  obtain ⟨ds, eds⟩ : ∃ z, z = dsZ := ⟨_, rfl⟩
  obtain ⟨nx, enx⟩ : ∃ z, z = nxZ := ⟨_, rfl⟩
  rw [← edn, ← eds, ← enx] at hrun
  rw [← enx] at hw
  have hcR : 0 + dn = dnZ := by omega
  have hsR : 0 + ds = dsZ := by omega
  have hnR : nx + dn = nxZ + dnZ := by omega
  clear edn eds enx
  unfold f_Whole_goOnDefining at hrun
  refine lv_aload_n hx hb d_Whole_goOnDefining_0 rfl (lv_at hl 0 rfl) ?_
  replace hrun := hb_some hrun
  obtain ⟨v1, g1, hrun⟩ := hrun
  refine h_getR S (fun w q => hT w (i_Whole w q)) hK (ci := 11) rfl 3 (by decide) (hT _ fl_Whole_26) hw g1 d_Whole_goOnDefining_1 ?_
  refine lv_iload_n hx hb d_Whole_goOnDefining_4 rfl (lv_at hl 1 rfl) ?_
  replace hrun := hb_some hrun
  obtain ⟨p5, rfl, hrun⟩ := hrun
  replace hrun := hb_some hrun
  obtain ⟨c5, k5, hrun⟩ := hrun
  replace hrun := hbind_some hrun
  obtain ⟨v5, d5, s5, h5, dn5, ds5, g5, hrun, en5, es5⟩ := hrun
  refine h_ci (h_runV S (As := [.int i1]) (rest := []) (c_Definition_accept l D dA b0 p5 i1 nx g5) (cwV 1 S.2.2.2.2 (h_good _ (h_in4 ml_Whole_105 im_Definition_accept se_Definition_accept it_Definition) cd_Definition_accept) rfl rfl rfl (by decide +kernel) ⟨Nat.le_of_ble_eq_true rfl, Nat.le_of_ble_eq_true rfl⟩) hK hN hw (ci := 4) rfl k5 rfl hl.1 (lv_room (Nat.le_of_ble_eq_true rfl)) d_Whole_goOnDefining_5 ⟨show 0 + d5 ≤ dnZ by omega, show 0 + s5 ≤ dsZ by omega⟩) hS (fun H locs hw hS => ?_)
  obtain ⟨nx5, ex5⟩ : ∃ z, z = nx + d5 := ⟨_, rfl⟩
  rw [← ex5] at hw
  try rw [← ex5] at hrun
  replace hcR : (0 + d5) + dn5 = dnZ := by omega
  replace hsR : (0 + s5) + ds5 = dsZ := by omega
  replace hnR : nx5 + dn5 = nxZ + dnZ := by omega
  clear en5 es5 ex5
  refine lv_istore_n (lv' := [(2, .int v5), (0, .ref a0), (1, .int i1)]) hx hb d_Whole_goOnDefining_8 rfl hl (by decide) rfl (fun ls hl => ?_)
  refine lv_aload_n hx hb d_Whole_goOnDefining_9 rfl (lv_at hl 1 rfl) ?_
  replace hrun := hb_some hrun
  obtain ⟨v10, g10, hrun⟩ := hrun
  refine h_getR S (fun w q => hT w (i_Whole w q)) hK (ci := 11) rfl 2 (by decide) (hT _ fl_Whole_19) hw g10 d_Whole_goOnDefining_10 ?_
  refine lv_aload_n hx hb d_Whole_goOnDefining_13 rfl (lv_at hl 1 rfl) ?_
  replace hrun := hb_some hrun
  obtain ⟨v14, g14, hrun⟩ := hrun
  refine h_getR S (fun w q => hT w (i_Whole w q)) hK (ci := 11) rfl 3 (by decide) (hT _ fl_Whole_26) hw g14 d_Whole_goOnDefining_14 ?_
  replace hrun := hb_some hrun
  obtain ⟨p17, rfl, hrun⟩ := hrun
  replace hrun := hb_some hrun
  obtain ⟨v17, g17, hrun⟩ := hrun
  refine h_getNI S (fun w q => hT w (i_Definition w q)) hK (ci := 4) rfl 4 (by decide) (hN.1 _ nf_Whole_108) hw g17 d_Whole_goOnDefining_17 ?_
  replace hrun := hb_some hrun
  obtain ⟨p20, rfl, hrun⟩ := hrun
  replace hrun := hb_some hrun
  obtain ⟨h20, g20, hrun⟩ := hrun
  refine h_putN S (fun w q => hT w (i_Expander w q)) t_Expander t_Expander_ok n_Expander hK (ci := 5) rfl 13 (by decide) (hN.1 _ nf_Whole_111) rfl rfl rfl hw hS g20 d_Whole_goOnDefining_20 (fun H locs hw hS => ?_)
  refine lv_iload_n hx hb d_Whole_goOnDefining_23 rfl (lv_at hl 0 rfl) ?_
  refine lv_if_ne (tgt := 37) hx hb d_Whole_goOnDefining_24 (by decide) (fun c24 => ?_) (fun c24 => ?_)
  · rw [if_neg c24] at hrun
    refine lv_iload_n hx hb d_Whole_goOnDefining_37 rfl (lv_at hl 0 rfl) ?_
    cases hrun
    refine W.widen (k := dnZ) (n := dsZ) (by omega) (by omega) ?_
    rw [show nx5 = nxZ + dnZ by omega] at hw
    exact W.iret hx hb hr (fun t ht hW9 => ⟨⟨_, (), rfl, rfl, by show hW D dA classes b0 _ _ t.heap; rw [ht]; exact hw⟩, hS.F ht⟩) hS.2.2 d_Whole_goOnDefining_38
  · rw [if_pos c24] at hrun
    refine lv_aload_n hx hb d_Whole_goOnDefining_27 rfl (lv_at hl 1 rfl) ?_
    replace hrun := hb_some hrun
    obtain ⟨v28, g28, hrun⟩ := hrun
    refine h_getR S (fun w q => hT w (i_Whole w q)) hK (ci := 11) rfl 3 (by decide) (hT _ fl_Whole_26) hw g28 d_Whole_goOnDefining_28 ?_
    replace hrun := hb_some hrun
    obtain ⟨p31, rfl, hrun⟩ := hrun
    replace hrun := hb_some hrun
    obtain ⟨c31, k31, hrun⟩ := hrun
    replace hrun := hb_some hrun
    obtain ⟨v31, g31, hrun⟩ := hrun
    refine h_ci (h_runV S (As := []) (rest := []) (c_Definition_isRead l D dA b0 p31 nx5 g31) (cwV 0 S.2.2.2.2 (h_good _ (h_in4 ml_Whole_114 im_Definition_isRead se_Definition_isRead it_Definition) cd_Definition_isRead) rfl rfl rfl (by decide +kernel) ⟨Nat.le_of_ble_eq_true rfl, Nat.le_of_ble_eq_true rfl⟩) hK hN hw (ci := 4) rfl k31 rfl hl.1 (lv_room (Nat.le_of_ble_eq_true rfl)) d_Whole_goOnDefining_31 ⟨show (0 + d5) + 0 ≤ dnZ by omega, show (0 + s5) + 0 ≤ dsZ by omega⟩) hS (fun H locs hw hS => ?_)
    refine lv_if_ne (tgt := 39) hx hb d_Whole_goOnDefining_34 (by decide) (fun c34 => ?_) (fun c34 => ?_)
    · rw [if_neg c34] at hrun
      refine lv_aload_n hx hb d_Whole_goOnDefining_39 rfl (lv_at hl 1 rfl) ?_
      replace hrun := hb_some hrun
      obtain ⟨v40, g40, hrun⟩ := hrun
      refine h_getR S (fun w q => hT w (i_Whole w q)) hK (ci := 11) rfl 1 (by decide) (hT _ fl_Whole_15) hw g40 d_Whole_goOnDefining_40 ?_
      replace hrun := hb_some hrun
      obtain ⟨p43, rfl, hrun⟩ := hrun
      replace hrun := hb_some hrun
      obtain ⟨c43, k43, hrun⟩ := hrun
      replace hrun := hb_some hrun
      obtain ⟨v43, g43, hrun⟩ := hrun
      refine h_ci (h_runV S (As := []) (rest := []) (c_Book_isFull l D dA b0 p43 nx5 g43) (cwV 0 S.2.2.2.2 (h_good _ (h_in4 ml_Whole_117 im_Book_isFull se_Book_isFull it_Book) cd_Book_isFull) rfl rfl rfl (by decide +kernel) ⟨Nat.le_of_ble_eq_true rfl, Nat.le_of_ble_eq_true rfl⟩) hK hN hw (ci := 3) rfl k43 rfl hl.1 (lv_room (Nat.le_of_ble_eq_true rfl)) d_Whole_goOnDefining_43 ⟨show (0 + d5) + 0 ≤ dnZ by omega, show (0 + s5) + 0 ≤ dsZ by omega⟩) hS (fun H locs hw hS => ?_)
      refine lv_if_eq (tgt := 52) hx hb d_Whole_goOnDefining_46 (by decide) (fun c46 => ?_) (fun c46 => ?_)
      · rw [if_pos c46] at hrun
        refine lv_aload_n hx hb d_Whole_goOnDefining_52 rfl (lv_at hl 1 rfl) ?_
        replace hrun := hb_some hrun
        obtain ⟨v53, g53, hrun⟩ := hrun
        refine h_getR S (fun w q => hT w (i_Whole w q)) hK (ci := 11) rfl 1 (by decide) (hT _ fl_Whole_15) hw g53 d_Whole_goOnDefining_53 ?_
        refine lv_aload_n hx hb d_Whole_goOnDefining_56 rfl (lv_at hl 1 rfl) ?_
        replace hrun := hb_some hrun
        obtain ⟨v57, g57, hrun⟩ := hrun
        refine h_getR S (fun w q => hT w (i_Whole w q)) hK (ci := 11) rfl 3 (by decide) (hT _ fl_Whole_26) hw g57 d_Whole_goOnDefining_57 ?_
        replace hrun := hb_some hrun
        obtain ⟨p60, rfl, hrun⟩ := hrun
        replace hrun := hb_some hrun
        obtain ⟨v60, g60, hrun⟩ := hrun
        refine h_getNI S (fun w q => hT w (i_Definition w q)) hK (ci := 4) rfl 4 (by decide) (hN.1 _ nf_Whole_108) hw g60 d_Whole_goOnDefining_60 ?_
        refine lv_aload_n hx hb d_Whole_goOnDefining_63 rfl (lv_at hl 1 rfl) ?_
        replace hrun := hb_some hrun
        obtain ⟨v64, g64, hrun⟩ := hrun
        refine h_getR S (fun w q => hT w (i_Whole w q)) hK (ci := 11) rfl 3 (by decide) (hT _ fl_Whole_26) hw g64 d_Whole_goOnDefining_64 ?_
        refine lv_aload_n hx hb d_Whole_goOnDefining_67 rfl (lv_at hl 1 rfl) ?_
        replace hrun := hb_some hrun
        obtain ⟨v68, g68, hrun⟩ := hrun
        refine h_getI S (fun w q => hT w (i_Whole w q)) hK (ci := 11) rfl 5 (by decide) (hT _ fl_Whole_39) hw g68 d_Whole_goOnDefining_68 ?_
        replace hrun := hb_some hrun
        obtain ⟨p71, rfl, hrun⟩ := hrun
        replace hrun := hb_some hrun
        obtain ⟨c71, k71, hrun⟩ := hrun
        replace hrun := hbind_some hrun
        obtain ⟨v71, d71, s71, h71, dn71, ds71, g71, hrun, en71, es71⟩ := hrun
        refine h_cq (h_runV S (As := [.int v68]) (rest := [.int v60, va_rf v53]) (c_Definition_toMacro l D dA b0 n p71 v68 nx5 g71) (cwV 1 S.2.2.2.2 (h_good _ (h_in4 ml_Whole_120 im_Definition_toMacro se_Definition_toMacro it_Definition) cd_Definition_toMacro) rfl rfl rfl (by decide +kernel) ⟨Nat.le_of_ble_eq_true rfl, Nat.le_of_ble_eq_true rfl⟩) hK hN hw (ci := 4) rfl k71 rfl hl.1 (lv_room (by simp only [List.map, List.sum_cons, List.sum_nil, h_cat]; exact Nat.le_of_ble_eq_true rfl)) d_Whole_goOnDefining_71 ⟨show (0 + d5) + d71 ≤ dnZ by omega, show (0 + s5) + s71 ≤ dsZ by omega⟩) hS (fun H locs hw hS => ?_)
        obtain ⟨nx71, ex71⟩ : ∃ z, z = nx5 + d71 := ⟨_, rfl⟩
        rw [← ex71] at hw
        try rw [← ex71] at hrun
        replace hcR : ((0 + d5) + d71) + dn71 = dnZ := by omega
        replace hsR : ((0 + s5) + s71) + ds71 = dsZ := by omega
        replace hnR : nx71 + dn71 = nxZ + dnZ := by omega
        clear en71 es71 ex71
        refine lv_aload_n hx hb d_Whole_goOnDefining_74 rfl (lv_at hl 1 rfl) ?_
        replace hrun := hb_some hrun
        obtain ⟨v75, g75, hrun⟩ := hrun
        refine h_getI S (fun w q => hT w (i_Whole w q)) hK (ci := 11) rfl 5 (by decide) (hT _ fl_Whole_39) hw g75 d_Whole_goOnDefining_75 ?_
        replace hrun := hb_some hrun
        obtain ⟨p78, rfl, hrun⟩ := hrun
        replace hrun := hb_some hrun
        obtain ⟨p78_1, rfl, hrun⟩ := hrun
        replace hrun := hb_some hrun
        obtain ⟨c78, k78, hrun⟩ := hrun
        replace hrun := hbW_some hrun
        obtain ⟨v78, h78, g78, hrun⟩ := hrun
        refine h_ci (h_runV S (As := [.int v60, .ref p78_1, .int v75]) (rest := []) (c_Book_enter l D dA b0 n p78 v60 p78_1 v75 nx71 g78) (cwV 3 S.2.2.2.2 (h_good _ (h_in4 ml_Whole_124 im_Book_enter se_Book_enter it_Book) cd_Book_enter) rfl rfl rfl (by decide +kernel) ⟨Nat.le_of_ble_eq_true rfl, Nat.le_of_ble_eq_true rfl⟩) hK hN hw (ci := 3) rfl k78 rfl hl.1 (lv_room (Nat.le_of_ble_eq_true rfl)) d_Whole_goOnDefining_78 ⟨show ((0 + d5) + d71) + 0 ≤ dnZ by omega, show ((0 + s5) + s71) + 0 ≤ dsZ by omega⟩) hS (fun H locs hw hS => ?_)
        refine lv_pop hx hb d_Whole_goOnDefining_81 rfl ?_
        refine lv_aload_n hx hb d_Whole_goOnDefining_82 rfl (lv_at hl 1 rfl) ?_
        replace hrun := hb_some hrun
        obtain ⟨v83, g83, hrun⟩ := hrun
        refine h_getR S (fun w q => hT w (i_Whole w q)) hK (ci := 11) rfl 3 (by decide) (hT _ fl_Whole_26) hw g83 d_Whole_goOnDefining_83 ?_
        replace hrun := hb_some hrun
        obtain ⟨p86, rfl, hrun⟩ := hrun
        replace hrun := hb_some hrun
        obtain ⟨c86, k86, hrun⟩ := hrun
        replace hrun := hbW_some hrun
        obtain ⟨_u86, h86, g86, hrun⟩ := hrun
        refine h_cv (h_runV S (As := []) (rest := []) (c_Definition_leave l D dA b0 p86 nx71 g86) (cwV 0 S.2.2.2.2 (h_good _ (h_in4 ml_Whole_49 im_Definition_leave se_Definition_leave it_Definition) cd_Definition_leave) rfl rfl rfl (by decide +kernel) ⟨Nat.le_of_ble_eq_true rfl, Nat.le_of_ble_eq_true rfl⟩) hK hN hw (ci := 4) rfl k86 rfl hl.1 (lv_room (Nat.le_of_ble_eq_true rfl)) d_Whole_goOnDefining_86 ⟨show ((0 + d5) + d71) + 0 ≤ dnZ by omega, show ((0 + s5) + s71) + 0 ≤ dsZ by omega⟩) hS (fun H locs hw hS => ?_)
        refine lv_aload_n hx hb d_Whole_goOnDefining_89 rfl (lv_at hl 1 rfl) ?_
        replace hrun := hb_some hrun
        obtain ⟨v90, g90, hrun⟩ := hrun
        refine h_getR S (fun w q => hT w (i_Whole w q)) hK (ci := 11) rfl 2 (by decide) (hT _ fl_Whole_19) hw g90 d_Whole_goOnDefining_90 ?_
        refine lv_iconst (v := (0 : Int32)) hx hb d_Whole_goOnDefining_93 (by decide) ?_
        replace hrun := hb_some hrun
        obtain ⟨p94, rfl, hrun⟩ := hrun
        replace hrun := hb_some hrun
        obtain ⟨h94, g94, hrun⟩ := hrun
        refine h_putN S (fun w q => hT w (i_Expander w q)) t_Expander t_Expander_ok n_Expander hK (ci := 5) rfl 13 (by decide) (hN.1 _ nf_Whole_111) rfl rfl rfl hw hS g94 d_Whole_goOnDefining_94 (fun H locs hw hS => ?_)
        refine lv_aload_n hx hb d_Whole_goOnDefining_97 rfl (lv_at hl 1 rfl) ?_
        refine lv_iconst (v := (0 : Int32)) hx hb d_Whole_goOnDefining_98 (by decide) ?_
        replace hrun := hb_some hrun
        obtain ⟨h99, g99, hrun⟩ := hrun
        refine h_put S (fun w q => hT w (i_Whole w q)) t_Whole t_Whole_ok n_Whole hK (ci := 11) rfl 5 (by decide) (hT _ fl_Whole_39) rfl rfl rfl hw hS g99 d_Whole_goOnDefining_99 (fun H locs hw hS => ?_)
        refine lv_aload_n hx hb d_Whole_goOnDefining_102 rfl (lv_at hl 1 rfl) ?_
        replace hrun := hb_some hrun
        obtain ⟨v103, g103, hrun⟩ := hrun
        refine h_getI S (fun w q => hT w (i_Whole w q)) hK (ci := 11) rfl 6 (by decide) (hT _ fl_Whole_43) hw g103 d_Whole_goOnDefining_103 ?_
        refine lv_iconst (v := (-1 : Int32)) hx hb d_Whole_goOnDefining_106 (by decide) ?_
        refine lv_icmp_eq (tgt := 126) hx hb d_Whole_goOnDefining_107 (by decide) (fun c107 => ?_) (fun c107 => ?_)
        · rw [if_pos c107] at hrun
          refine lv_iconst (v := (0 : Int32)) hx hb d_Whole_goOnDefining_126 (by decide) ?_
          cases hrun
          refine W.widen (k := dnZ) (n := dsZ) (by omega) (by omega) ?_
          rw [show nx71 = nxZ + dnZ by omega] at hw
          exact W.iret hx hb hr (fun t ht hW9 => ⟨⟨_, (), rfl, rfl, by show hW D dA classes b0 _ _ t.heap; rw [ht]; exact hw⟩, hS.F ht⟩) hS.2.2 d_Whole_goOnDefining_127
        · rw [if_neg c107] at hrun
          refine lv_aload_n hx hb d_Whole_goOnDefining_110 rfl (lv_at hl 1 rfl) ?_
          replace hrun := hb_some hrun
          obtain ⟨v111, g111, hrun⟩ := hrun
          refine h_getR S (fun w q => hT w (i_Whole w q)) hK (ci := 11) rfl 0 (by decide) (hT _ fl_Whole_9) hw g111 d_Whole_goOnDefining_111 ?_
          refine lv_aload_n hx hb d_Whole_goOnDefining_114 rfl (lv_at hl 1 rfl) ?_
          replace hrun := hb_some hrun
          obtain ⟨v115, g115, hrun⟩ := hrun
          refine h_getI S (fun w q => hT w (i_Whole w q)) hK (ci := 11) rfl 6 (by decide) (hT _ fl_Whole_43) hw g115 d_Whole_goOnDefining_115 ?_
          replace hrun := hb_some hrun
          obtain ⟨p118, rfl, hrun⟩ := hrun
          replace hrun := hb_some hrun
          obtain ⟨c118, k118, hrun⟩ := hrun
          replace hrun := hbW_some hrun
          obtain ⟨_u118, h118, g118, hrun⟩ := hrun
          refine h_cv (h_runV S (As := [.int v115]) (rest := []) (c_Input_put l D dA b0 p118 v115 nx71 g118) (cwV 1 S.2.2.2.2 (h_good _ (h_in4 ml_Whole_128 im_Input_put se_Input_put it_Input) cd_Input_put) rfl rfl rfl (by decide +kernel) ⟨Nat.le_of_ble_eq_true rfl, Nat.le_of_ble_eq_true rfl⟩) hK hN hw (ci := 6) rfl k118 rfl hl.1 (lv_room (Nat.le_of_ble_eq_true rfl)) d_Whole_goOnDefining_118 ⟨show ((0 + d5) + d71) + 0 ≤ dnZ by omega, show ((0 + s5) + s71) + 0 ≤ dsZ by omega⟩) hS (fun H locs hw hS => ?_)
          refine lv_aload_n hx hb d_Whole_goOnDefining_121 rfl (lv_at hl 1 rfl) ?_
          refine lv_iconst (v := (-1 : Int32)) hx hb d_Whole_goOnDefining_122 (by decide) ?_
          replace hrun := hb_some hrun
          obtain ⟨h123, g123, hrun⟩ := hrun
          refine h_put S (fun w q => hT w (i_Whole w q)) t_Whole t_Whole_ok n_Whole hK (ci := 11) rfl 6 (by decide) (hT _ fl_Whole_43) rfl rfl rfl hw hS g123 d_Whole_goOnDefining_123 (fun H locs hw hS => ?_)
          refine lv_iconst (v := (0 : Int32)) hx hb d_Whole_goOnDefining_126 (by decide) ?_
          cases hrun
          refine W.widen (k := dnZ) (n := dsZ) (by omega) (by omega) ?_
          rw [show nx71 = nxZ + dnZ by omega] at hw
          exact W.iret hx hb hr (fun t ht hW9 => ⟨⟨_, (), rfl, rfl, by show hW D dA classes b0 _ _ t.heap; rw [ht]; exact hw⟩, hS.F ht⟩) hS.2.2 d_Whole_goOnDefining_127
      · rw [if_neg c46] at hrun
        refine lv_bipush (v := (8 : Int32)) hx hb d_Whole_goOnDefining_49 (by decide) ?_
        cases hrun
        refine W.widen (k := dnZ) (n := dsZ) (by omega) (by omega) ?_
        rw [show nx5 = nxZ + dnZ by omega] at hw
        exact W.iret hx hb hr (fun t ht hW9 => ⟨⟨_, (), rfl, rfl, by show hW D dA classes b0 _ _ t.heap; rw [ht]; exact hw⟩, hS.F ht⟩) hS.2.2 d_Whole_goOnDefining_51
    · rw [if_pos c34] at hrun
      refine lv_iload_n hx hb d_Whole_goOnDefining_37 rfl (lv_at hl 0 rfl) ?_
      cases hrun
      refine W.widen (k := dnZ) (n := dsZ) (by omega) (by omega) ?_
      rw [show nx5 = nxZ + dnZ by omega] at hw
      exact W.iret hx hb hr (fun t ht hW9 => ⟨⟨_, (), rfl, rfl, by show hW D dA classes b0 _ _ t.heap; rw [ht]; exact hw⟩, hS.F ht⟩) hS.2.2 d_Whole_goOnDefining_38
set_option maxHeartbeats 4000000 in
set_option maxRecDepth 100000 in
theorem c_Kind_markOf (l : Launch) (D : va_G) (dA : Nat → ClassId) (b0 : Nat) (i0 : Int32) (nx : Nat) {h : hH} {r : Int32} (hrun : f_Kind_markOf i0 h = some r) : Met l y_Kind_markOf w_Kind_markOf ({ frames := 0, cells := 0, slots := 0, locals := 0 } : Room) (va_Pc [.int i0] (hB D dA b0 nx h)) (va_Qi (fun r' (_ : Unit) => r' = r) (fun (_ : Unit) t => hW D dA classes b0 nx h t.heap) (hA b0)) 0 0 (hA b0) := by
  refine Met.ofW (cc := b_Kind_markOf) (maxL := 1) (ret := (some .int)) (by decide) rfl ?_
  intro p e s m args below meth c s₁ B hml hv
  obtain ⟨rfl, hw, hK, hN⟩ := hv
  have hx := B.exec
  have hb := B.bytes
  have hr := B.returns
  have hlocks := B.notSynchronized
  have S : CallFix p m c b_Kind_markOf 1 s ([.int i0] : List Value).toArray w_Kind_markOf R_Kind := ⟨hx, hb, hml, findClass_of_methodNamed B.named, atoms_spec (ws := w_Kind_markOf) B.pre⟩
  have hT : ∀ w ∈ tbl, w ∈ w_Kind_markOf := fun _ q => List.mem_cons_of_mem _ q
  have hS : va_S (hA b0) s.heap s.heap [] := va_S.rf
  have hl := lv_entry ([.int i0]) (n := 1) (Nat.le_of_ble_eq_true rfl)
  rw [lg_entry_eq]
  generalize (lg_sl ([.int i0]) ++ List.replicate (1 - (lg_sl ([.int i0])).length) Slot.unset).toArray = ls at hl ⊢
  have hl : lv_has ls 1 [(0, .int i0)] := hl
  unfold f_Kind_markOf at hrun
  refine lv_iload_n hx hb d_Kind_markOf_0 rfl (lv_at hl 0 rfl) ?_
  refine lv_sipush (v := (266 : Int32)) hx hb d_Kind_markOf_1 (by decide) ?_
  refine lv_icmp_ne (tgt := 9) hx hb d_Kind_markOf_4 (by decide) (fun c4 => ?_) (fun c4 => ?_)
  · rw [if_neg c4] at hrun
    refine lv_iload_n hx hb d_Kind_markOf_9 rfl (lv_at hl 0 rfl) ?_
    refine lv_sipush (v := (267 : Int32)) hx hb d_Kind_markOf_10 (by decide) ?_
    refine lv_icmp_ne (tgt := 18) hx hb d_Kind_markOf_13 (by decide) (fun c13 => ?_) (fun c13 => ?_)
    · rw [if_neg c13] at hrun
      refine lv_iload_n hx hb d_Kind_markOf_18 rfl (lv_at hl 0 rfl) ?_
      refine lv_sipush (v := (268 : Int32)) hx hb d_Kind_markOf_19 (by decide) ?_
      refine lv_icmp_ne (tgt := 29) hx hb d_Kind_markOf_22 (by decide) (fun c22 => ?_) (fun c22 => ?_)
      · rw [if_neg c22] at hrun
        refine lv_iconst (v := (0 : Int32)) hx hb d_Kind_markOf_29 (by decide) ?_
        cases hrun
        exact W.iret hx hb hr (fun t ht hW9 => ⟨⟨_, (), rfl, rfl, by show hW D dA classes b0 _ _ t.heap; rw [ht]; exact hw⟩, hS.F ht⟩) hS.2.2 d_Kind_markOf_30
      · rw [if_pos c22] at hrun
        refine lv_iconst (v := (4 : Int32)) hx hb d_Kind_markOf_25 (by decide) ?_
        refine lv_goto (tgt := 30) hx hb d_Kind_markOf_26 (by decide) ?_
        cases hrun
        exact W.iret hx hb hr (fun t ht hW9 => ⟨⟨_, (), rfl, rfl, by show hW D dA classes b0 _ _ t.heap; rw [ht]; exact hw⟩, hS.F ht⟩) hS.2.2 d_Kind_markOf_30
    · rw [if_pos c13] at hrun
      refine lv_iconst (v := (2 : Int32)) hx hb d_Kind_markOf_16 (by decide) ?_
      cases hrun
      exact W.iret hx hb hr (fun t ht hW9 => ⟨⟨_, (), rfl, rfl, by show hW D dA classes b0 _ _ t.heap; rw [ht]; exact hw⟩, hS.F ht⟩) hS.2.2 d_Kind_markOf_17
  · rw [if_pos c4] at hrun
    refine lv_iconst (v := (1 : Int32)) hx hb d_Kind_markOf_7 (by decide) ?_
    cases hrun
    exact W.iret hx hb hr (fun t ht hW9 => ⟨⟨_, (), rfl, rfl, by show hW D dA classes b0 _ _ t.heap; rw [ht]; exact hw⟩, hS.F ht⟩) hS.2.2 d_Kind_markOf_8
set_option maxHeartbeats 4000000 in
set_option maxRecDepth 100000 in
theorem c_Definition_begin (l : Launch) (D : va_G) (dA : Nat → ClassId) (b0 : Nat) (n : Nat) (a0 : Nat) (i1 : Int32) (nx : Nat) {h h' : hH} {r : Unit} (hrun : f_Definition_begin n a0 i1 h = some (r, h')) : Met l y_Definition_begin w_Definition_begin ({ frames := 1, cells := 0, slots := 0, locals := 20 } : Room) (va_Pc [.ref a0, .int i1] (hB D dA b0 nx h)) (va_Qv (fun (_ : Unit) => True) (fun (_ : Unit) t => hW D dA classes b0 nx h' t.heap) (hA b0)) 0 0 (hA b0) := by
  refine Met.ofW (cc := b_Definition_begin) (maxL := 3) (ret := none) (by decide) rfl ?_
  intro p e s m args below meth c s₁ B hml hv
  obtain ⟨rfl, hw, hK, hN⟩ := hv
  have hx := B.exec
  have hb := B.bytes
  have hr := B.returns
  have hlocks := B.notSynchronized
  have S : CallFix p m c b_Definition_begin 3 s ([.ref a0, .int i1] : List Value).toArray w_Definition_begin R_Definition := ⟨hx, hb, hml, findClass_of_methodNamed B.named, atoms_spec (ws := w_Definition_begin) B.pre⟩
  have hT : ∀ w ∈ tbl, w ∈ w_Definition_begin := fun _ q => List.mem_cons_of_mem _ q
  have hS : va_S (hA b0) s.heap s.heap [] := va_S.rf
  have hl := lv_entry ([.ref a0, .int i1]) (n := 3) (Nat.le_of_ble_eq_true rfl)
  rw [lg_entry_eq]
  generalize (lg_sl ([.ref a0, .int i1]) ++ List.replicate (3 - (lg_sl ([.ref a0, .int i1])).length) Slot.unset).toArray = ls at hl ⊢
  have hl : lv_has ls 3 [(0, .ref a0), (1, .int i1)] := hl
  have l_2 : ∀ (x1 : Int32) (n9 : Nat) (x9 : Int32) (h : hH) (b9 : (Unit)) (h9 : hH) (H : Heap) (locs : List Loc) (ls : Array Slot), hloopW (f_Definition_begin_b2 n a0 x1) n9 x9 h = some (b9, h9) → hW D dA classes b0 nx h H → va_S (hA b0) s.heap H locs → lv_has ls 3 (match x9 with | x2 => [(0, .ref a0), (1, .int x1), (2, .int x2)]) → (b9 = () → ∀ (H : Heap) (locs : List Loc) (ls : Array Slot), hW D dA classes b0 nx h9 H → va_S (hA b0) s.heap H locs → lv_has ls 3 [(0, .ref a0), (1, .int x1)] → W p l e (headSpec w_Definition_begin ({ frames := 1, cells := 0, slots := 0, locals := 20 } : Room)).room s m ([.ref a0, .int i1] : List Value).toArray below meth c H locs 0 0 (MQ below (va_Qv (fun (_ : Unit) => True) (fun (_ : Unit) t => hW D dA classes b0 nx h' t.heap) (hA b0)) ([.ref a0, .int i1] : List Value).toArray s 0 0 (hA b0)) (F0 m 26 ls [])) → W p l e (headSpec w_Definition_begin ({ frames := 1, cells := 0, slots := 0, locals := 20 } : Room)).room s m ([.ref a0, .int i1] : List Value).toArray below meth c H locs 0 0 (MQ below (va_Qv (fun (_ : Unit) => True) (fun (_ : Unit) t => hW D dA classes b0 nx h' t.heap) (hA b0)) ([.ref a0, .int i1] : List Value).toArray s 0 0 (hA b0)) (F0 m 2 ls []) := by
    intro x1 n9
    induction n9 with
    | zero =>
      intro x9 h b9 h9 H locs ls hrun
      cases hrun
    | succ n9 ih =>
      rintro x2 h b9 h9 H locs ls hrun hw hS hl k0
      have hl : lv_has ls 3 [(0, .ref a0), (1, .int x1), (2, .int x2)] := hl
      unfold hloopW at hrun
      obtain ⟨q9, h9b, hbody, hrun9⟩ := hbW_some hrun
      have K0 : (∀ (z2 : Int32), q9 = .inl z2 → ∀ (H : Heap) (locs : List Loc) (ls : Array Slot), hW D dA classes b0 nx h9b H → va_S (hA b0) s.heap H locs → lv_has ls 3 [(0, .ref a0), (1, .int x1), (2, .int z2)] → W p l e (headSpec w_Definition_begin ({ frames := 1, cells := 0, slots := 0, locals := 20 } : Room)).room s m ([.ref a0, .int i1] : List Value).toArray below meth c H locs 0 0 (MQ below (va_Qv (fun (_ : Unit) => True) (fun (_ : Unit) t => hW D dA classes b0 nx h' t.heap) (hA b0)) ([.ref a0, .int i1] : List Value).toArray s 0 0 (hA b0)) (F0 m 2 ls [])) := by
        intro z2 eq9 H locs ls hw hS hl
        subst eq9
        exact ih z2 h9b b9 h9 H locs ls hrun9 hw hS hl k0
      have K1 : (q9 = .inr () → ∀ (H : Heap) (locs : List Loc) (ls : Array Slot), hW D dA classes b0 nx h9b H → va_S (hA b0) s.heap H locs → lv_has ls 3 [(0, .ref a0), (1, .int x1)] → W p l e (headSpec w_Definition_begin ({ frames := 1, cells := 0, slots := 0, locals := 20 } : Room)).room s m ([.ref a0, .int i1] : List Value).toArray below meth c H locs 0 0 (MQ below (va_Qv (fun (_ : Unit) => True) (fun (_ : Unit) t => hW D dA classes b0 nx h' t.heap) (hA b0)) ([.ref a0, .int i1] : List Value).toArray s 0 0 (hA b0)) (F0 m 26 ls [])) := by
        intro  eq9 H locs ls hw hS hl
        subst eq9
        cases hrun9
        exact k0  rfl H locs ls hw hS hl
      clear hrun hrun9 ih k0
      have hrun := hbody
      clear hbody
      dsimp only [f_Definition_begin_b2] at hrun
      refine lv_iload_n hx hb d_Definition_begin_2 rfl (lv_at hl 2 rfl) ?_
      refine lv_aload_n hx hb d_Definition_begin_3 rfl (lv_at hl 0 rfl) ?_
      replace hrun := hb_some hrun
      obtain ⟨v4, g4, hrun⟩ := hrun
      refine h_getR S (fun w q => hT w (i_Definition w q)) hK (ci := 4) rfl 0 (by decide) (hT _ fl_Definition_11) hw g4 d_Definition_begin_4 ?_
      replace hrun := hb_some hrun
      obtain ⟨p7, rfl, hrun⟩ := hrun
      replace hrun := hb_some hrun
      obtain ⟨v7, g7, hrun⟩ := hrun
      refine h_alen S hK (kd := 3) rfl hw g7 d_Definition_begin_7 ?_
      refine lv_icmp_ge (tgt := 26) hx hb d_Definition_begin_8 (by decide) (fun c8 => ?_) (fun c8 => ?_)
      · rw [if_pos c8] at hrun
        cases hrun
        exact K1  rfl H locs ls hw hS (lv_sub hl [0, 1] rfl)
      · rw [if_neg c8] at hrun
        refine lv_aload_n hx hb d_Definition_begin_11 rfl (lv_at hl 0 rfl) ?_
        replace hrun := hb_some hrun
        obtain ⟨v12, g12, hrun⟩ := hrun
        refine h_getR S (fun w q => hT w (i_Definition w q)) hK (ci := 4) rfl 0 (by decide) (hT _ fl_Definition_11) hw g12 d_Definition_begin_12 ?_
        refine lv_iload_n hx hb d_Definition_begin_15 rfl (lv_at hl 2 rfl) ?_
        replace hrun := hb_some hrun
        obtain ⟨p16, rfl, hrun⟩ := hrun
        replace hrun := hb_some hrun
        obtain ⟨v16, g16, hrun⟩ := hrun
        refine h_aald S hK (kd := 3) rfl hw g16 d_Definition_begin_16 ?_
        replace hrun := hb_some hrun
        obtain ⟨p17, rfl, hrun⟩ := hrun
        replace hrun := hb_some hrun
        obtain ⟨c17, k17, hrun⟩ := hrun
        replace hrun := hbW_some hrun
        obtain ⟨_u17, h17, g17, hrun⟩ := hrun
        refine h_cv (h_runV S (As := []) (rest := []) (c_Row_clear l D dA b0 p17 nx g17) (cwV 0 S.2.2.2.2 (h_good _ (h_in4 ml_Definition_28 im_Row_clear se_Row_clear it_Row) cd_Row_clear) rfl rfl rfl (by decide +kernel) ⟨Nat.le_of_ble_eq_true rfl, Nat.le_of_ble_eq_true rfl⟩) hK hN hw (ci := 8) rfl k17 rfl hl.1 (lv_room (Nat.le_of_ble_eq_true rfl)) d_Definition_begin_17 ⟨Nat.le_refl _, Nat.le_refl _⟩) hS (fun H locs hw hS => ?_)
        refine lv_iinc (v := (x2 + (1 : Int32))) (lv' := [(2, .int (x2 + (1 : Int32))), (0, .ref a0), (1, .int x1)]) hx hb d_Definition_begin_20 hl (k := 2) rfl rfl (by decide) rfl (fun ls hl => ?_)
        refine lv_goto (tgt := 2) hx hb d_Definition_begin_23 (by decide) ?_
        cases hrun
        exact K0 (x2 + (1 : Int32)) rfl H locs ls hw hS (lv_sub hl [1, 2, 0] rfl)
  unfold f_Definition_begin at hrun
  refine lv_iconst (v := (0 : Int32)) hx hb d_Definition_begin_0 (by decide) ?_
  refine lv_istore_n (lv' := [(2, .int (0 : Int32)), (0, .ref a0), (1, .int i1)]) hx hb d_Definition_begin_1 rfl hl (by decide) rfl (fun ls hl => ?_)
  replace hrun := hbW_some hrun
  obtain ⟨b2, h2l, g2, hrun⟩ := hrun
  refine l_2 i1 n (0 : Int32) h _ _ _ _ _ g2 hw hS (lv_sub hl [1, 2, 0] rfl) ?_
  · rintro  eq9 H locs ls hw hS hl
    obtain rfl := eq9.symm
    try dsimp only at hrun
    refine lv_aload_n hx hb d_Definition_begin_26 rfl (lv_at hl 0 rfl) ?_
    replace hrun := hb_some hrun
    obtain ⟨v27, g27, hrun⟩ := hrun
    refine h_getR S (fun w q => hT w (i_Definition w q)) hK (ci := 4) rfl 1 (by decide) (hT _ fl_Definition_20) hw g27 d_Definition_begin_27 ?_
    replace hrun := hb_some hrun
    obtain ⟨p30, rfl, hrun⟩ := hrun
    replace hrun := hb_some hrun
    obtain ⟨c30, k30, hrun⟩ := hrun
    replace hrun := hbW_some hrun
    obtain ⟨_u30, h30, g30, hrun⟩ := hrun
    refine h_cv (h_runV S (As := []) (rest := []) (c_Row_clear l D dA b0 p30 nx g30) (cwV 0 S.2.2.2.2 (h_good _ (h_in4 ml_Definition_28 im_Row_clear se_Row_clear it_Row) cd_Row_clear) rfl rfl rfl (by decide +kernel) ⟨Nat.le_of_ble_eq_true rfl, Nat.le_of_ble_eq_true rfl⟩) hK hN hw (ci := 8) rfl k30 rfl hl.1 (lv_room (Nat.le_of_ble_eq_true rfl)) d_Definition_begin_30 ⟨Nat.le_refl _, Nat.le_refl _⟩) hS (fun H locs hw hS => ?_)
    refine lv_aload_n hx hb d_Definition_begin_33 rfl (lv_at hl 0 rfl) ?_
    refine lv_iconst (v := (1 : Int32)) hx hb d_Definition_begin_34 (by decide) ?_
    replace hrun := hb_some hrun
    obtain ⟨h35, g35, hrun⟩ := hrun
    refine h_put S (fun w q => hT w (i_Definition w q)) t_Definition t_Definition_ok n_Definition hK (ci := 4) rfl 2 (by decide) (hT _ fl_Definition_24) rfl rfl rfl hw hS g35 d_Definition_begin_35 (fun H locs hw hS => ?_)
    refine lv_aload_n hx hb d_Definition_begin_38 rfl (lv_at hl 0 rfl) ?_
    refine lv_iload_n hx hb d_Definition_begin_39 rfl (lv_at hl 1 rfl) ?_
    replace hrun := hb_some hrun
    obtain ⟨h40, g40, hrun⟩ := hrun
    obtain ⟨n40, f40, g40⟩ := hpZ_spec g40
    refine h_put S (fun w q => hT w (i_Definition w q)) t_Definition t_Definition_ok n_Definition hK (ci := 4) rfl 3 (by decide) (hT _ fl_Definition_31) rfl n40 f40 hw hS g40 d_Definition_begin_40 (fun H locs hw hS => ?_)
    refine lv_aload_n hx hb d_Definition_begin_43 rfl (lv_at hl 0 rfl) ?_
    refine lv_iconst (v := (0 : Int32)) hx hb d_Definition_begin_44 (by decide) ?_
    replace hrun := hb_some hrun
    obtain ⟨h45, g45, hrun⟩ := hrun
    refine h_put S (fun w q => hT w (i_Definition w q)) t_Definition t_Definition_ok n_Definition hK (ci := 4) rfl 4 (by decide) (hT _ fl_Definition_35) rfl rfl rfl hw hS g45 d_Definition_begin_45 (fun H locs hw hS => ?_)
    refine lv_aload_n hx hb d_Definition_begin_48 rfl (lv_at hl 0 rfl) ?_
    refine lv_iconst (v := (0 : Int32)) hx hb d_Definition_begin_49 (by decide) ?_
    replace hrun := hb_some hrun
    obtain ⟨h50, g50, hrun⟩ := hrun
    refine h_put S (fun w q => hT w (i_Definition w q)) t_Definition t_Definition_ok n_Definition hK (ci := 4) rfl 5 (by decide) (hT _ fl_Definition_38) rfl rfl rfl hw hS g50 d_Definition_begin_50 (fun H locs hw hS => ?_)
    refine lv_aload_n hx hb d_Definition_begin_53 rfl (lv_at hl 0 rfl) ?_
    refine lv_iconst (v := (1 : Int32)) hx hb d_Definition_begin_54 (by decide) ?_
    replace hrun := hb_some hrun
    obtain ⟨h55, g55, hrun⟩ := hrun
    refine h_put S (fun w q => hT w (i_Definition w q)) t_Definition t_Definition_ok n_Definition hK (ci := 4) rfl 6 (by decide) (hT _ fl_Definition_41) rfl rfl rfl hw hS g55 d_Definition_begin_55 (fun H locs hw hS => ?_)
    cases hrun
    exact W.vret hx hb hr (fun t ht hW9 => ⟨⟨(), rfl, trivial, by show hW D dA classes b0 _ _ t.heap; rw [ht]; exact hw⟩, hS.F ht⟩) hS.2.2 d_Definition_begin_58
set_option maxHeartbeats 4000000 in
set_option maxRecDepth 100000 in
theorem c_Whole_takeLater (l : Launch) (D : va_G) (dA : Nat → ClassId) (b0 : Nat) (a0 : Nat) (nx : Nat) {h h' : hH} {r : Int32} (hrun : f_Whole_takeLater a0 h = some (r, h')) : Met l y_Whole_takeLater w_Whole_takeLater ({ frames := 1, cells := 0, slots := 0, locals := 20 } : Room) (va_Pc [.ref a0] (hB D dA b0 nx h)) (va_Qi (fun r' (_ : Unit) => r' = r) (fun (_ : Unit) t => hW D dA classes b0 nx h' t.heap) (hA b0)) 0 0 (hA b0) := by
  refine Met.ofW (cc := b_Whole_takeLater) (maxL := 1) (ret := (some .int)) (by decide) rfl ?_
  intro p e s m args below meth c s₁ B hml hv
  obtain ⟨rfl, hw, hK, hN⟩ := hv
  have hx := B.exec
  have hb := B.bytes
  have hr := B.returns
  have hlocks := B.notSynchronized
  have S : CallFix p m c b_Whole_takeLater 1 s ([.ref a0] : List Value).toArray w_Whole_takeLater R_Whole := ⟨hx, hb, hml, findClass_of_methodNamed B.named, atoms_spec (ws := w_Whole_takeLater) B.pre⟩
  have hT : ∀ w ∈ tbl, w ∈ w_Whole_takeLater := fun _ q => List.mem_cons_of_mem _ q
  have hS : va_S (hA b0) s.heap s.heap [] := va_S.rf
  have hl := lv_entry ([.ref a0]) (n := 1) (Nat.le_of_ble_eq_true rfl)
  rw [lg_entry_eq]
  generalize (lg_sl ([.ref a0]) ++ List.replicate (1 - (lg_sl ([.ref a0])).length) Slot.unset).toArray = ls at hl ⊢
  have hl : lv_has ls 1 [(0, .ref a0)] := hl
  unfold f_Whole_takeLater at hrun
  refine lv_aload_n hx hb d_Whole_takeLater_0 rfl (lv_at hl 0 rfl) ?_
  replace hrun := hb_some hrun
  obtain ⟨v1, g1, hrun⟩ := hrun
  refine h_getR S (fun w q => hT w (i_Whole w q)) hK (ci := 11) rfl 0 (by decide) (hT _ fl_Whole_9) hw g1 d_Whole_takeLater_1 ?_
  replace hrun := hb_some hrun
  obtain ⟨p4, rfl, hrun⟩ := hrun
  replace hrun := hb_some hrun
  obtain ⟨c4, k4, hrun⟩ := hrun
  replace hrun := hb_some hrun
  obtain ⟨v4, g4, hrun⟩ := hrun
  refine h_ci (h_runV S (As := []) (rest := []) (c_Input_isEmpty l D dA b0 p4 nx g4) (cwV 0 S.2.2.2.2 (h_good _ (h_in4 ml_Whole_53 im_Input_isEmpty se_Input_isEmpty it_Input) cd_Input_isEmpty) rfl rfl rfl (by decide +kernel) ⟨Nat.le_of_ble_eq_true rfl, Nat.le_of_ble_eq_true rfl⟩) hK hN hw (ci := 6) rfl k4 rfl hl.1 (lv_room (Nat.le_of_ble_eq_true rfl)) d_Whole_takeLater_4 ⟨Nat.le_refl _, Nat.le_refl _⟩) hS (fun H locs hw hS => ?_)
  refine lv_if_eq (tgt := 12) hx hb d_Whole_takeLater_7 (by decide) (fun c7 => ?_) (fun c7 => ?_)
  · rw [if_pos c7] at hrun
    refine lv_aload_n hx hb d_Whole_takeLater_12 rfl (lv_at hl 0 rfl) ?_
    refine lv_aload_n hx hb d_Whole_takeLater_13 rfl (lv_at hl 0 rfl) ?_
    replace hrun := hb_some hrun
    obtain ⟨v14, g14, hrun⟩ := hrun
    refine h_getR S (fun w q => hT w (i_Whole w q)) hK (ci := 11) rfl 0 (by decide) (hT _ fl_Whole_9) hw g14 d_Whole_takeLater_14 ?_
    replace hrun := hb_some hrun
    obtain ⟨p17, rfl, hrun⟩ := hrun
    replace hrun := hb_some hrun
    obtain ⟨c17, k17, hrun⟩ := hrun
    replace hrun := hbW_some hrun
    obtain ⟨v17, h17, g17, hrun⟩ := hrun
    refine h_ci (h_runV S (As := []) (rest := [.ref a0]) (c_Input_take l D dA b0 p17 nx g17) (cwV 0 S.2.2.2.2 (h_good _ (h_in4 ml_Whole_102 im_Input_take se_Input_take it_Input) cd_Input_take) rfl rfl rfl (by decide +kernel) ⟨Nat.le_of_ble_eq_true rfl, Nat.le_of_ble_eq_true rfl⟩) hK hN hw (ci := 6) rfl k17 rfl hl.1 (lv_room (Nat.le_of_ble_eq_true rfl)) d_Whole_takeLater_17 ⟨Nat.le_refl _, Nat.le_refl _⟩) hS (fun H locs hw hS => ?_)
    replace hrun := hb_some hrun
    obtain ⟨h20, g20, hrun⟩ := hrun
    refine h_put S (fun w q => hT w (i_Whole w q)) t_Whole t_Whole_ok n_Whole hK (ci := 11) rfl 6 (by decide) (hT _ fl_Whole_43) rfl rfl rfl hw hS g20 d_Whole_takeLater_20 (fun H locs hw hS => ?_)
    refine lv_iconst (v := (0 : Int32)) hx hb d_Whole_takeLater_23 (by decide) ?_
    cases hrun
    exact W.iret hx hb hr (fun t ht hW9 => ⟨⟨_, (), rfl, rfl, by show hW D dA classes b0 _ _ t.heap; rw [ht]; exact hw⟩, hS.F ht⟩) hS.2.2 d_Whole_takeLater_24
  · rw [if_neg c7] at hrun
    refine lv_iconst (v := (1 : Int32)) hx hb d_Whole_takeLater_10 (by decide) ?_
    cases hrun
    exact W.iret hx hb hr (fun t ht hW9 => ⟨⟨_, (), rfl, rfl, by show hW D dA classes b0 _ _ t.heap; rw [ht]; exact hw⟩, hS.F ht⟩) hS.2.2 d_Whole_takeLater_11
