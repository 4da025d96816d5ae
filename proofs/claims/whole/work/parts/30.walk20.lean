set_option maxHeartbeats 4000000 in
set_option maxRecDepth 100000 in
theorem c_Whole_carryOut (l : Launch) (D : va_G) (dA : Nat → ClassId) (b0 : Nat) (n : Nat) (a0 : Nat) (i1 : Int32) (nxZ : Nat) {h h' : hH} {r : Int32} {dnZ dsZ : Nat} (hrun : f_Whole_carryOut n a0 i1 nxZ h = some (r, dnZ, dsZ, h')) : Met l y_Whole_carryOut w_Whole_carryOut ({ frames := 3, cells := dnZ, slots := dsZ, locals := 91 } : Room) (va_Pc [.ref a0, .int i1] (hB D dA b0 nxZ h)) (va_Qi (fun r' (_ : Unit) => r' = r) (fun (_ : Unit) t => hW D dA classes b0 (nxZ + dnZ) h' t.heap) (hA b0)) dnZ dsZ (hA b0) := by
  refine Met.ofW (cc := b_Whole_carryOut) (maxL := 3) (ret := (some .int)) (by decide) rfl ?_
  intro p e s m args below meth c s₁ B hml hv
  obtain ⟨rfl, hw, hK, hN⟩ := hv
  have hx := B.exec
  have hb := B.bytes
  have hr := B.returns
  have hlocks := B.notSynchronized
  have S : CallFix p m c b_Whole_carryOut 3 s ([.ref a0, .int i1] : List Value).toArray w_Whole_carryOut R_Whole := ⟨hx, hb, hml, findClass_of_methodNamed B.named, atoms_spec (ws := w_Whole_carryOut) B.pre⟩
  have hT : ∀ w ∈ tbl, w ∈ w_Whole_carryOut := fun _ q => List.mem_cons_of_mem _ q
  have hS : va_S (hA b0) s.heap s.heap [] := va_S.rf
  have hl := lv_entry ([.ref a0, .int i1]) (n := 3) (Nat.le_of_ble_eq_true rfl)
  rw [lg_entry_eq]
  generalize (lg_sl ([.ref a0, .int i1]) ++ List.replicate (3 - (lg_sl ([.ref a0, .int i1])).length) Slot.unset).toArray = ls at hl ⊢
  have hl : lv_has ls 3 [(0, .ref a0), (1, .int i1)] := hl
  obtain ⟨dn, edn⟩ : ∃ z, z = dnZ := ⟨_, rfl⟩
  obtain ⟨ds, eds⟩ : ∃ z, z = dsZ := ⟨_, rfl⟩
  obtain ⟨nx, enx⟩ : ∃ z, z = nxZ := ⟨_, rfl⟩
  rw [← edn, ← eds, ← enx] at hrun
  rw [← enx] at hw
  have hcR : 0 + dn = dnZ := by omega
  have hsR : 0 + ds = dsZ := by omega
  have hnR : nx + dn = nxZ + dnZ := by omega
  clear edn eds enx
  have j_51 : ∀  (y0 : Option Nat) (y1 : Int32) (cells slots dn ds nx : Nat) (h : hH) (H : Heap) (locs : List Loc) (ls : Array Slot), f_Whole_carryOut_j51 n y0 y1 nx h = some (r, dn, ds, h') → cells + dn = dnZ → slots + ds = dsZ → nx + dn = nxZ + dnZ → hW D dA classes b0 nx h H → va_S (hA b0) s.heap H locs → lv_has ls 3 [] → W p l e (headSpec w_Whole_carryOut ({ frames := 3, cells := dnZ, slots := dsZ, locals := 91 } : Room)).room s m ([.ref a0, .int i1] : List Value).toArray below meth c H locs cells slots (MQ below (va_Qi (fun r' (_ : Unit) => r' = r) (fun (_ : Unit) t => hW D dA classes b0 (nxZ + dnZ) h' t.heap) (hA b0)) ([.ref a0, .int i1] : List Value).toArray s dnZ dsZ (hA b0)) (F0 m 51 ls [.int y1, va_rf y0]) := by
    intro y0 y1 cells slots dn ds nx h H locs ls hrun hcR hsR hnR hw hS hl
    unfold f_Whole_carryOut_j51 at hrun
    replace hrun := hb_some hrun
    obtain ⟨p51, rfl, hrun⟩ := hrun
    replace hrun := hb_some hrun
    obtain ⟨c51, k51, hrun⟩ := hrun
    replace hrun := hbW_some hrun
    obtain ⟨_u51, h51, g51, hrun⟩ := hrun
    refine h_cv (h_runV S (As := [.int y1]) (rest := []) (c_Definition_begin l D dA b0 n p51 y1 nx g51) (cwV 1 S.2.2.2.2 (h_good _ (h_in4 ml_Whole_89 im_Definition_begin se_Definition_begin it_Definition) cd_Definition_begin) rfl rfl rfl (by decide +kernel) ⟨Nat.le_of_ble_eq_true rfl, Nat.le_of_ble_eq_true rfl⟩) hK hN hw (ci := 4) rfl k51 rfl hl.1 (lv_room (Nat.le_of_ble_eq_true rfl)) d_Whole_carryOut_51 ⟨show cells + 0 ≤ dnZ by omega, show slots + 0 ≤ dsZ by omega⟩) hS (fun H locs hw hS => ?_)
    refine lv_iconst (v := (0 : Int32)) hx hb d_Whole_carryOut_54 (by decide) ?_
    cases hrun
    refine W.widen (k := dnZ) (n := dsZ) (by omega) (by omega) ?_
    rw [show nx = nxZ + dnZ by omega] at hw
    exact W.iret hx hb hr (fun t ht hW9 => ⟨⟨_, (), rfl, rfl, by show hW D dA classes b0 _ _ t.heap; rw [ht]; exact hw⟩, hS.F ht⟩) hS.2.2 d_Whole_carryOut_55
  have j_35 : ∀  (x1 : Int32) (cells slots dn ds nx : Nat) (h : hH) (H : Heap) (locs : List Loc) (ls : Array Slot), f_Whole_carryOut_j35 n a0 x1 nx h = some (r, dn, ds, h') → cells + dn = dnZ → slots + ds = dsZ → nx + dn = nxZ + dnZ → hW D dA classes b0 nx h H → va_S (hA b0) s.heap H locs → lv_has ls 3 [(0, .ref a0), (1, .int x1)] → W p l e (headSpec w_Whole_carryOut ({ frames := 3, cells := dnZ, slots := dsZ, locals := 91 } : Room)).room s m ([.ref a0, .int i1] : List Value).toArray below meth c H locs cells slots (MQ below (va_Qi (fun r' (_ : Unit) => r' = r) (fun (_ : Unit) t => hW D dA classes b0 (nxZ + dnZ) h' t.heap) (hA b0)) ([.ref a0, .int i1] : List Value).toArray s dnZ dsZ (hA b0)) (F0 m 35 ls []) := by
    intro x1 cells slots dn ds nx h H locs ls hrun hcR hsR hnR hw hS hl
    unfold f_Whole_carryOut_j35 at hrun
    refine lv_aload_n hx hb d_Whole_carryOut_35 rfl (lv_at hl 0 rfl) ?_
    replace hrun := hb_some hrun
    obtain ⟨v36, g36, hrun⟩ := hrun
    refine h_getR S (fun w q => hT w (i_Whole w q)) hK (ci := 11) rfl 3 (by decide) (hT _ fl_Whole_26) hw g36 d_Whole_carryOut_36 ?_
    refine lv_iload_n hx hb d_Whole_carryOut_39 rfl (lv_at hl 1 rfl) ?_
    refine lv_sipush (v := (265 : Int32)) hx hb d_Whole_carryOut_40 (by decide) ?_
    refine lv_icmp_ne (tgt := 50) hx hb d_Whole_carryOut_43 (by decide) (fun c43 => ?_) (fun c43 => ?_)
    · rw [if_neg c43] at hrun
      refine lv_iconst (v := (0 : Int32)) hx hb d_Whole_carryOut_50 (by decide) ?_
      exact j_51 v36 (0 : Int32) cells slots _ _ nx h _ _ _ hrun hcR hsR hnR hw hS (lv_sub hl [] rfl)
    · rw [if_pos c43] at hrun
      refine lv_iconst (v := (1 : Int32)) hx hb d_Whole_carryOut_46 (by decide) ?_
      refine lv_goto (tgt := 51) hx hb d_Whole_carryOut_47 (by decide) ?_
      exact j_51 v36 (1 : Int32) cells slots _ _ nx h _ _ _ hrun hcR hsR hnR hw hS (lv_sub hl [] rfl)
  unfold f_Whole_carryOut at hrun
  refine lv_iload_n hx hb d_Whole_carryOut_0 rfl (lv_at hl 1 rfl) ?_
  replace hrun := hb_some hrun
  obtain ⟨v1, g1, hrun⟩ := hrun
  refine h_ci (h_runS S (As := [.int i1]) (rest := []) (c_Kind_markOf l D dA b0 i1 nx g1) (va_cwS 1 S.2.2.2.2 (h_good _ (h_in3 ml_Whole_84 sm_Kind_markOf it_Kind) cd_Kind_markOf) rfl rfl rfl (by decide +kernel) ⟨Nat.le_of_ble_eq_true rfl, Nat.le_of_ble_eq_true rfl⟩) hK hN hw rfl hl.1 (lv_room (Nat.le_of_ble_eq_true rfl)) d_Whole_carryOut_1 ⟨show 0 + 0 ≤ dnZ by omega, show 0 + 0 ≤ dsZ by omega⟩) hS (fun H locs hw hS => ?_)
  refine lv_istore_n (lv' := [(2, .int v1), (0, .ref a0), (1, .int i1)]) hx hb d_Whole_carryOut_4 rfl hl (by decide) rfl (fun ls hl => ?_)
  refine lv_iload_n hx hb d_Whole_carryOut_5 rfl (lv_at hl 0 rfl) ?_
  refine lv_if_eq (tgt := 21) hx hb d_Whole_carryOut_6 (by decide) (fun c6 => ?_) (fun c6 => ?_)
  · rw [if_pos c6] at hrun
    refine lv_iload_n hx hb d_Whole_carryOut_21 rfl (lv_at hl 2 rfl) ?_
    refine lv_sipush (v := (264 : Int32)) hx hb d_Whole_carryOut_22 (by decide) ?_
    refine lv_icmp_eq (tgt := 35) hx hb d_Whole_carryOut_25 (by decide) (fun c25 => ?_) (fun c25 => ?_)
    · rw [if_pos c25] at hrun
      exact j_35 i1 0 0 _ _ nx h _ _ _ hrun hcR hsR hnR hw hS (lv_sub hl [1, 2] rfl)
    · rw [if_neg c25] at hrun
      refine lv_iload_n hx hb d_Whole_carryOut_28 rfl (lv_at hl 2 rfl) ?_
      refine lv_sipush (v := (265 : Int32)) hx hb d_Whole_carryOut_29 (by decide) ?_
      refine lv_icmp_ne (tgt := 56) hx hb d_Whole_carryOut_32 (by decide) (fun c32 => ?_) (fun c32 => ?_)
      · rw [if_neg c32] at hrun
        refine lv_aload_n hx hb d_Whole_carryOut_56 rfl (lv_at hl 1 rfl) ?_
        replace hrun := hb_some hrun
        obtain ⟨v57, g57, hrun⟩ := hrun
        refine h_getI S (fun w q => hT w (i_Whole w q)) hK (ci := 11) rfl 5 (by decide) (hT _ fl_Whole_39) hw g57 d_Whole_carryOut_57 ?_
        refine lv_if_eq (tgt := 66) hx hb d_Whole_carryOut_60 (by decide) (fun c60 => ?_) (fun c60 => ?_)
        · rw [if_pos c60] at hrun
          refine lv_iload_n hx hb d_Whole_carryOut_66 rfl (lv_at hl 2 rfl) ?_
          refine lv_sipush (v := (269 : Int32)) hx hb d_Whole_carryOut_67 (by decide) ?_
          refine lv_icmp_ne (tgt := 78) hx hb d_Whole_carryOut_70 (by decide) (fun c70 => ?_) (fun c70 => ?_)
          · rw [if_neg c70] at hrun
            refine lv_aload_n hx hb d_Whole_carryOut_78 rfl (lv_at hl 1 rfl) ?_
            replace hrun := hb_some hrun
            obtain ⟨v79, g79, hrun⟩ := hrun
            refine h_getR S (fun w q => hT w (i_Whole w q)) hK (ci := 11) rfl 4 (by decide) (hT _ fl_Whole_35) hw g79 d_Whole_carryOut_79 ?_
            replace hrun := hb_some hrun
            obtain ⟨p82, rfl, hrun⟩ := hrun
            replace hrun := hb_some hrun
            obtain ⟨c82, k82, hrun⟩ := hrun
            replace hrun := hb_some hrun
            obtain ⟨v82, g82, hrun⟩ := hrun
            refine h_ci (h_runV S (As := []) (rest := []) (c_Row_isFull l D dA b0 p82 nx g82) (cwV 0 S.2.2.2.2 (h_good _ (h_in4 ml_Whole_96 im_Row_isFull se_Row_isFull it_Row) cd_Row_isFull) rfl rfl rfl (by decide +kernel) ⟨Nat.le_of_ble_eq_true rfl, Nat.le_of_ble_eq_true rfl⟩) hK hN hw (ci := 8) rfl k82 rfl hl.1 (lv_room (Nat.le_of_ble_eq_true rfl)) d_Whole_carryOut_82 ⟨show 0 + 0 ≤ dnZ by omega, show 0 + 0 ≤ dsZ by omega⟩) hS (fun H locs hw hS => ?_)
            refine lv_if_eq (tgt := 91) hx hb d_Whole_carryOut_85 (by decide) (fun c85 => ?_) (fun c85 => ?_)
            · rw [if_pos c85] at hrun
              refine lv_aload_n hx hb d_Whole_carryOut_91 rfl (lv_at hl 1 rfl) ?_
              replace hrun := hb_some hrun
              obtain ⟨v92, g92, hrun⟩ := hrun
              refine h_getR S (fun w q => hT w (i_Whole w q)) hK (ci := 11) rfl 4 (by decide) (hT _ fl_Whole_35) hw g92 d_Whole_carryOut_92 ?_
              refine lv_iload_n hx hb d_Whole_carryOut_95 rfl (lv_at hl 2 rfl) ?_
              replace hrun := hb_some hrun
              obtain ⟨p96, rfl, hrun⟩ := hrun
              replace hrun := hb_some hrun
              obtain ⟨c96, k96, hrun⟩ := hrun
              replace hrun := hbind_some hrun
              obtain ⟨_u96, d96, s96, h96, dn96, ds96, g96, hrun, en96, es96⟩ := hrun
              refine h_cv (h_runV S (As := [.int i1]) (rest := []) (c_Row_add l D dA b0 p96 i1 nx g96) (cwV 1 S.2.2.2.2 (h_good _ (h_in4 ml_Whole_99 im_Row_add se_Row_add it_Row) cd_Row_add) rfl rfl rfl (by decide +kernel) ⟨Nat.le_of_ble_eq_true rfl, Nat.le_of_ble_eq_true rfl⟩) hK hN hw (ci := 8) rfl k96 rfl hl.1 (lv_room (Nat.le_of_ble_eq_true rfl)) d_Whole_carryOut_96 ⟨show 0 + d96 ≤ dnZ by omega, show 0 + s96 ≤ dsZ by omega⟩) hS (fun H locs hw hS => ?_)
              obtain ⟨nx96, ex96⟩ : ∃ z, z = nx + d96 := ⟨_, rfl⟩
              rw [← ex96] at hw
              try rw [← ex96] at hrun
              replace hcR : (0 + d96) + dn96 = dnZ := by omega
              replace hsR : (0 + s96) + ds96 = dsZ := by omega
              replace hnR : nx96 + dn96 = nxZ + dnZ := by omega
              clear en96 es96 ex96
              refine lv_iconst (v := (0 : Int32)) hx hb d_Whole_carryOut_99 (by decide) ?_
              cases hrun
              refine W.widen (k := dnZ) (n := dsZ) (by omega) (by omega) ?_
              rw [show nx96 = nxZ + dnZ by omega] at hw
              exact W.iret hx hb hr (fun t ht hW9 => ⟨⟨_, (), rfl, rfl, by show hW D dA classes b0 _ _ t.heap; rw [ht]; exact hw⟩, hS.F ht⟩) hS.2.2 d_Whole_carryOut_100
            · rw [if_neg c85] at hrun
              refine lv_bipush (v := (8 : Int32)) hx hb d_Whole_carryOut_88 (by decide) ?_
              cases hrun
              refine W.widen (k := dnZ) (n := dsZ) (by omega) (by omega) ?_
              rw [show nx = nxZ + dnZ by omega] at hw
              exact W.iret hx hb hr (fun t ht hW9 => ⟨⟨_, (), rfl, rfl, by show hW D dA classes b0 _ _ t.heap; rw [ht]; exact hw⟩, hS.F ht⟩) hS.2.2 d_Whole_carryOut_90
          · rw [if_pos c70] at hrun
            refine lv_aload_n hx hb d_Whole_carryOut_73 rfl (lv_at hl 1 rfl) ?_
            replace hrun := hb_some hrun
            obtain ⟨c74, k74, hrun⟩ := hrun
            replace hrun := hbW_some hrun
            obtain ⟨v74, h74, g74, hrun⟩ := hrun
            refine h_ci (h_runV S (As := []) (rest := []) (c_Whole_takeLater l D dA b0 a0 nx g74) (cwV 0 S.2.2.2.2 (h_good _ (h_in4 ml_Whole_93 im_Whole_takeLater se_Whole_takeLater it_Whole) cd_Whole_takeLater) rfl rfl rfl (by decide +kernel) ⟨Nat.le_of_ble_eq_true rfl, Nat.le_of_ble_eq_true rfl⟩) hK hN hw (ci := 11) rfl k74 rfl hl.1 (lv_room (Nat.le_of_ble_eq_true rfl)) d_Whole_carryOut_74 ⟨show 0 + 0 ≤ dnZ by omega, show 0 + 0 ≤ dsZ by omega⟩) hS (fun H locs hw hS => ?_)
            cases hrun
            refine W.widen (k := dnZ) (n := dsZ) (by omega) (by omega) ?_
            rw [show nx = nxZ + dnZ by omega] at hw
            exact W.iret hx hb hr (fun t ht hW9 => ⟨⟨_, (), rfl, rfl, by show hW D dA classes b0 _ _ t.heap; rw [ht]; exact hw⟩, hS.F ht⟩) hS.2.2 d_Whole_carryOut_77
        · rw [if_neg c60] at hrun
          refine lv_bipush (v := (6 : Int32)) hx hb d_Whole_carryOut_63 (by decide) ?_
          cases hrun
          refine W.widen (k := dnZ) (n := dsZ) (by omega) (by omega) ?_
          rw [show nx = nxZ + dnZ by omega] at hw
          exact W.iret hx hb hr (fun t ht hW9 => ⟨⟨_, (), rfl, rfl, by show hW D dA classes b0 _ _ t.heap; rw [ht]; exact hw⟩, hS.F ht⟩) hS.2.2 d_Whole_carryOut_65
      · rw [if_pos c32] at hrun
        exact j_35 i1 0 0 _ _ nx h _ _ _ hrun hcR hsR hnR hw hS (lv_sub hl [1, 2] rfl)
  · rw [if_neg c6] at hrun
    refine lv_aload_n hx hb d_Whole_carryOut_9 rfl (lv_at hl 1 rfl) ?_
    refine lv_dup hx hb d_Whole_carryOut_10 rfl ?_
    replace hrun := hb_some hrun
    obtain ⟨v11, g11, hrun⟩ := hrun
    refine h_getI S (fun w q => hT w (i_Whole w q)) hK (ci := 11) rfl 5 (by decide) (hT _ fl_Whole_39) hw g11 d_Whole_carryOut_11 ?_
    refine lv_iload_n hx hb d_Whole_carryOut_14 rfl (lv_at hl 0 rfl) ?_
    refine lv_ior hx hb d_Whole_carryOut_15 ?_
    replace hrun := hb_some hrun
    obtain ⟨h16, g16, hrun⟩ := hrun
    refine h_put S (fun w q => hT w (i_Whole w q)) t_Whole t_Whole_ok n_Whole hK (ci := 11) rfl 5 (by decide) (hT _ fl_Whole_39) rfl rfl rfl hw hS g16 d_Whole_carryOut_16 (fun H locs hw hS => ?_)
    refine lv_iconst (v := (0 : Int32)) hx hb d_Whole_carryOut_19 (by decide) ?_
    cases hrun
    refine W.widen (k := dnZ) (n := dsZ) (by omega) (by omega) ?_
    rw [show nx = nxZ + dnZ by omega] at hw
    exact W.iret hx hb hr (fun t ht hW9 => ⟨⟨_, (), rfl, rfl, by show hW D dA classes b0 _ _ t.heap; rw [ht]; exact hw⟩, hS.F ht⟩) hS.2.2 d_Whole_carryOut_20
set_option maxHeartbeats 4000000 in
set_option maxRecDepth 100000 in
theorem c_Whole_run (l : Launch) (D : va_G) (dA : Nat → ClassId) (b0 : Nat) (n : Nat) (a0 : Nat) (nxZ : Nat) {h h' : hH} {r : Int32} {dnZ dsZ : Nat} (hrun : f_Whole_run n a0 nxZ h = some (r, dnZ, dsZ, h')) : Met l y_Whole_run w_Whole_run ({ frames := 7, cells := dnZ, slots := dsZ, locals := 190 } : Room) (va_Pc [.ref a0] (hB D dA b0 nxZ h)) (va_Qi (fun r' (_ : Unit) => r' = r) (fun (_ : Unit) t => hW D dA classes b0 (nxZ + dnZ) h' t.heap) (hA b0)) dnZ dsZ (hA b0) := by
  refine Met.ofW (cc := b_Whole_run) (maxL := 3) (ret := (some .int)) (by decide) rfl ?_
  intro p e s m args below meth c s₁ B hml hv
  obtain ⟨rfl, hw, hK, hN⟩ := hv
  have hx := B.exec
  have hb := B.bytes
  have hr := B.returns
  have hlocks := B.notSynchronized
  have S : CallFix p m c b_Whole_run 3 s ([.ref a0] : List Value).toArray w_Whole_run R_Whole := ⟨hx, hb, hml, findClass_of_methodNamed B.named, atoms_spec (ws := w_Whole_run) B.pre⟩
  have hT : ∀ w ∈ tbl, w ∈ w_Whole_run := fun _ q => List.mem_cons_of_mem _ q
  have hS : va_S (hA b0) s.heap s.heap [] := va_S.rf
  have hl := lv_entry ([.ref a0]) (n := 3) (Nat.le_of_ble_eq_true rfl)
  rw [lg_entry_eq]
  generalize (lg_sl ([.ref a0]) ++ List.replicate (3 - (lg_sl ([.ref a0])).length) Slot.unset).toArray = ls at hl ⊢
  have hl : lv_has ls 3 [(0, .ref a0)] := hl
  obtain ⟨dn, edn⟩ : ∃ z, z = dnZ := ⟨_, rfl⟩
  obtain ⟨ds, eds⟩ : ∃ z, z = dsZ := ⟨_, rfl⟩
  obtain ⟨nx, enx⟩ : ∃ z, z = nxZ := ⟨_, rfl⟩
  rw [← edn, ← eds, ← enx] at hrun
  rw [← enx] at hw
  have hcR : 0 + dn = dnZ := by omega
  have hsR : 0 + ds = dsZ := by omega
  have hnR : nx + dn = nxZ + dnZ := by omega
  clear edn eds enx
  have l_26 : ∀ (n9 : Nat) (x9 : Int32) (cells slots dn ds nx : Nat) (h : hH) (b9 : (Int32) ⊕ (Unit)) (h9 : hH) (H : Heap) (locs : List Loc) (ls : Array Slot), hloopA (f_Whole_run_b26 n a0) n9 x9 nx h = some (b9, dn, ds, h9) → cells + dn ≤ dnZ → slots + ds ≤ dsZ → hW D dA classes b0 nx h H → va_S (hA b0) s.heap H locs → lv_has ls 3 (match x9 with | x1 => [(0, .ref a0), (1, .int x1)]) → (∀ (z2 : Int32), b9 = .inl z2 → ∀ (H : Heap) (locs : List Loc) (ls : Array Slot), hW D dA classes b0 (nx + dn) h9 H → va_S (hA b0) s.heap H locs → lv_has ls 3 [(2, .int z2)] → W p l e (headSpec w_Whole_run ({ frames := 7, cells := dnZ, slots := dsZ, locals := 190 } : Room)).room s m ([.ref a0] : List Value).toArray below meth c H locs (cells + dn) (slots + ds) (MQ below (va_Qi (fun r' (_ : Unit) => r' = r) (fun (_ : Unit) t => hW D dA classes b0 (nxZ + dnZ) h' t.heap) (hA b0)) ([.ref a0] : List Value).toArray s dnZ dsZ (hA b0)) (F0 m 114 ls [])) → (b9 = .inr (()) → ∀ (H : Heap) (locs : List Loc) (ls : Array Slot), hW D dA classes b0 (nx + dn) h9 H → va_S (hA b0) s.heap H locs → lv_has ls 3 [(0, .ref a0)] → W p l e (headSpec w_Whole_run ({ frames := 7, cells := dnZ, slots := dsZ, locals := 190 } : Room)).room s m ([.ref a0] : List Value).toArray below meth c H locs (cells + dn) (slots + ds) (MQ below (va_Qi (fun r' (_ : Unit) => r' = r) (fun (_ : Unit) t => hW D dA classes b0 (nxZ + dnZ) h' t.heap) (hA b0)) ([.ref a0] : List Value).toArray s dnZ dsZ (hA b0)) (F0 m 122 ls [])) → W p l e (headSpec w_Whole_run ({ frames := 7, cells := dnZ, slots := dsZ, locals := 190 } : Room)).room s m ([.ref a0] : List Value).toArray below meth c H locs cells slots (MQ below (va_Qi (fun r' (_ : Unit) => r' = r) (fun (_ : Unit) t => hW D dA classes b0 (nxZ + dnZ) h' t.heap) (hA b0)) ([.ref a0] : List Value).toArray s dnZ dsZ (hA b0)) (F0 m 26 ls []) := by
    intro  n9
    induction n9 with
    | zero =>
      intro x9 cells slots dn ds nx h b9 h9 H locs ls hrun
      cases hrun
    | succ n9 ih =>
      rintro x1 cells slots dn ds nx h b9 h9 H locs ls hrun hcB hsB hw hS hl k0 k1
      have hl : lv_has ls 3 [(0, .ref a0), (1, .int x1)] := hl
      unfold hloopA at hrun
      obtain ⟨q9, dnb, dsb, h9b, dnr, dsr, hbody, hrun9, edn, eds⟩ := hbind_some hrun
      have K0 : (∀ (z1 : Int32), q9 = .inl z1 → ∀ (H : Heap) (locs : List Loc) (ls : Array Slot), hW D dA classes b0 (nx + dnb) h9b H → va_S (hA b0) s.heap H locs → lv_has ls 3 [(0, .ref a0), (1, .int z1)] → W p l e (headSpec w_Whole_run ({ frames := 7, cells := dnZ, slots := dsZ, locals := 190 } : Room)).room s m ([.ref a0] : List Value).toArray below meth c H locs (cells + dnb) (slots + dsb) (MQ below (va_Qi (fun r' (_ : Unit) => r' = r) (fun (_ : Unit) t => hW D dA classes b0 (nxZ + dnZ) h' t.heap) (hA b0)) ([.ref a0] : List Value).toArray s dnZ dsZ (hA b0)) (F0 m 26 ls [])) := by
        intro z1 eq9 H locs ls hw hS hl
        subst eq9
        exact ih z1 (cells + dnb) (slots + dsb) dnr dsr (nx + dnb) h9b b9 h9 H locs ls hrun9 (by omega) (by omega) hw hS hl (by have q := k0; rw [show nx + dn = nx + dnb + dnr by omega, show cells + dn = cells + dnb + dnr by omega, show slots + ds = slots + dsb + dsr by omega] at q; exact q) (by have q := k1; rw [show nx + dn = nx + dnb + dnr by omega, show cells + dn = cells + dnb + dnr by omega, show slots + ds = slots + dsb + dsr by omega] at q; exact q)
      have K1 : (∀ (z2 : Int32), q9 = .inr (.inl z2) → ∀ (H : Heap) (locs : List Loc) (ls : Array Slot), hW D dA classes b0 (nx + dnb) h9b H → va_S (hA b0) s.heap H locs → lv_has ls 3 [(2, .int z2)] → W p l e (headSpec w_Whole_run ({ frames := 7, cells := dnZ, slots := dsZ, locals := 190 } : Room)).room s m ([.ref a0] : List Value).toArray below meth c H locs (cells + dnb) (slots + dsb) (MQ below (va_Qi (fun r' (_ : Unit) => r' = r) (fun (_ : Unit) t => hW D dA classes b0 (nxZ + dnZ) h' t.heap) (hA b0)) ([.ref a0] : List Value).toArray s dnZ dsZ (hA b0)) (F0 m 114 ls [])) := by
        intro z2 eq9 H locs ls hw hS hl
        subst eq9
        cases hrun9
        subst edn; subst eds
        exact k0 _ rfl H locs ls hw hS hl
      have K2 : (q9 = .inr (.inr (())) → ∀ (H : Heap) (locs : List Loc) (ls : Array Slot), hW D dA classes b0 (nx + dnb) h9b H → va_S (hA b0) s.heap H locs → lv_has ls 3 [(0, .ref a0)] → W p l e (headSpec w_Whole_run ({ frames := 7, cells := dnZ, slots := dsZ, locals := 190 } : Room)).room s m ([.ref a0] : List Value).toArray below meth c H locs (cells + dnb) (slots + dsb) (MQ below (va_Qi (fun r' (_ : Unit) => r' = r) (fun (_ : Unit) t => hW D dA classes b0 (nxZ + dnZ) h' t.heap) (hA b0)) ([.ref a0] : List Value).toArray s dnZ dsZ (hA b0)) (F0 m 122 ls [])) := by
        intro  eq9 H locs ls hw hS hl
        subst eq9
        cases hrun9
        subst edn; subst eds
        exact k1  rfl H locs ls hw hS hl
      clear hrun hrun9 ih k0 k1
      have hrun := hbody
      clear hbody
      replace hcB : cells + dnb ≤ dnZ := by omega
      replace hsB : slots + dsb ≤ dsZ := by omega
      clear edn eds
      have j_110 : ∀  (x1 : Int32) (x2 : Int32) (q9 : (Int32) ⊕ ((Int32) ⊕ (Unit))) (h9 : hH) (cells slots dn ds nx : Nat) (h : hH) (H : Heap) (locs : List Loc) (ls : Array Slot), f_Whole_run_j110 n a0 x1 x2 nx h = some (q9, dn, ds, h9) → cells + dn ≤ dnZ → slots + ds ≤ dsZ → hW D dA classes b0 nx h H → va_S (hA b0) s.heap H locs → lv_has ls 3 [(0, .ref a0), (1, .int x1), (2, .int x2)] → (∀ (z1 : Int32), q9 = .inl z1 → ∀ (H : Heap) (locs : List Loc) (ls : Array Slot), hW D dA classes b0 (nx + dn) h9 H → va_S (hA b0) s.heap H locs → lv_has ls 3 [(0, .ref a0), (1, .int z1)] → W p l e (headSpec w_Whole_run ({ frames := 7, cells := dnZ, slots := dsZ, locals := 190 } : Room)).room s m ([.ref a0] : List Value).toArray below meth c H locs (cells + dn) (slots + ds) (MQ below (va_Qi (fun r' (_ : Unit) => r' = r) (fun (_ : Unit) t => hW D dA classes b0 (nxZ + dnZ) h' t.heap) (hA b0)) ([.ref a0] : List Value).toArray s dnZ dsZ (hA b0)) (F0 m 26 ls [])) → (∀ (z2 : Int32), q9 = .inr (.inl z2) → ∀ (H : Heap) (locs : List Loc) (ls : Array Slot), hW D dA classes b0 (nx + dn) h9 H → va_S (hA b0) s.heap H locs → lv_has ls 3 [(2, .int z2)] → W p l e (headSpec w_Whole_run ({ frames := 7, cells := dnZ, slots := dsZ, locals := 190 } : Room)).room s m ([.ref a0] : List Value).toArray below meth c H locs (cells + dn) (slots + ds) (MQ below (va_Qi (fun r' (_ : Unit) => r' = r) (fun (_ : Unit) t => hW D dA classes b0 (nxZ + dnZ) h' t.heap) (hA b0)) ([.ref a0] : List Value).toArray s dnZ dsZ (hA b0)) (F0 m 114 ls [])) → (q9 = .inr (.inr (())) → ∀ (H : Heap) (locs : List Loc) (ls : Array Slot), hW D dA classes b0 (nx + dn) h9 H → va_S (hA b0) s.heap H locs → lv_has ls 3 [(0, .ref a0)] → W p l e (headSpec w_Whole_run ({ frames := 7, cells := dnZ, slots := dsZ, locals := 190 } : Room)).room s m ([.ref a0] : List Value).toArray below meth c H locs (cells + dn) (slots + ds) (MQ below (va_Qi (fun r' (_ : Unit) => r' = r) (fun (_ : Unit) t => hW D dA classes b0 (nxZ + dnZ) h' t.heap) (hA b0)) ([.ref a0] : List Value).toArray s dnZ dsZ (hA b0)) (F0 m 122 ls [])) → W p l e (headSpec w_Whole_run ({ frames := 7, cells := dnZ, slots := dsZ, locals := 190 } : Room)).room s m ([.ref a0] : List Value).toArray below meth c H locs cells slots (MQ below (va_Qi (fun r' (_ : Unit) => r' = r) (fun (_ : Unit) t => hW D dA classes b0 (nxZ + dnZ) h' t.heap) (hA b0)) ([.ref a0] : List Value).toArray s dnZ dsZ (hA b0)) (F0 m 110 ls []) := by
        intro x1 x2 q9 h9 cells slots dn ds nx h H locs ls hrun hcB hsB hw hS hl k0 k1 k2
        unfold f_Whole_run_j110 at hrun
        have hcR : cells + dn = cells + dn := rfl
        have hsR : slots + ds = slots + ds := rfl
        have hnR : nx + dn = nx + dn := rfl
        refine lv_iload_n hx hb d_Whole_run_110 rfl (lv_at hl 2 rfl) ?_
        refine lv_if_eq (tgt := 116) hx hb d_Whole_run_111 (by decide) (fun c111 => ?_) (fun c111 => ?_)
        · rw [if_pos c111] at hrun
          refine lv_iinc (v := (x1 + (1 : Int32))) (lv' := [(1, .int (x1 + (1 : Int32))), (0, .ref a0), (2, .int x2)]) hx hb d_Whole_run_116 hl (k := 1) rfl rfl (by decide) rfl (fun ls hl => ?_)
          refine lv_goto (tgt := 26) hx hb d_Whole_run_119 (by decide) ?_
          cases hrun
          exact W.widen (by omega) (by omega) (k0 (x1 + (1 : Int32)) rfl H locs ls hw hS (lv_sub hl [1, 0] rfl))
        · rw [if_neg c111] at hrun
          cases hrun
          exact W.widen (by omega) (by omega) (k1 x2 rfl H locs ls hw hS (lv_sub hl [2] rfl))
      have j_73 : ∀  (x1 : Int32) (q9 : (Int32) ⊕ ((Int32) ⊕ (Unit))) (h9 : hH) (cells slots dn ds nx : Nat) (h : hH) (H : Heap) (locs : List Loc) (ls : Array Slot), f_Whole_run_j73 n a0 x1 nx h = some (q9, dn, ds, h9) → cells + dn ≤ dnZ → slots + ds ≤ dsZ → hW D dA classes b0 nx h H → va_S (hA b0) s.heap H locs → lv_has ls 3 [(0, .ref a0), (1, .int x1)] → (∀ (z1 : Int32), q9 = .inl z1 → ∀ (H : Heap) (locs : List Loc) (ls : Array Slot), hW D dA classes b0 (nx + dn) h9 H → va_S (hA b0) s.heap H locs → lv_has ls 3 [(0, .ref a0), (1, .int z1)] → W p l e (headSpec w_Whole_run ({ frames := 7, cells := dnZ, slots := dsZ, locals := 190 } : Room)).room s m ([.ref a0] : List Value).toArray below meth c H locs (cells + dn) (slots + ds) (MQ below (va_Qi (fun r' (_ : Unit) => r' = r) (fun (_ : Unit) t => hW D dA classes b0 (nxZ + dnZ) h' t.heap) (hA b0)) ([.ref a0] : List Value).toArray s dnZ dsZ (hA b0)) (F0 m 26 ls [])) → (∀ (z2 : Int32), q9 = .inr (.inl z2) → ∀ (H : Heap) (locs : List Loc) (ls : Array Slot), hW D dA classes b0 (nx + dn) h9 H → va_S (hA b0) s.heap H locs → lv_has ls 3 [(2, .int z2)] → W p l e (headSpec w_Whole_run ({ frames := 7, cells := dnZ, slots := dsZ, locals := 190 } : Room)).room s m ([.ref a0] : List Value).toArray below meth c H locs (cells + dn) (slots + ds) (MQ below (va_Qi (fun r' (_ : Unit) => r' = r) (fun (_ : Unit) t => hW D dA classes b0 (nxZ + dnZ) h' t.heap) (hA b0)) ([.ref a0] : List Value).toArray s dnZ dsZ (hA b0)) (F0 m 114 ls [])) → (q9 = .inr (.inr (())) → ∀ (H : Heap) (locs : List Loc) (ls : Array Slot), hW D dA classes b0 (nx + dn) h9 H → va_S (hA b0) s.heap H locs → lv_has ls 3 [(0, .ref a0)] → W p l e (headSpec w_Whole_run ({ frames := 7, cells := dnZ, slots := dsZ, locals := 190 } : Room)).room s m ([.ref a0] : List Value).toArray below meth c H locs (cells + dn) (slots + ds) (MQ below (va_Qi (fun r' (_ : Unit) => r' = r) (fun (_ : Unit) t => hW D dA classes b0 (nxZ + dnZ) h' t.heap) (hA b0)) ([.ref a0] : List Value).toArray s dnZ dsZ (hA b0)) (F0 m 122 ls [])) → W p l e (headSpec w_Whole_run ({ frames := 7, cells := dnZ, slots := dsZ, locals := 190 } : Room)).room s m ([.ref a0] : List Value).toArray below meth c H locs cells slots (MQ below (va_Qi (fun r' (_ : Unit) => r' = r) (fun (_ : Unit) t => hW D dA classes b0 (nxZ + dnZ) h' t.heap) (hA b0)) ([.ref a0] : List Value).toArray s dnZ dsZ (hA b0)) (F0 m 73 ls []) := by
        intro x1 q9 h9 cells slots dn ds nx h H locs ls hrun hcB hsB hw hS hl k0 k1 k2
        unfold f_Whole_run_j73 at hrun
        have hcR : cells + dn = cells + dn := rfl
        have hsR : slots + ds = slots + ds := rfl
        have hnR : nx + dn = nx + dn := rfl
        refine lv_aload_n hx hb d_Whole_run_73 rfl (lv_at hl 0 rfl) ?_
        replace hrun := hb_some hrun
        obtain ⟨v74, g74, hrun⟩ := hrun
        refine h_getR S (fun w q => hT w (i_Whole w q)) hK (ci := 11) rfl 3 (by decide) (hT _ fl_Whole_26) hw g74 d_Whole_run_74 ?_
        replace hrun := hb_some hrun
        obtain ⟨p77, rfl, hrun⟩ := hrun
        replace hrun := hb_some hrun
        obtain ⟨c77, k77, hrun⟩ := hrun
        replace hrun := hb_some hrun
        obtain ⟨v77, g77, hrun⟩ := hrun
        refine h_ci (h_runV S (As := []) (rest := []) (c_Definition_isUnderWay l D dA b0 p77 nx g77) (cwV 0 S.2.2.2.2 (h_good _ (h_in4 ml_Whole_71 im_Definition_isUnderWay se_Definition_isUnderWay it_Definition) cd_Definition_isUnderWay) rfl rfl rfl (by decide +kernel) ⟨Nat.le_of_ble_eq_true rfl, Nat.le_of_ble_eq_true rfl⟩) hK hN hw (ci := 4) rfl k77 rfl hl.1 (lv_room (Nat.le_of_ble_eq_true rfl)) d_Whole_run_77 ⟨show cells + 0 ≤ dnZ by omega, show slots + 0 ≤ dsZ by omega⟩) hS (fun H locs hw hS => ?_)
        refine lv_if_eq (tgt := 98) hx hb d_Whole_run_80 (by decide) (fun c80 => ?_) (fun c80 => ?_)
        · rw [if_pos c80] at hrun
          refine lv_aload_n hx hb d_Whole_run_98 rfl (lv_at hl 0 rfl) ?_
          refine lv_aload_n hx hb d_Whole_run_99 rfl (lv_at hl 0 rfl) ?_
          replace hrun := hb_some hrun
          obtain ⟨v100, g100, hrun⟩ := hrun
          refine h_getR S (fun w q => hT w (i_Whole w q)) hK (ci := 11) rfl 2 (by decide) (hT _ fl_Whole_19) hw g100 d_Whole_run_100 ?_
          replace hrun := hb_some hrun
          obtain ⟨p103, rfl, hrun⟩ := hrun
          replace hrun := hb_some hrun
          obtain ⟨c103, k103, hrun⟩ := hrun
          replace hrun := hbW_some hrun
          obtain ⟨v103, h103, g103, hrun⟩ := hrun
          refine h_ci (h_runV S (As := []) (rest := [.ref a0]) (c_Expander_takeFirst l D dA b0 p103 nx g103) (cwV 0 S.2.2.2.2 (h_good _ (h_in4 ml_Whole_74 im_Expander_takeFirst se_Expander_takeFirst it_Expander) cd_Expander_takeFirst) rfl rfl rfl (by decide +kernel) ⟨Nat.le_of_ble_eq_true rfl, Nat.le_of_ble_eq_true rfl⟩) hK hN hw (ci := 5) rfl k103 rfl hl.1 (lv_room (Nat.le_of_ble_eq_true rfl)) d_Whole_run_103 ⟨show cells + 0 ≤ dnZ by omega, show slots + 0 ≤ dsZ by omega⟩) hS (fun H locs hw hS => ?_)
          replace hrun := hb_some hrun
          obtain ⟨c106, k106, hrun⟩ := hrun
          replace hrun := hbind_some hrun
          obtain ⟨v106, d106, s106, h106, dn106, ds106, g106, hrun, en106, es106⟩ := hrun
          refine h_ci (h_runV S (As := [.int v103]) (rest := []) (c_Whole_carryOut l D dA b0 n a0 v103 nx g106) (cwV 1 S.2.2.2.2 (h_good _ (h_in4 ml_Whole_81 im_Whole_carryOut se_Whole_carryOut it_Whole) cd_Whole_carryOut) rfl rfl rfl (by decide +kernel) ⟨Nat.le_of_ble_eq_true rfl, Nat.le_of_ble_eq_true rfl⟩) hK hN hw (ci := 11) rfl k106 rfl hl.1 (lv_room (Nat.le_of_ble_eq_true rfl)) d_Whole_run_106 ⟨show cells + d106 ≤ dnZ by omega, show slots + s106 ≤ dsZ by omega⟩) hS (fun H locs hw hS => ?_)
          obtain ⟨nx106, ex106⟩ : ∃ z, z = nx + d106 := ⟨_, rfl⟩
          rw [← ex106] at hw
          try rw [← ex106] at hrun
          replace hcR : (cells + d106) + dn106 = cells + dn := by omega
          replace hsR : (slots + s106) + ds106 = slots + ds := by omega
          replace hnR : nx106 + dn106 = nx + dn := by omega
          clear en106 es106 ex106
          refine lv_istore_n (lv' := [(2, .int v106), (0, .ref a0), (1, .int x1)]) hx hb d_Whole_run_109 rfl hl (by decide) rfl (fun ls hl => ?_)
          exact j_110 x1 v106 _ _ (cells + d106) (slots + s106) _ _ nx106 h106 _ _ _ hrun (by omega) (by omega) hw hS (lv_sub hl [1, 2, 0] rfl) (by have q := k0; rw [show nx + dn = nx106 + dn106 by omega, show cells + dn = (cells + d106) + dn106 by omega, show slots + ds = (slots + s106) + ds106 by omega] at q; exact q) (by have q := k1; rw [show nx + dn = nx106 + dn106 by omega, show cells + dn = (cells + d106) + dn106 by omega, show slots + ds = (slots + s106) + ds106 by omega] at q; exact q) (by have q := k2; rw [show nx + dn = nx106 + dn106 by omega, show cells + dn = (cells + d106) + dn106 by omega, show slots + ds = (slots + s106) + ds106 by omega] at q; exact q)
        · rw [if_neg c80] at hrun
          refine lv_aload_n hx hb d_Whole_run_83 rfl (lv_at hl 0 rfl) ?_
          refine lv_aload_n hx hb d_Whole_run_84 rfl (lv_at hl 0 rfl) ?_
          replace hrun := hb_some hrun
          obtain ⟨v85, g85, hrun⟩ := hrun
          refine h_getR S (fun w q => hT w (i_Whole w q)) hK (ci := 11) rfl 2 (by decide) (hT _ fl_Whole_19) hw g85 d_Whole_run_85 ?_
          replace hrun := hb_some hrun
          obtain ⟨p88, rfl, hrun⟩ := hrun
          replace hrun := hb_some hrun
          obtain ⟨c88, k88, hrun⟩ := hrun
          replace hrun := hbW_some hrun
          obtain ⟨v88, h88, g88, hrun⟩ := hrun
          refine h_ci (h_runV S (As := []) (rest := [.ref a0]) (c_Expander_takeFirst l D dA b0 p88 nx g88) (cwV 0 S.2.2.2.2 (h_good _ (h_in4 ml_Whole_74 im_Expander_takeFirst se_Expander_takeFirst it_Expander) cd_Expander_takeFirst) rfl rfl rfl (by decide +kernel) ⟨Nat.le_of_ble_eq_true rfl, Nat.le_of_ble_eq_true rfl⟩) hK hN hw (ci := 5) rfl k88 rfl hl.1 (lv_room (Nat.le_of_ble_eq_true rfl)) d_Whole_run_88 ⟨show cells + 0 ≤ dnZ by omega, show slots + 0 ≤ dsZ by omega⟩) hS (fun H locs hw hS => ?_)
          replace hrun := hb_some hrun
          obtain ⟨c91, k91, hrun⟩ := hrun
          replace hrun := hbind_some hrun
          obtain ⟨v91, d91, s91, h91, dn91, ds91, g91, hrun, en91, es91⟩ := hrun
          refine h_ci (h_runV S (As := [.int v88]) (rest := []) (c_Whole_goOnDefining l D dA b0 n a0 v88 nx g91) (cwV 1 S.2.2.2.2 (h_good _ (h_in4 ml_Whole_77 im_Whole_goOnDefining se_Whole_goOnDefining it_Whole) cd_Whole_goOnDefining) rfl rfl rfl (by decide +kernel) ⟨Nat.le_of_ble_eq_true rfl, Nat.le_of_ble_eq_true rfl⟩) hK hN hw (ci := 11) rfl k91 rfl hl.1 (lv_room (Nat.le_of_ble_eq_true rfl)) d_Whole_run_91 ⟨show cells + d91 ≤ dnZ by omega, show slots + s91 ≤ dsZ by omega⟩) hS (fun H locs hw hS => ?_)
          obtain ⟨nx91, ex91⟩ : ∃ z, z = nx + d91 := ⟨_, rfl⟩
          rw [← ex91] at hw
          try rw [← ex91] at hrun
          replace hcR : (cells + d91) + dn91 = cells + dn := by omega
          replace hsR : (slots + s91) + ds91 = slots + ds := by omega
          replace hnR : nx91 + dn91 = nx + dn := by omega
          clear en91 es91 ex91
          refine lv_istore_n (lv' := [(2, .int v91), (0, .ref a0), (1, .int x1)]) hx hb d_Whole_run_94 rfl hl (by decide) rfl (fun ls hl => ?_)
          refine lv_goto (tgt := 110) hx hb d_Whole_run_95 (by decide) ?_
          exact j_110 x1 v91 _ _ (cells + d91) (slots + s91) _ _ nx91 h91 _ _ _ hrun (by omega) (by omega) hw hS (lv_sub hl [1, 2, 0] rfl) (by have q := k0; rw [show nx + dn = nx91 + dn91 by omega, show cells + dn = (cells + d91) + dn91 by omega, show slots + ds = (slots + s91) + ds91 by omega] at q; exact q) (by have q := k1; rw [show nx + dn = nx91 + dn91 by omega, show cells + dn = (cells + d91) + dn91 by omega, show slots + ds = (slots + s91) + ds91 by omega] at q; exact q) (by have q := k2; rw [show nx + dn = nx91 + dn91 by omega, show cells + dn = (cells + d91) + dn91 by omega, show slots + ds = (slots + s91) + ds91 by omega] at q; exact q)
      dsimp only [f_Whole_run_b26] at hrun
      have hcR : cells + dnb = cells + dnb := rfl
      have hsR : slots + dsb = slots + dsb := rfl
      have hnR : nx + dnb = nx + dnb := rfl
      refine lv_iload_n hx hb d_Whole_run_26 rfl (lv_at hl 1 rfl) ?_
      refine lv_ldc hx hb S.2.2.2.1 (S.2.2.2.2 _ (hT _ ct_Whole_52)) d_Whole_run_27 ?_
      refine lv_icmp_ge (tgt := 122) hx hb d_Whole_run_29 (by decide) (fun c29 => ?_) (fun c29 => ?_)
      · rw [if_pos c29] at hrun
        cases hrun
        exact W.widen (by omega) (by omega) (K2  rfl H locs ls hw hS (lv_sub hl [0] rfl))
      · rw [if_neg c29] at hrun
        refine lv_aload_n hx hb d_Whole_run_32 rfl (lv_at hl 0 rfl) ?_
        replace hrun := hb_some hrun
        obtain ⟨v33, g33, hrun⟩ := hrun
        refine h_getR S (fun w q => hT w (i_Whole w q)) hK (ci := 11) rfl 0 (by decide) (hT _ fl_Whole_9) hw g33 d_Whole_run_33 ?_
        replace hrun := hb_some hrun
        obtain ⟨p36, rfl, hrun⟩ := hrun
        replace hrun := hb_some hrun
        obtain ⟨c36, k36, hrun⟩ := hrun
        replace hrun := hb_some hrun
        obtain ⟨v36, g36, hrun⟩ := hrun
        refine h_ci (h_runV S (As := []) (rest := []) (c_Input_isEmpty l D dA b0 p36 nx g36) (cwV 0 S.2.2.2.2 (h_good _ (h_in4 ml_Whole_53 im_Input_isEmpty se_Input_isEmpty it_Input) cd_Input_isEmpty) rfl rfl rfl (by decide +kernel) ⟨Nat.le_of_ble_eq_true rfl, Nat.le_of_ble_eq_true rfl⟩) hK hN hw (ci := 6) rfl k36 rfl hl.1 (lv_room (Nat.le_of_ble_eq_true rfl)) d_Whole_run_36 ⟨show cells + 0 ≤ dnZ by omega, show slots + 0 ≤ dsZ by omega⟩) hS (fun H locs hw hS => ?_)
        refine lv_if_ne (tgt := 122) hx hb d_Whole_run_39 (by decide) (fun c39 => ?_) (fun c39 => ?_)
        · rw [if_neg c39] at hrun
          cases hrun
          exact W.widen (by omega) (by omega) (K2  rfl H locs ls hw hS (lv_sub hl [0] rfl))
        · rw [if_pos c39] at hrun
          refine lv_aload_n hx hb d_Whole_run_42 rfl (lv_at hl 0 rfl) ?_
          replace hrun := hb_some hrun
          obtain ⟨v43, g43, hrun⟩ := hrun
          refine h_getR S (fun w q => hT w (i_Whole w q)) hK (ci := 11) rfl 3 (by decide) (hT _ fl_Whole_26) hw g43 d_Whole_run_43 ?_
          replace hrun := hb_some hrun
          obtain ⟨p46, rfl, hrun⟩ := hrun
          replace hrun := hb_some hrun
          obtain ⟨c46, k46, hrun⟩ := hrun
          replace hrun := hb_some hrun
          obtain ⟨v46, g46, hrun⟩ := hrun
          refine h_ci (h_runV S (As := []) (rest := []) (c_Definition_takesTokensAsTheyAre l D dA b0 p46 nx g46) (cwV 0 S.2.2.2.2 (h_good _ (h_in4 ml_Whole_59 im_Definition_takesTokensAsTheyAre se_Definition_takesTokensAsTheyAre it_Definition) cd_Definition_takesTokensAsTheyAre) rfl rfl rfl (by decide +kernel) ⟨Nat.le_of_ble_eq_true rfl, Nat.le_of_ble_eq_true rfl⟩) hK hN hw (ci := 4) rfl k46 rfl hl.1 (lv_room (Nat.le_of_ble_eq_true rfl)) d_Whole_run_46 ⟨show cells + 0 ≤ dnZ by omega, show slots + 0 ≤ dsZ by omega⟩) hS (fun H locs hw hS => ?_)
          refine lv_if_ne (tgt := 73) hx hb d_Whole_run_49 (by decide) (fun c49 => ?_) (fun c49 => ?_)
          · rw [if_neg c49] at hrun
            exact j_73 x1 _ _ cells slots _ _ nx h _ _ _ hrun (by omega) (by omega) hw hS (lv_sub hl [0, 1] rfl) K0 K1 K2
          · rw [if_pos c49] at hrun
            refine lv_aload_n hx hb d_Whole_run_52 rfl (lv_at hl 0 rfl) ?_
            replace hrun := hb_some hrun
            obtain ⟨v53, g53, hrun⟩ := hrun
            refine h_getR S (fun w q => hT w (i_Whole w q)) hK (ci := 11) rfl 2 (by decide) (hT _ fl_Whole_19) hw g53 d_Whole_run_53 ?_
            replace hrun := hb_some hrun
            obtain ⟨p56, rfl, hrun⟩ := hrun
            replace hrun := hb_some hrun
            obtain ⟨c56, k56, hrun⟩ := hrun
            replace hrun := hb_some hrun
            obtain ⟨v56, g56, hrun⟩ := hrun
            refine h_ci (h_runV S (As := []) (rest := []) (c_Expander_canExpand l D dA b0 p56 nx g56) (cwV 0 S.2.2.2.2 (h_good _ (h_in4 ml_Whole_62 im_Expander_canExpand se_Expander_canExpand it_Expander) cd_Expander_canExpand) rfl rfl rfl (by decide +kernel) ⟨Nat.le_of_ble_eq_true rfl, Nat.le_of_ble_eq_true rfl⟩) hK hN hw (ci := 5) rfl k56 rfl hl.1 (lv_room (Nat.le_of_ble_eq_true rfl)) d_Whole_run_56 ⟨show cells + 0 ≤ dnZ by omega, show slots + 0 ≤ dsZ by omega⟩) hS (fun H locs hw hS => ?_)
            refine lv_if_eq (tgt := 73) hx hb d_Whole_run_59 (by decide) (fun c59 => ?_) (fun c59 => ?_)
            · rw [if_pos c59] at hrun
              exact j_73 x1 _ _ cells slots _ _ nx h _ _ _ hrun (by omega) (by omega) hw hS (lv_sub hl [0, 1] rfl) K0 K1 K2
            · rw [if_neg c59] at hrun
              refine lv_aload_n hx hb d_Whole_run_62 rfl (lv_at hl 0 rfl) ?_
              replace hrun := hb_some hrun
              obtain ⟨v63, g63, hrun⟩ := hrun
              refine h_getR S (fun w q => hT w (i_Whole w q)) hK (ci := 11) rfl 2 (by decide) (hT _ fl_Whole_19) hw g63 d_Whole_run_63 ?_
              replace hrun := hb_some hrun
              obtain ⟨p66, rfl, hrun⟩ := hrun
              replace hrun := hb_some hrun
              obtain ⟨c66, k66, hrun⟩ := hrun
              replace hrun := hbind_some hrun
              obtain ⟨v66, d66, s66, h66, dn66, ds66, g66, hrun, en66, es66⟩ := hrun
              refine h_ci (h_runV S (As := []) (rest := []) (c_Expander_expandOnce l D dA b0 n p66 nx g66) (cwV 0 S.2.2.2.2 (h_good _ (h_in4 ml_Whole_67 im_Expander_expandOnce se_Expander_expandOnce it_Expander) cd_Expander_expandOnce) rfl rfl rfl (by decide +kernel) ⟨Nat.le_of_ble_eq_true rfl, Nat.le_of_ble_eq_true rfl⟩) hK hN hw (ci := 5) rfl k66 rfl hl.1 (lv_room (Nat.le_of_ble_eq_true rfl)) d_Whole_run_66 ⟨show cells + d66 ≤ dnZ by omega, show slots + s66 ≤ dsZ by omega⟩) hS (fun H locs hw hS => ?_)
              obtain ⟨nx66, ex66⟩ : ∃ z, z = nx + d66 := ⟨_, rfl⟩
              rw [← ex66] at hw
              try rw [← ex66] at hrun
              replace hcR : (cells + d66) + dn66 = cells + dnb := by omega
              replace hsR : (slots + s66) + ds66 = slots + dsb := by omega
              replace hnR : nx66 + dn66 = nx + dnb := by omega
              clear en66 es66 ex66
              refine lv_istore_n (lv' := [(2, .int v66), (0, .ref a0), (1, .int x1)]) hx hb d_Whole_run_69 rfl hl (by decide) rfl (fun ls hl => ?_)
              refine lv_goto (tgt := 110) hx hb d_Whole_run_70 (by decide) ?_
              exact j_110 x1 v66 _ _ (cells + d66) (slots + s66) _ _ nx66 h66 _ _ _ hrun (by omega) (by omega) hw hS (lv_sub hl [1, 2, 0] rfl) (by have q := K0; rw [show nx + dnb = nx66 + dn66 by omega, show cells + dnb = (cells + d66) + dn66 by omega, show slots + dsb = (slots + s66) + ds66 by omega] at q; exact q) (by have q := K1; rw [show nx + dnb = nx66 + dn66 by omega, show cells + dnb = (cells + d66) + dn66 by omega, show slots + dsb = (slots + s66) + ds66 by omega] at q; exact q) (by have q := K2; rw [show nx + dnb = nx66 + dn66 by omega, show cells + dnb = (cells + d66) + dn66 by omega, show slots + dsb = (slots + s66) + ds66 by omega] at q; exact q)
  unfold f_Whole_run at hrun
  refine lv_aload_n hx hb d_Whole_run_0 rfl (lv_at hl 0 rfl) ?_
  replace hrun := hb_some hrun
  obtain ⟨v1, g1, hrun⟩ := hrun
  refine h_getR S (fun w q => hT w (i_Whole w q)) hK (ci := 11) rfl 4 (by decide) (hT _ fl_Whole_35) hw g1 d_Whole_run_1 ?_
  replace hrun := hb_some hrun
  obtain ⟨p4, rfl, hrun⟩ := hrun
  replace hrun := hb_some hrun
  obtain ⟨c4, k4, hrun⟩ := hrun
  replace hrun := hbW_some hrun
  obtain ⟨_u4, h4, g4, hrun⟩ := hrun
  refine h_cv (h_runV S (As := []) (rest := []) (c_Row_clear l D dA b0 p4 nx g4) (cwV 0 S.2.2.2.2 (h_good _ (h_in4 ml_Whole_46 im_Row_clear se_Row_clear it_Row) cd_Row_clear) rfl rfl rfl (by decide +kernel) ⟨Nat.le_of_ble_eq_true rfl, Nat.le_of_ble_eq_true rfl⟩) hK hN hw (ci := 8) rfl k4 rfl hl.1 (lv_room (Nat.le_of_ble_eq_true rfl)) d_Whole_run_4 ⟨show 0 + 0 ≤ dnZ by omega, show 0 + 0 ≤ dsZ by omega⟩) hS (fun H locs hw hS => ?_)
  refine lv_aload_n hx hb d_Whole_run_7 rfl (lv_at hl 0 rfl) ?_
  replace hrun := hb_some hrun
  obtain ⟨v8, g8, hrun⟩ := hrun
  refine h_getR S (fun w q => hT w (i_Whole w q)) hK (ci := 11) rfl 3 (by decide) (hT _ fl_Whole_26) hw g8 d_Whole_run_8 ?_
  replace hrun := hb_some hrun
  obtain ⟨p11, rfl, hrun⟩ := hrun
  replace hrun := hb_some hrun
  obtain ⟨c11, k11, hrun⟩ := hrun
  replace hrun := hbW_some hrun
  obtain ⟨_u11, h11, g11, hrun⟩ := hrun
  refine h_cv (h_runV S (As := []) (rest := []) (c_Definition_leave l D dA b0 p11 nx g11) (cwV 0 S.2.2.2.2 (h_good _ (h_in4 ml_Whole_49 im_Definition_leave se_Definition_leave it_Definition) cd_Definition_leave) rfl rfl rfl (by decide +kernel) ⟨Nat.le_of_ble_eq_true rfl, Nat.le_of_ble_eq_true rfl⟩) hK hN hw (ci := 4) rfl k11 rfl hl.1 (lv_room (Nat.le_of_ble_eq_true rfl)) d_Whole_run_11 ⟨show 0 + 0 ≤ dnZ by omega, show 0 + 0 ≤ dsZ by omega⟩) hS (fun H locs hw hS => ?_)
  refine lv_aload_n hx hb d_Whole_run_14 rfl (lv_at hl 0 rfl) ?_
  refine lv_iconst (v := (0 : Int32)) hx hb d_Whole_run_15 (by decide) ?_
  replace hrun := hb_some hrun
  obtain ⟨h16, g16, hrun⟩ := hrun
  refine h_put S (fun w q => hT w (i_Whole w q)) t_Whole t_Whole_ok n_Whole hK (ci := 11) rfl 5 (by decide) (hT _ fl_Whole_39) rfl rfl rfl hw hS g16 d_Whole_run_16 (fun H locs hw hS => ?_)
  refine lv_aload_n hx hb d_Whole_run_19 rfl (lv_at hl 0 rfl) ?_
  refine lv_iconst (v := (-1 : Int32)) hx hb d_Whole_run_20 (by decide) ?_
  replace hrun := hb_some hrun
  obtain ⟨h21, g21, hrun⟩ := hrun
  refine h_put S (fun w q => hT w (i_Whole w q)) t_Whole t_Whole_ok n_Whole hK (ci := 11) rfl 6 (by decide) (hT _ fl_Whole_43) rfl rfl rfl hw hS g21 d_Whole_run_21 (fun H locs hw hS => ?_)
  refine lv_iconst (v := (0 : Int32)) hx hb d_Whole_run_24 (by decide) ?_
  refine lv_istore_n (lv' := [(1, .int (0 : Int32)), (0, .ref a0)]) hx hb d_Whole_run_25 rfl hl (by decide) rfl (fun ls hl => ?_)
  replace hrun := hbind_some hrun
  obtain ⟨b26, d26, s26, h26l, dn26, ds26, g26, hrun, en26, es26⟩ := hrun
  refine l_26 n (0 : Int32) 0 0 _ _ nx h21 _ _ _ _ _ g26 (by omega) (by omega) hw hS (lv_sub hl [1, 0] rfl) ?_ ?_
  · rintro x2_26 eq9 H locs ls hw hS hl
    obtain rfl := eq9.symm
    obtain ⟨nx26l, ex26⟩ : ∃ z, z = nx + d26 := ⟨_, rfl⟩
    rw [← ex26] at hw
    try rw [← ex26] at hrun
    replace hcR : (0 + d26) + dn26 = dnZ := by omega
    replace hsR : (0 + s26) + ds26 = dsZ := by omega
    replace hnR : nx26l + dn26 = nxZ + dnZ := by omega
    clear en26 es26 ex26
    try dsimp only at hrun
    refine lv_iload_n hx hb d_Whole_run_114 rfl (lv_at hl 0 rfl) ?_
    cases hrun
    refine W.widen (k := dnZ) (n := dsZ) (by omega) (by omega) ?_
    rw [show nx26l = nxZ + dnZ by omega] at hw
    exact W.iret hx hb hr (fun t ht hW9 => ⟨⟨_, (), rfl, rfl, by show hW D dA classes b0 _ _ t.heap; rw [ht]; exact hw⟩, hS.F ht⟩) hS.2.2 d_Whole_run_115
  · rintro  eq9 H locs ls hw hS hl
    obtain rfl := eq9.symm
    obtain ⟨nx26l, ex26⟩ : ∃ z, z = nx + d26 := ⟨_, rfl⟩
    rw [← ex26] at hw
    try rw [← ex26] at hrun
    replace hcR : (0 + d26) + dn26 = dnZ := by omega
    replace hsR : (0 + s26) + ds26 = dsZ := by omega
    replace hnR : nx26l + dn26 = nxZ + dnZ := by omega
    clear en26 es26 ex26
    try dsimp only at hrun
    refine lv_aload_n hx hb d_Whole_run_122 rfl (lv_at hl 0 rfl) ?_
    replace hrun := hb_some hrun
    obtain ⟨v123, g123, hrun⟩ := hrun
    refine h_getI S (fun w q => hT w (i_Whole w q)) hK (ci := 11) rfl 5 (by decide) (hT _ fl_Whole_39) hw g123 d_Whole_run_123 ?_
    refine lv_if_ne (tgt := 139) hx hb d_Whole_run_126 (by decide) (fun c126 => ?_) (fun c126 => ?_)
    · rw [if_neg c126] at hrun
      refine lv_iconst (v := (1 : Int32)) hx hb d_Whole_run_139 (by decide) ?_
      refine lv_goto (tgt := 144) hx hb d_Whole_run_140 (by decide) ?_
      cases hrun
      refine W.widen (k := dnZ) (n := dsZ) (by omega) (by omega) ?_
      rw [show nx26l = nxZ + dnZ by omega] at hw
      exact W.iret hx hb hr (fun t ht hW9 => ⟨⟨_, (), rfl, rfl, by show hW D dA classes b0 _ _ t.heap; rw [ht]; exact hw⟩, hS.F ht⟩) hS.2.2 d_Whole_run_144
    · rw [if_pos c126] at hrun
      refine lv_aload_n hx hb d_Whole_run_129 rfl (lv_at hl 0 rfl) ?_
      replace hrun := hb_some hrun
      obtain ⟨v130, g130, hrun⟩ := hrun
      refine h_getR S (fun w q => hT w (i_Whole w q)) hK (ci := 11) rfl 3 (by decide) (hT _ fl_Whole_26) hw g130 d_Whole_run_130 ?_
      replace hrun := hb_some hrun
      obtain ⟨p133, rfl, hrun⟩ := hrun
      replace hrun := hb_some hrun
      obtain ⟨c133, k133, hrun⟩ := hrun
      replace hrun := hb_some hrun
      obtain ⟨v133, g133, hrun⟩ := hrun
      refine h_ci (h_runV S (As := []) (rest := []) (c_Definition_isUnderWay l D dA b0 p133 nx26l g133) (cwV 0 S.2.2.2.2 (h_good _ (h_in4 ml_Whole_71 im_Definition_isUnderWay se_Definition_isUnderWay it_Definition) cd_Definition_isUnderWay) rfl rfl rfl (by decide +kernel) ⟨Nat.le_of_ble_eq_true rfl, Nat.le_of_ble_eq_true rfl⟩) hK hN hw (ci := 4) rfl k133 rfl hl.1 (lv_room (Nat.le_of_ble_eq_true rfl)) d_Whole_run_133 ⟨show (0 + d26) + 0 ≤ dnZ by omega, show (0 + s26) + 0 ≤ dsZ by omega⟩) hS (fun H locs hw hS => ?_)
      refine lv_if_eq (tgt := 143) hx hb d_Whole_run_136 (by decide) (fun c136 => ?_) (fun c136 => ?_)
      · rw [if_pos c136] at hrun
        refine lv_iconst (v := (0 : Int32)) hx hb d_Whole_run_143 (by decide) ?_
        cases hrun
        refine W.widen (k := dnZ) (n := dsZ) (by omega) (by omega) ?_
        rw [show nx26l = nxZ + dnZ by omega] at hw
        exact W.iret hx hb hr (fun t ht hW9 => ⟨⟨_, (), rfl, rfl, by show hW D dA classes b0 _ _ t.heap; rw [ht]; exact hw⟩, hS.F ht⟩) hS.2.2 d_Whole_run_144
      · rw [if_neg c136] at hrun
        refine lv_iconst (v := (1 : Int32)) hx hb d_Whole_run_139 (by decide) ?_
        refine lv_goto (tgt := 144) hx hb d_Whole_run_140 (by decide) ?_
        cases hrun
        refine W.widen (k := dnZ) (n := dsZ) (by omega) (by omega) ?_
        rw [show nx26l = nxZ + dnZ by omega] at hw
        exact W.iret hx hb hr (fun t ht hW9 => ⟨⟨_, (), rfl, rfl, by show hW D dA classes b0 _ _ t.heap; rw [ht]; exact hw⟩, hS.F ht⟩) hS.2.2 d_Whole_run_144
set_option maxHeartbeats 4000000 in
set_option maxRecDepth 100000 in
theorem c_Input_clear (l : Launch) (D : va_G) (dA : Nat → ClassId) (b0 : Nat) (a0 : Nat) (nx : Nat) {h h' : hH} {r : Unit} (hrun : f_Input_clear a0 h = some (r, h')) : Met l y_Input_clear w_Input_clear ({ frames := 0, cells := 0, slots := 0, locals := 0 } : Room) (va_Pc [.ref a0] (hB D dA b0 nx h)) (va_Qv (fun (_ : Unit) => True) (fun (_ : Unit) t => hW D dA classes b0 nx h' t.heap) (hA b0)) 0 0 (hA b0) := by
  refine Met.ofW (cc := b_Input_clear) (maxL := 1) (ret := none) (by decide) rfl ?_
  intro p e s m args below meth c s₁ B hml hv
  obtain ⟨rfl, hw, hK, hN⟩ := hv
  have hx := B.exec
  have hb := B.bytes
  have hr := B.returns
  have hlocks := B.notSynchronized
  have S : CallFix p m c b_Input_clear 1 s ([.ref a0] : List Value).toArray w_Input_clear R_Input := ⟨hx, hb, hml, findClass_of_methodNamed B.named, atoms_spec (ws := w_Input_clear) B.pre⟩
  have hT : ∀ w ∈ tbl, w ∈ w_Input_clear := fun _ q => List.mem_cons_of_mem _ q
  have hS : va_S (hA b0) s.heap s.heap [] := va_S.rf
  have hl := lv_entry ([.ref a0]) (n := 1) (Nat.le_of_ble_eq_true rfl)
  rw [lg_entry_eq]
  generalize (lg_sl ([.ref a0]) ++ List.replicate (1 - (lg_sl ([.ref a0])).length) Slot.unset).toArray = ls at hl ⊢
  have hl : lv_has ls 1 [(0, .ref a0)] := hl
  unfold f_Input_clear at hrun
  refine lv_aload_n hx hb d_Input_clear_0 rfl (lv_at hl 0 rfl) ?_
  refine lv_iconst (v := (0 : Int32)) hx hb d_Input_clear_1 (by decide) ?_
  replace hrun := hb_some hrun
  obtain ⟨h2, g2, hrun⟩ := hrun
  refine h_put S (fun w q => hT w (i_Input w q)) t_Input t_Input_ok n_Input hK (ci := 6) rfl 1 (by decide) (hT _ fl_Input_15) rfl rfl rfl hw hS g2 d_Input_clear_2 (fun H locs hw hS => ?_)
  cases hrun
  exact W.vret hx hb hr (fun t ht hW9 => ⟨⟨(), rfl, trivial, by show hW D dA classes b0 _ _ t.heap; rw [ht]; exact hw⟩, hS.F ht⟩) hS.2.2 d_Input_clear_5
set_option maxHeartbeats 4000000 in
set_option maxRecDepth 100000 in
theorem c_MacroExpand_expand (l : Launch) (D : va_G) (dA : Nat → ClassId) (b0 : Nat) (n : Nat) (a0 : Nat) (i1 : Int32) (nxZ : Nat) {h h' : hH} {r : Int32} {dnZ dsZ : Nat} (hrun : f_MacroExpand_expand n a0 i1 nxZ h = some (r, dnZ, dsZ, h')) : Met l y_MacroExpand_expand w_MacroExpand_expand ({ frames := 8, cells := dnZ, slots := dsZ, locals := 212 } : Room) (va_Pc [.ref a0, .int i1] (hB D dA b0 nxZ h)) (va_Qi (fun r' (_ : Unit) => r' = r) (fun (_ : Unit) t => hW D dA classes b0 (nxZ + dnZ) h' t.heap) (hA b0)) dnZ dsZ (hA b0) := by
  refine Met.ofW (cc := b_MacroExpand_expand) (maxL := 3) (ret := (some .int)) (by decide) rfl ?_
  intro p e s m args below meth c s₁ B hml hv
  obtain ⟨rfl, hw, hK, hN⟩ := hv
  have hx := B.exec
  have hb := B.bytes
  have hr := B.returns
  have hlocks := B.notSynchronized
  have S : CallFix p m c b_MacroExpand_expand 3 s ([.ref a0, .int i1] : List Value).toArray w_MacroExpand_expand R_MacroExpand := ⟨hx, hb, hml, findClass_of_methodNamed B.named, atoms_spec (ws := w_MacroExpand_expand) B.pre⟩
  have hT : ∀ w ∈ tbl, w ∈ w_MacroExpand_expand := fun _ q => List.mem_cons_of_mem _ q
  have hS : va_S (hA b0) s.heap s.heap [] := va_S.rf
  have hl := lv_entry ([.ref a0, .int i1]) (n := 3) (Nat.le_of_ble_eq_true rfl)
  rw [lg_entry_eq]
  generalize (lg_sl ([.ref a0, .int i1]) ++ List.replicate (3 - (lg_sl ([.ref a0, .int i1])).length) Slot.unset).toArray = ls at hl ⊢
  have hl : lv_has ls 3 [(0, .ref a0), (1, .int i1)] := hl
  obtain ⟨dn, edn⟩ : ∃ z, z = dnZ := ⟨_, rfl⟩
  obtain ⟨ds, eds⟩ : ∃ z, z = dsZ := ⟨_, rfl⟩
  obtain ⟨nx, enx⟩ : ∃ z, z = nxZ := ⟨_, rfl⟩
  rw [← edn, ← eds, ← enx] at hrun
  rw [← enx] at hw
  have hcR : 0 + dn = dnZ := by omega
  have hsR : 0 + ds = dsZ := by omega
  have hnR : nx + dn = nxZ + dnZ := by omega
  clear edn eds enx
  have j_63 : ∀  (x1 : Int32) (x2 : Int32) (y0 : Option Nat) (y1 : Int32) (cells slots dn ds nx : Nat) (h : hH) (H : Heap) (locs : List Loc) (ls : Array Slot), f_MacroExpand_expand_j63 n a0 x1 x2 y0 y1 nx h = some (r, dn, ds, h') → cells + dn = dnZ → slots + ds = dsZ → nx + dn = nxZ + dnZ → hW D dA classes b0 nx h H → va_S (hA b0) s.heap H locs → lv_has ls 3 [(0, .ref a0), (1, .int x1), (2, .int x2)] → W p l e (headSpec w_MacroExpand_expand ({ frames := 8, cells := dnZ, slots := dsZ, locals := 212 } : Room)).room s m ([.ref a0, .int i1] : List Value).toArray below meth c H locs cells slots (MQ below (va_Qi (fun r' (_ : Unit) => r' = r) (fun (_ : Unit) t => hW D dA classes b0 (nxZ + dnZ) h' t.heap) (hA b0)) ([.ref a0, .int i1] : List Value).toArray s dnZ dsZ (hA b0)) (F0 m 63 ls [.int y1, va_rf y0]) := by
    intro x1 x2 y0 y1 cells slots dn ds nx h H locs ls hrun hcR hsR hnR hw hS hl
    unfold f_MacroExpand_expand_j63 at hrun
    replace hrun := hb_some hrun
    obtain ⟨p63, rfl, hrun⟩ := hrun
    replace hrun := hb_some hrun
    obtain ⟨h63, g63, hrun⟩ := hrun
    refine h_put S (fun w q => hT w (i_MacroExpand w q)) t_MacroExpand t_MacroExpand_ok n_MacroExpand hK (ci := 0) rfl 6 (by decide) (hT _ fl_MacroExpand_63) rfl rfl rfl hw hS g63 d_MacroExpand_expand_63 (fun H locs hw hS => ?_)
    refine lv_iload_n hx hb d_MacroExpand_expand_66 rfl (lv_at hl 2 rfl) ?_
    refine lv_if_eq (tgt := 80) hx hb d_MacroExpand_expand_67 (by decide) (fun c67 => ?_) (fun c67 => ?_)
    · rw [if_pos c67] at hrun
      refine lv_iload_n hx hb d_MacroExpand_expand_80 rfl (lv_at hl 1 rfl) ?_
      refine lv_if_eq (tgt := 97) hx hb d_MacroExpand_expand_81 (by decide) (fun c81 => ?_) (fun c81 => ?_)
      · rw [if_pos c81] at hrun
        refine lv_aload_n hx hb d_MacroExpand_expand_97 rfl (lv_at hl 0 rfl) ?_
        replace hrun := hb_some hrun
        obtain ⟨v98, g98, hrun⟩ := hrun
        refine h_getR S (fun w q => hT w (i_MacroExpand w q)) hK (ci := 0) rfl 2 (by decide) (hT _ fl_MacroExpand_37) hw g98 d_MacroExpand_expand_98 ?_
        replace hrun := hb_some hrun
        obtain ⟨p101, rfl, hrun⟩ := hrun
        replace hrun := hb_some hrun
        obtain ⟨v101, g101, hrun⟩ := hrun
        refine h_getNI S (fun w q => hT w (i_Input w q)) hK (ci := 6) rfl 1 (by decide) (hN.1 _ nf_MacroExpand_112) hw g101 d_MacroExpand_expand_101 ?_
        cases hrun
        refine W.widen (k := dnZ) (n := dsZ) (by omega) (by omega) ?_
        rw [show nx = nxZ + dnZ by omega] at hw
        exact W.iret hx hb hr (fun t ht hW9 => ⟨⟨_, (), rfl, rfl, by show hW D dA classes b0 _ _ t.heap; rw [ht]; exact hw⟩, hS.F ht⟩) hS.2.2 d_MacroExpand_expand_104
      · rw [if_neg c81] at hrun
        refine lv_aload_n hx hb d_MacroExpand_expand_84 rfl (lv_at hl 0 rfl) ?_
        replace hrun := hb_some hrun
        obtain ⟨v85, g85, hrun⟩ := hrun
        refine h_getR S (fun w q => hT w (i_MacroExpand w q)) hK (ci := 0) rfl 4 (by decide) (hT _ fl_MacroExpand_55) hw g85 d_MacroExpand_expand_85 ?_
        replace hrun := hb_some hrun
        obtain ⟨p88, rfl, hrun⟩ := hrun
        replace hrun := hb_some hrun
        obtain ⟨v88, g88, hrun⟩ := hrun
        refine h_getNR S (fun w q => hT w (i_Whole w q)) hK (ci := 11) rfl 4 (by decide) (hN.1 _ nf_MacroExpand_134) hw g88 d_MacroExpand_expand_88 ?_
        replace hrun := hb_some hrun
        obtain ⟨p91, rfl, hrun⟩ := hrun
        replace hrun := hb_some hrun
        obtain ⟨v91, g91, hrun⟩ := hrun
        refine h_getNI S (fun w q => hT w (i_Row w q)) hK (ci := 8) rfl 2 (by decide) (hN.1 _ nf_MacroExpand_137) hw g91 d_MacroExpand_expand_91 ?_
        refine lv_goto (tgt := 104) hx hb d_MacroExpand_expand_94 (by decide) ?_
        cases hrun
        refine W.widen (k := dnZ) (n := dsZ) (by omega) (by omega) ?_
        rw [show nx = nxZ + dnZ by omega] at hw
        exact W.iret hx hb hr (fun t ht hW9 => ⟨⟨_, (), rfl, rfl, by show hW D dA classes b0 _ _ t.heap; rw [ht]; exact hw⟩, hS.F ht⟩) hS.2.2 d_MacroExpand_expand_104
    · rw [if_neg c67] at hrun
      refine lv_aload_n hx hb d_MacroExpand_expand_70 rfl (lv_at hl 0 rfl) ?_
      replace hrun := hb_some hrun
      obtain ⟨v71, g71, hrun⟩ := hrun
      refine h_getR S (fun w q => hT w (i_MacroExpand w q)) hK (ci := 0) rfl 2 (by decide) (hT _ fl_MacroExpand_37) hw g71 d_MacroExpand_expand_71 ?_
      replace hrun := hb_some hrun
      obtain ⟨p74, rfl, hrun⟩ := hrun
      replace hrun := hb_some hrun
      obtain ⟨c74, k74, hrun⟩ := hrun
      replace hrun := hbW_some hrun
      obtain ⟨_u74, h74, g74, hrun⟩ := hrun
      refine h_cv (h_runV S (As := []) (rest := []) (c_Input_clear l D dA b0 p74 nx g74) (cwV 0 S.2.2.2.2 (h_good _ (h_in4 ml_MacroExpand_131 im_Input_clear se_Input_clear it_Input) cd_Input_clear) rfl rfl rfl (by decide +kernel) ⟨Nat.le_of_ble_eq_true rfl, Nat.le_of_ble_eq_true rfl⟩) hK hN hw (ci := 6) rfl k74 rfl hl.1 (lv_room (Nat.le_of_ble_eq_true rfl)) d_MacroExpand_expand_74 ⟨show cells + 0 ≤ dnZ by omega, show slots + 0 ≤ dsZ by omega⟩) hS (fun H locs hw hS => ?_)
      refine lv_iload_n hx hb d_MacroExpand_expand_77 rfl (lv_at hl 2 rfl) ?_
      refine lv_ineg hx hb d_MacroExpand_expand_78 ?_
      cases hrun
      refine W.widen (k := dnZ) (n := dsZ) (by omega) (by omega) ?_
      rw [show nx = nxZ + dnZ by omega] at hw
      exact W.iret hx hb hr (fun t ht hW9 => ⟨⟨_, (), rfl, rfl, by show hW D dA classes b0 _ _ t.heap; rw [ht]; exact hw⟩, hS.F ht⟩) hS.2.2 d_MacroExpand_expand_79
  have j_42 : ∀  (x1 : Int32) (x2 : Int32) (cells slots dn ds nx : Nat) (h : hH) (H : Heap) (locs : List Loc) (ls : Array Slot), f_MacroExpand_expand_j42 n a0 x1 x2 nx h = some (r, dn, ds, h') → cells + dn = dnZ → slots + ds = dsZ → nx + dn = nxZ + dnZ → hW D dA classes b0 nx h H → va_S (hA b0) s.heap H locs → lv_has ls 3 [(0, .ref a0), (1, .int x1), (2, .int x2)] → W p l e (headSpec w_MacroExpand_expand ({ frames := 8, cells := dnZ, slots := dsZ, locals := 212 } : Room)).room s m ([.ref a0, .int i1] : List Value).toArray below meth c H locs cells slots (MQ below (va_Qi (fun r' (_ : Unit) => r' = r) (fun (_ : Unit) t => hW D dA classes b0 (nxZ + dnZ) h' t.heap) (hA b0)) ([.ref a0, .int i1] : List Value).toArray s dnZ dsZ (hA b0)) (F0 m 42 ls []) := by
    intro x1 x2 cells slots dn ds nx h H locs ls hrun hcR hsR hnR hw hS hl
    unfold f_MacroExpand_expand_j42 at hrun
    refine lv_aload_n hx hb d_MacroExpand_expand_42 rfl (lv_at hl 0 rfl) ?_
    refine lv_iload_n hx hb d_MacroExpand_expand_43 rfl (lv_at hl 2 rfl) ?_
    replace hrun := hb_some hrun
    obtain ⟨h44, g44, hrun⟩ := hrun
    refine h_put S (fun w q => hT w (i_MacroExpand w q)) t_MacroExpand t_MacroExpand_ok n_MacroExpand hK (ci := 0) rfl 5 (by decide) (hT _ fl_MacroExpand_59) rfl rfl rfl hw hS g44 d_MacroExpand_expand_44 (fun H locs hw hS => ?_)
    refine lv_aload_n hx hb d_MacroExpand_expand_47 rfl (lv_at hl 0 rfl) ?_
    refine lv_iload_n hx hb d_MacroExpand_expand_48 rfl (lv_at hl 2 rfl) ?_
    refine lv_if_ne (tgt := 56) hx hb d_MacroExpand_expand_49 (by decide) (fun c49 => ?_) (fun c49 => ?_)
    · rw [if_neg c49] at hrun
      refine lv_aload_n hx hb d_MacroExpand_expand_56 rfl (lv_at hl 0 rfl) ?_
      replace hrun := hb_some hrun
      obtain ⟨v57, g57, hrun⟩ := hrun
      refine h_getR S (fun w q => hT w (i_MacroExpand w q)) hK (ci := 0) rfl 3 (by decide) (hT _ fl_MacroExpand_46) hw g57 d_MacroExpand_expand_57 ?_
      replace hrun := hb_some hrun
      obtain ⟨p60, rfl, hrun⟩ := hrun
      replace hrun := hb_some hrun
      obtain ⟨v60, g60, hrun⟩ := hrun
      refine h_getNI S (fun w q => hT w (i_Expander w q)) hK (ci := 5) rfl 13 (by decide) (hN.1 _ nf_MacroExpand_128) hw g60 d_MacroExpand_expand_60 ?_
      exact j_63 x1 x2 (some a0) v60 cells slots _ _ nx h44 _ _ _ hrun hcR hsR hnR hw hS (lv_sub hl [0, 1, 2] rfl)
    · rw [if_pos c49] at hrun
      refine lv_iconst (v := (0 : Int32)) hx hb d_MacroExpand_expand_52 (by decide) ?_
      refine lv_goto (tgt := 63) hx hb d_MacroExpand_expand_53 (by decide) ?_
      exact j_63 x1 x2 (some a0) (0 : Int32) cells slots _ _ nx h44 _ _ _ hrun hcR hsR hnR hw hS (lv_sub hl [0, 1, 2] rfl)
  unfold f_MacroExpand_expand at hrun
  refine lv_aload_n hx hb d_MacroExpand_expand_0 rfl (lv_at hl 0 rfl) ?_
  replace hrun := hb_some hrun
  obtain ⟨v1, g1, hrun⟩ := hrun
  refine h_getR S (fun w q => hT w (i_MacroExpand w q)) hK (ci := 0) rfl 3 (by decide) (hT _ fl_MacroExpand_46) hw g1 d_MacroExpand_expand_1 ?_
  replace hrun := hb_some hrun
  obtain ⟨p4, rfl, hrun⟩ := hrun
  replace hrun := hb_some hrun
  obtain ⟨c4, k4, hrun⟩ := hrun
  replace hrun := hbW_some hrun
  obtain ⟨_u4, h4, g4, hrun⟩ := hrun
  refine h_cv (h_runV S (As := []) (rest := []) (c_Expander_begin l D dA b0 p4 nx g4) (cwV 0 S.2.2.2.2 (h_good _ (h_in4 ml_MacroExpand_115 im_Expander_begin se_Expander_begin it_Expander) cd_Expander_begin) rfl rfl rfl (by decide +kernel) ⟨Nat.le_of_ble_eq_true rfl, Nat.le_of_ble_eq_true rfl⟩) hK hN hw (ci := 5) rfl k4 rfl hl.1 (lv_room (Nat.le_of_ble_eq_true rfl)) d_MacroExpand_expand_4 ⟨show 0 + 0 ≤ dnZ by omega, show 0 + 0 ≤ dsZ by omega⟩) hS (fun H locs hw hS => ?_)
  refine lv_iconst (v := (0 : Int32)) hx hb d_MacroExpand_expand_7 (by decide) ?_
  refine lv_istore_n (lv' := [(2, .int (0 : Int32)), (0, .ref a0), (1, .int i1)]) hx hb d_MacroExpand_expand_8 rfl hl (by decide) rfl (fun ls hl => ?_)
  refine lv_iload_n hx hb d_MacroExpand_expand_9 rfl (lv_at hl 2 rfl) ?_
  refine lv_if_eq (tgt := 24) hx hb d_MacroExpand_expand_10 (by decide) (fun c10 => ?_) (fun c10 => ?_)
  · rw [if_pos c10] at hrun
    refine lv_aload_n hx hb d_MacroExpand_expand_24 rfl (lv_at hl 1 rfl) ?_
    replace hrun := hb_some hrun
    obtain ⟨v25, g25, hrun⟩ := hrun
    refine h_getR S (fun w q => hT w (i_MacroExpand w q)) hK (ci := 0) rfl 3 (by decide) (hT _ fl_MacroExpand_46) hw g25 d_MacroExpand_expand_25 ?_
    replace hrun := hb_some hrun
    obtain ⟨p28, rfl, hrun⟩ := hrun
    replace hrun := hb_some hrun
    obtain ⟨c28, k28, hrun⟩ := hrun
    replace hrun := hb_some hrun
    obtain ⟨v28, g28, hrun⟩ := hrun
    refine h_ci (h_runV S (As := []) (rest := []) (c_Expander_canExpand l D dA b0 p28 nx g28) (cwV 0 S.2.2.2.2 (h_good _ (h_in4 ml_MacroExpand_122 im_Expander_canExpand se_Expander_canExpand it_Expander) cd_Expander_canExpand) rfl rfl rfl (by decide +kernel) ⟨Nat.le_of_ble_eq_true rfl, Nat.le_of_ble_eq_true rfl⟩) hK hN hw (ci := 5) rfl k28 rfl hl.1 (lv_room (Nat.le_of_ble_eq_true rfl)) d_MacroExpand_expand_28 ⟨show 0 + 0 ≤ dnZ by omega, show 0 + 0 ≤ dsZ by omega⟩) hS (fun H locs hw hS => ?_)
    refine lv_if_eq (tgt := 42) hx hb d_MacroExpand_expand_31 (by decide) (fun c31 => ?_) (fun c31 => ?_)
    · rw [if_pos c31] at hrun
      exact j_42 i1 (0 : Int32) 0 0 _ _ nx h4 _ _ _ hrun hcR hsR hnR hw hS (lv_sub hl [1, 2, 0] rfl)
    · rw [if_neg c31] at hrun
      refine lv_aload_n hx hb d_MacroExpand_expand_34 rfl (lv_at hl 1 rfl) ?_
      replace hrun := hb_some hrun
      obtain ⟨v35, g35, hrun⟩ := hrun
      refine h_getR S (fun w q => hT w (i_MacroExpand w q)) hK (ci := 0) rfl 3 (by decide) (hT _ fl_MacroExpand_46) hw g35 d_MacroExpand_expand_35 ?_
      replace hrun := hb_some hrun
      obtain ⟨p38, rfl, hrun⟩ := hrun
      replace hrun := hb_some hrun
      obtain ⟨c38, k38, hrun⟩ := hrun
      replace hrun := hbind_some hrun
      obtain ⟨v38, d38, s38, h38, dn38, ds38, g38, hrun, en38, es38⟩ := hrun
      refine h_ci (h_runV S (As := []) (rest := []) (c_Expander_expandOnce l D dA b0 n p38 nx g38) (cwV 0 S.2.2.2.2 (h_good _ (h_in4 ml_MacroExpand_125 im_Expander_expandOnce se_Expander_expandOnce it_Expander) cd_Expander_expandOnce) rfl rfl rfl (by decide +kernel) ⟨Nat.le_of_ble_eq_true rfl, Nat.le_of_ble_eq_true rfl⟩) hK hN hw (ci := 5) rfl k38 rfl hl.1 (lv_room (Nat.le_of_ble_eq_true rfl)) d_MacroExpand_expand_38 ⟨show 0 + d38 ≤ dnZ by omega, show 0 + s38 ≤ dsZ by omega⟩) hS (fun H locs hw hS => ?_)
      obtain ⟨nx38, ex38⟩ : ∃ z, z = nx + d38 := ⟨_, rfl⟩
      rw [← ex38] at hw
      try rw [← ex38] at hrun
      replace hcR : (0 + d38) + dn38 = dnZ := by omega
      replace hsR : (0 + s38) + ds38 = dsZ := by omega
      replace hnR : nx38 + dn38 = nxZ + dnZ := by omega
      clear en38 es38 ex38
      refine lv_istore_n (lv' := [(2, .int v38), (0, .ref a0), (1, .int i1)]) hx hb d_MacroExpand_expand_41 rfl hl (by decide) rfl (fun ls hl => ?_)
      exact j_42 i1 v38 (0 + d38) (0 + s38) _ _ nx38 h38 _ _ _ hrun hcR hsR hnR hw hS (lv_sub hl [1, 2, 0] rfl)
  · rw [if_neg c10] at hrun
    refine lv_aload_n hx hb d_MacroExpand_expand_13 rfl (lv_at hl 1 rfl) ?_
    replace hrun := hb_some hrun
    obtain ⟨v14, g14, hrun⟩ := hrun
    refine h_getR S (fun w q => hT w (i_MacroExpand w q)) hK (ci := 0) rfl 4 (by decide) (hT _ fl_MacroExpand_55) hw g14 d_MacroExpand_expand_14 ?_
    replace hrun := hb_some hrun
    obtain ⟨p17, rfl, hrun⟩ := hrun
    replace hrun := hb_some hrun
    obtain ⟨c17, k17, hrun⟩ := hrun
    replace hrun := hbind_some hrun
    obtain ⟨v17, d17, s17, h17, dn17, ds17, g17, hrun, en17, es17⟩ := hrun
    refine h_ci (h_runV S (As := []) (rest := []) (c_Whole_run l D dA b0 n p17 nx g17) (cwV 0 S.2.2.2.2 (h_good _ (h_in4 ml_MacroExpand_118 im_Whole_run se_Whole_run it_Whole) cd_Whole_run) rfl rfl rfl (by decide +kernel) ⟨Nat.le_of_ble_eq_true rfl, Nat.le_of_ble_eq_true rfl⟩) hK hN hw (ci := 11) rfl k17 rfl hl.1 (lv_room (Nat.le_of_ble_eq_true rfl)) d_MacroExpand_expand_17 ⟨show 0 + d17 ≤ dnZ by omega, show 0 + s17 ≤ dsZ by omega⟩) hS (fun H locs hw hS => ?_)
    obtain ⟨nx17, ex17⟩ : ∃ z, z = nx + d17 := ⟨_, rfl⟩
    rw [← ex17] at hw
    try rw [← ex17] at hrun
    replace hcR : (0 + d17) + dn17 = dnZ := by omega
    replace hsR : (0 + s17) + ds17 = dsZ := by omega
    replace hnR : nx17 + dn17 = nxZ + dnZ := by omega
    clear en17 es17 ex17
    refine lv_istore_n (lv' := [(2, .int v17), (0, .ref a0), (1, .int i1)]) hx hb d_MacroExpand_expand_20 rfl hl (by decide) rfl (fun ls hl => ?_)
    refine lv_goto (tgt := 42) hx hb d_MacroExpand_expand_21 (by decide) ?_
    exact j_42 i1 v17 (0 + d17) (0 + s17) _ _ nx17 h17 _ _ _ hrun hcR hsR hnR hw hS (lv_sub hl [1, 2, 0] rfl)
