set_option maxHeartbeats 4000000 in
set_option maxRecDepth 100000 in
theorem c_Expander_expandFirst (l : Launch) (D : va_G) (dA : Nat → ClassId) (b0 : Nat) (n : Nat) (a0 : Nat) (nxZ : Nat) {h h' : hH} {r : Int32} {dnZ dsZ : Nat} (hrun : f_Expander_expandFirst n a0 nxZ h = some (r, dnZ, dsZ, h')) : Met l y_Expander_expandFirst w_Expander_expandFirst ({ frames := 5, cells := dnZ, slots := dsZ, locals := 144 } : Room) (va_Pc [.ref a0] (hB D dA b0 nxZ h)) (va_Qi (fun r' (_ : Unit) => r' = r) (fun (_ : Unit) t => hW D dA classes b0 (nxZ + dnZ) h' t.heap) (hA b0)) dnZ dsZ (hA b0) := by
  refine Met.ofW (cc := b_Expander_expandFirst) (maxL := 3) (ret := (some .int)) (by decide) rfl ?_
  intro p e s m args below meth c s₁ B hml hv
  obtain ⟨rfl, hw, hK, hN⟩ := hv
  have hx := B.exec
  have hb := B.bytes
  have hr := B.returns
  have hlocks := B.notSynchronized
  have S : CallFix p m c b_Expander_expandFirst 3 s ([.ref a0] : List Value).toArray w_Expander_expandFirst R_Expander := ⟨hx, hb, hml, findClass_of_methodNamed B.named, atoms_spec (ws := w_Expander_expandFirst) B.pre⟩
  have hT : ∀ w ∈ tbl, w ∈ w_Expander_expandFirst := fun _ q => List.mem_cons_of_mem _ q
  have hS : va_S (hA b0) s.heap s.heap [] := va_S.rf
  have hl := lv_entry ([.ref a0]) (n := 3) (Nat.le_of_ble_eq_true rfl)
  rw [lg_entry_eq]
  generalize (lg_sl ([.ref a0]) ++ List.replicate (3 - (lg_sl ([.ref a0])).length) Slot.unset).toArray = ls at hl ⊢
  have hl : lv_has ls 3 [(0, .ref a0)] := hl
  obtain ⟨dn, edn⟩ : ∃ z, z = dnZ := ⟨_, rfl⟩
  obtain ⟨ds, eds⟩ : ∃ z, z = dsZ := ⟨_, rfl⟩
  obtain ⟨nx, enx⟩ : ∃ z, z = nxZ := ⟨_, rfl⟩
  rw [← edn, ← eds, ← enx] at hrun
  rw [← enx] at hw
  have hcR : 0 + dn = dnZ := by omega
  have hsR : 0 + ds = dsZ := by omega
  have hnR : nx + dn = nxZ + dnZ := by omega
  clear edn eds enx
  unfold f_Expander_expandFirst at hrun
  refine lv_aload_n hx hb d_Expander_expandFirst_0 rfl (lv_at hl 0 rfl) ?_
  replace hrun := hb_some hrun
  obtain ⟨v1, g1, hrun⟩ := hrun
  refine h_getI S (fun w q => hT w (i_Expander w q)) hK (ci := 5) rfl 12 (by decide) (hT _ fl_Expander_66) hw g1 d_Expander_expandFirst_1 ?_
  refine lv_aload_n hx hb d_Expander_expandFirst_4 rfl (lv_at hl 0 rfl) ?_
  replace hrun := hb_some hrun
  obtain ⟨v5, g5, hrun⟩ := hrun
  refine h_getI S (fun w q => hT w (i_Expander w q)) hK (ci := 5) rfl 0 (by decide) (hT _ fl_Expander_9) hw g5 d_Expander_expandFirst_5 ?_
  refine lv_icmp_lt (tgt := 13) hx hb d_Expander_expandFirst_8 (by decide) (fun c8 => ?_) (fun c8 => ?_)
  · rw [if_pos c8] at hrun
    refine lv_aload_n hx hb d_Expander_expandFirst_13 rfl (lv_at hl 0 rfl) ?_
    refine lv_dup hx hb d_Expander_expandFirst_14 rfl ?_
    replace hrun := hb_some hrun
    obtain ⟨v15, g15, hrun⟩ := hrun
    refine h_getI S (fun w q => hT w (i_Expander w q)) hK (ci := 5) rfl 12 (by decide) (hT _ fl_Expander_66) hw g15 d_Expander_expandFirst_15 ?_
    refine lv_iconst (v := (1 : Int32)) hx hb d_Expander_expandFirst_18 (by decide) ?_
    refine lv_iadd hx hb d_Expander_expandFirst_19 ?_
    replace hrun := hb_some hrun
    obtain ⟨h20, g20, hrun⟩ := hrun
    refine h_put S (fun w q => hT w (i_Expander w q)) t_Expander t_Expander_ok n_Expander hK (ci := 5) rfl 12 (by decide) (hT _ fl_Expander_66) rfl rfl rfl hw hS g20 d_Expander_expandFirst_20 (fun H locs hw hS => ?_)
    refine lv_aload_n hx hb d_Expander_expandFirst_23 rfl (lv_at hl 0 rfl) ?_
    replace hrun := hb_some hrun
    obtain ⟨v24, g24, hrun⟩ := hrun
    refine h_getR S (fun w q => hT w (i_Expander w q)) hK (ci := 5) rfl 1 (by decide) (hT _ fl_Expander_15) hw g24 d_Expander_expandFirst_24 ?_
    replace hrun := hb_some hrun
    obtain ⟨p27, rfl, hrun⟩ := hrun
    replace hrun := hb_some hrun
    obtain ⟨c27, k27, hrun⟩ := hrun
    replace hrun := hbW_some hrun
    obtain ⟨v27, h27, g27, hrun⟩ := hrun
    refine h_ci (h_runV S (As := []) (rest := []) (c_Input_take l D dA b0 p27 nx g27) (cwV 0 S.2.2.2.2 (h_good _ (h_in4 ml_Expander_84 im_Input_take se_Input_take it_Input) cd_Input_take) rfl rfl rfl (by decide +kernel) ⟨Nat.le_of_ble_eq_true rfl, Nat.le_of_ble_eq_true rfl⟩) hK hN hw (ci := 6) rfl k27 rfl hl.1 (lv_room (Nat.le_of_ble_eq_true rfl)) d_Expander_expandFirst_27 ⟨show 0 + 0 ≤ dnZ by omega, show 0 + 0 ≤ dsZ by omega⟩) hS (fun H locs hw hS => ?_)
    refine lv_istore_n (lv' := [(1, .int v27), (0, .ref a0)]) hx hb d_Expander_expandFirst_30 rfl hl (by decide) rfl (fun ls hl => ?_)
    refine lv_iload_n hx hb d_Expander_expandFirst_31 rfl (lv_at hl 0 rfl) ?_
    refine lv_sipush (v := (260 : Int32)) hx hb d_Expander_expandFirst_32 (by decide) ?_
    refine lv_icmp_ne (tgt := 59) hx hb d_Expander_expandFirst_35 (by decide) (fun c35 => ?_) (fun c35 => ?_)
    · rw [if_neg c35] at hrun
      refine lv_iload_n hx hb d_Expander_expandFirst_59 rfl (lv_at hl 0 rfl) ?_
      refine lv_sipush (v := (261 : Int32)) hx hb d_Expander_expandFirst_60 (by decide) ?_
      refine lv_icmp_ne (tgt := 71) hx hb d_Expander_expandFirst_63 (by decide) (fun c63 => ?_) (fun c63 => ?_)
      · rw [if_neg c63] at hrun
        refine lv_iload_n hx hb d_Expander_expandFirst_71 rfl (lv_at hl 0 rfl) ?_
        refine lv_sipush (v := (262 : Int32)) hx hb d_Expander_expandFirst_72 (by decide) ?_
        refine lv_icmp_ne (tgt := 83) hx hb d_Expander_expandFirst_75 (by decide) (fun c75 => ?_) (fun c75 => ?_)
        · rw [if_neg c75] at hrun
          refine lv_aload_n hx hb d_Expander_expandFirst_83 rfl (lv_at hl 1 rfl) ?_
          replace hrun := hb_some hrun
          obtain ⟨v84, g84, hrun⟩ := hrun
          refine h_getR S (fun w q => hT w (i_Expander w q)) hK (ci := 5) rfl 2 (by decide) (hT _ fl_Expander_19) hw g84 d_Expander_expandFirst_84 ?_
          refine lv_iload_n hx hb d_Expander_expandFirst_87 rfl (lv_at hl 0 rfl) ?_
          replace hrun := hb_some hrun
          obtain ⟨p88, rfl, hrun⟩ := hrun
          replace hrun := hb_some hrun
          obtain ⟨c88, k88, hrun⟩ := hrun
          replace hrun := hb_some hrun
          obtain ⟨v88, g88, hrun⟩ := hrun
          refine h_cq (h_runV S (As := [.int v27]) (rest := []) (c_Book_macroOf l D dA b0 p88 v27 nx g88) (cwV 1 S.2.2.2.2 (h_good _ (h_in4 ml_Expander_78 im_Book_macroOf se_Book_macroOf it_Book) cd_Book_macroOf) rfl rfl rfl (by decide +kernel) ⟨Nat.le_of_ble_eq_true rfl, Nat.le_of_ble_eq_true rfl⟩) hK hN hw (ci := 3) rfl k88 rfl hl.1 (lv_room (Nat.le_of_ble_eq_true rfl)) d_Expander_expandFirst_88 ⟨show 0 + 0 ≤ dnZ by omega, show 0 + 0 ≤ dsZ by omega⟩) hS (fun H locs hw hS => ?_)
          refine h_astore_n (lv' := [(2, va_rf v88), (1, .int v27), (0, .ref a0)]) hx hb d_Expander_expandFirst_91 rfl hl (by decide) rfl (fun ls hl => ?_)
          refine h_aload_n hx hb d_Expander_expandFirst_92 rfl (lv_at hl 0 rfl) ?_
          rcases v88 with _ | p93
          · dsimp only [hNull] at hrun
            refine lv_ifnonnullN hx hb d_Expander_expandFirst_93 ?_
            refine lv_iconst (v := (0 : Int32)) hx hb d_Expander_expandFirst_96 (by decide) ?_
            refine lv_goto (tgt := 106) hx hb d_Expander_expandFirst_97 (by decide) ?_
            cases hrun
            refine W.widen (k := dnZ) (n := dsZ) (by omega) (by omega) ?_
            rw [show nx = nxZ + dnZ by omega] at hw
            exact W.iret hx hb hr (fun t ht hW9 => ⟨⟨_, (), rfl, rfl, by show hW D dA classes b0 _ _ t.heap; rw [ht]; exact hw⟩, hS.F ht⟩) hS.2.2 d_Expander_expandFirst_106
          · dsimp only [hNull] at hrun
            refine lv_ifnonnull (tgt := 100) hx hb d_Expander_expandFirst_93 (by decide) ?_
            refine lv_aload_n hx hb d_Expander_expandFirst_100 rfl (lv_at hl 2 rfl) ?_
            refine lv_iload_n hx hb d_Expander_expandFirst_101 rfl (lv_at hl 1 rfl) ?_
            refine lv_aload_n hx hb d_Expander_expandFirst_102 rfl (lv_at hl 0 rfl) ?_
            replace hrun := hb_some hrun
            obtain ⟨c103, k103, hrun⟩ := hrun
            replace hrun := hbind_some hrun
            obtain ⟨v103, d103, s103, h103, dn103, ds103, g103, hrun, en103, es103⟩ := hrun
            refine h_ci (h_runV S (As := [.int v27, .ref p93]) (rest := []) (c_Expander_expandName l D dA b0 n a0 v27 p93 nx g103) (cwV 2 S.2.2.2.2 (h_good _ (h_in4 ml_Expander_111 im_Expander_expandName se_Expander_expandName it_Expander) cd_Expander_expandName) rfl rfl rfl (by decide +kernel) ⟨Nat.le_of_ble_eq_true rfl, Nat.le_of_ble_eq_true rfl⟩) hK hN hw (ci := 5) rfl k103 rfl hl.1 (lv_room (Nat.le_of_ble_eq_true rfl)) d_Expander_expandFirst_103 ⟨show 0 + d103 ≤ dnZ by omega, show 0 + s103 ≤ dsZ by omega⟩) hS (fun H locs hw hS => ?_)
            obtain ⟨nx103, ex103⟩ : ∃ z, z = nx + d103 := ⟨_, rfl⟩
            rw [← ex103] at hw
            try rw [← ex103] at hrun
            replace hcR : (0 + d103) + dn103 = dnZ := by omega
            replace hsR : (0 + s103) + ds103 = dsZ := by omega
            replace hnR : nx103 + dn103 = nxZ + dnZ := by omega
            clear en103 es103 ex103
            cases hrun
            refine W.widen (k := dnZ) (n := dsZ) (by omega) (by omega) ?_
            rw [show nx103 = nxZ + dnZ by omega] at hw
            exact W.iret hx hb hr (fun t ht hW9 => ⟨⟨_, (), rfl, rfl, by show hW D dA classes b0 _ _ t.heap; rw [ht]; exact hw⟩, hS.F ht⟩) hS.2.2 d_Expander_expandFirst_106
        · rw [if_pos c75] at hrun
          refine lv_aload_n hx hb d_Expander_expandFirst_78 rfl (lv_at hl 1 rfl) ?_
          replace hrun := hb_some hrun
          obtain ⟨c79, k79, hrun⟩ := hrun
          replace hrun := hbW_some hrun
          obtain ⟨v79, h79, g79, hrun⟩ := hrun
          refine h_ci (h_runV S (As := []) (rest := []) (c_Expander_beginNaming l D dA b0 a0 nx g79) (cwV 0 S.2.2.2.2 (h_good _ (h_in4 ml_Expander_108 im_Expander_beginNaming se_Expander_beginNaming it_Expander) cd_Expander_beginNaming) rfl rfl rfl (by decide +kernel) ⟨Nat.le_of_ble_eq_true rfl, Nat.le_of_ble_eq_true rfl⟩) hK hN hw (ci := 5) rfl k79 rfl hl.1 (lv_room (Nat.le_of_ble_eq_true rfl)) d_Expander_expandFirst_79 ⟨show 0 + 0 ≤ dnZ by omega, show 0 + 0 ≤ dsZ by omega⟩) hS (fun H locs hw hS => ?_)
          cases hrun
          refine W.widen (k := dnZ) (n := dsZ) (by omega) (by omega) ?_
          rw [show nx = nxZ + dnZ by omega] at hw
          exact W.iret hx hb hr (fun t ht hW9 => ⟨⟨_, (), rfl, rfl, by show hW D dA classes b0 _ _ t.heap; rw [ht]; exact hw⟩, hS.F ht⟩) hS.2.2 d_Expander_expandFirst_82
      · rw [if_pos c63] at hrun
        refine lv_aload_n hx hb d_Expander_expandFirst_66 rfl (lv_at hl 1 rfl) ?_
        replace hrun := hb_some hrun
        obtain ⟨c67, k67, hrun⟩ := hrun
        replace hrun := hbW_some hrun
        obtain ⟨v67, h67, g67, hrun⟩ := hrun
        refine h_ci (h_runV S (As := []) (rest := []) (c_Expander_beginAfter l D dA b0 a0 nx g67) (cwV 0 S.2.2.2.2 (h_good _ (h_in4 ml_Expander_105 im_Expander_beginAfter se_Expander_beginAfter it_Expander) cd_Expander_beginAfter) rfl rfl rfl (by decide +kernel) ⟨Nat.le_of_ble_eq_true rfl, Nat.le_of_ble_eq_true rfl⟩) hK hN hw (ci := 5) rfl k67 rfl hl.1 (lv_room (Nat.le_of_ble_eq_true rfl)) d_Expander_expandFirst_67 ⟨show 0 + 0 ≤ dnZ by omega, show 0 + 0 ≤ dsZ by omega⟩) hS (fun H locs hw hS => ?_)
        cases hrun
        refine W.widen (k := dnZ) (n := dsZ) (by omega) (by omega) ?_
        rw [show nx = nxZ + dnZ by omega] at hw
        exact W.iret hx hb hr (fun t ht hW9 => ⟨⟨_, (), rfl, rfl, by show hW D dA classes b0 _ _ t.heap; rw [ht]; exact hw⟩, hS.F ht⟩) hS.2.2 d_Expander_expandFirst_70
    · rw [if_pos c35] at hrun
      refine lv_aload_n hx hb d_Expander_expandFirst_38 rfl (lv_at hl 1 rfl) ?_
      refine lv_iconst (v := (1 : Int32)) hx hb d_Expander_expandFirst_39 (by decide) ?_
      replace hrun := hb_some hrun
      obtain ⟨h40, g40, hrun⟩ := hrun
      obtain ⟨n40, f40, g40⟩ := hpZ_spec g40
      refine h_put S (fun w q => hT w (i_Expander w q)) t_Expander t_Expander_ok n_Expander hK (ci := 5) rfl 11 (by decide) (hT _ fl_Expander_63) rfl n40 f40 hw hS g40 d_Expander_expandFirst_40 (fun H locs hw hS => ?_)
      refine lv_aload_n hx hb d_Expander_expandFirst_43 rfl (lv_at hl 1 rfl) ?_
      replace hrun := hb_some hrun
      obtain ⟨v44, g44, hrun⟩ := hrun
      refine h_getR S (fun w q => hT w (i_Expander w q)) hK (ci := 5) rfl 1 (by decide) (hT _ fl_Expander_15) hw g44 d_Expander_expandFirst_44 ?_
      replace hrun := hb_some hrun
      obtain ⟨p47, rfl, hrun⟩ := hrun
      replace hrun := hb_some hrun
      obtain ⟨c47, k47, hrun⟩ := hrun
      replace hrun := hb_some hrun
      obtain ⟨v47, g47, hrun⟩ := hrun
      refine h_ci (h_runV S (As := []) (rest := []) (c_Input_isEmpty l D dA b0 p47 nx g47) (cwV 0 S.2.2.2.2 (h_good _ (h_in4 ml_Expander_102 im_Input_isEmpty se_Input_isEmpty it_Input) cd_Input_isEmpty) rfl rfl rfl (by decide +kernel) ⟨Nat.le_of_ble_eq_true rfl, Nat.le_of_ble_eq_true rfl⟩) hK hN hw (ci := 6) rfl k47 rfl hl.1 (lv_room (Nat.le_of_ble_eq_true rfl)) d_Expander_expandFirst_47 ⟨show 0 + 0 ≤ dnZ by omega, show 0 + 0 ≤ dsZ by omega⟩) hS (fun H locs hw hS => ?_)
      refine lv_if_eq (tgt := 57) hx hb d_Expander_expandFirst_50 (by decide) (fun c50 => ?_) (fun c50 => ?_)
      · rw [if_pos c50] at hrun
        refine lv_iconst (v := (0 : Int32)) hx hb d_Expander_expandFirst_57 (by decide) ?_
        cases hrun
        refine W.widen (k := dnZ) (n := dsZ) (by omega) (by omega) ?_
        rw [show nx = nxZ + dnZ by omega] at hw
        exact W.iret hx hb hr (fun t ht hW9 => ⟨⟨_, (), rfl, rfl, by show hW D dA classes b0 _ _ t.heap; rw [ht]; exact hw⟩, hS.F ht⟩) hS.2.2 d_Expander_expandFirst_58
      · rw [if_neg c50] at hrun
        refine lv_iconst (v := (1 : Int32)) hx hb d_Expander_expandFirst_53 (by decide) ?_
        refine lv_goto (tgt := 58) hx hb d_Expander_expandFirst_54 (by decide) ?_
        cases hrun
        refine W.widen (k := dnZ) (n := dsZ) (by omega) (by omega) ?_
        rw [show nx = nxZ + dnZ by omega] at hw
        exact W.iret hx hb hr (fun t ht hW9 => ⟨⟨_, (), rfl, rfl, by show hW D dA classes b0 _ _ t.heap; rw [ht]; exact hw⟩, hS.F ht⟩) hS.2.2 d_Expander_expandFirst_58
  · rw [if_neg c8] at hrun
    refine lv_iconst (v := (5 : Int32)) hx hb d_Expander_expandFirst_11 (by decide) ?_
    cases hrun
    refine W.widen (k := dnZ) (n := dsZ) (by omega) (by omega) ?_
    rw [show nx = nxZ + dnZ by omega] at hw
    exact W.iret hx hb hr (fun t ht hW9 => ⟨⟨_, (), rfl, rfl, by show hW D dA classes b0 _ _ t.heap; rw [ht]; exact hw⟩, hS.F ht⟩) hS.2.2 d_Expander_expandFirst_12
set_option maxHeartbeats 4000000 in
set_option maxRecDepth 100000 in
theorem c_Expander_takeFirst (l : Launch) (D : va_G) (dA : Nat → ClassId) (b0 : Nat) (a0 : Nat) (nx : Nat) {h h' : hH} {r : Int32} (hrun : f_Expander_takeFirst a0 h = some (r, h')) : Met l y_Expander_takeFirst w_Expander_takeFirst ({ frames := 1, cells := 0, slots := 0, locals := 20 } : Room) (va_Pc [.ref a0] (hB D dA b0 nx h)) (va_Qi (fun r' (_ : Unit) => r' = r) (fun (_ : Unit) t => hW D dA classes b0 nx h' t.heap) (hA b0)) 0 0 (hA b0) := by
  refine Met.ofW (cc := b_Expander_takeFirst) (maxL := 1) (ret := (some .int)) (by decide) rfl ?_
  intro p e s m args below meth c s₁ B hml hv
  obtain ⟨rfl, hw, hK, hN⟩ := hv
  have hx := B.exec
  have hb := B.bytes
  have hr := B.returns
  have hlocks := B.notSynchronized
  have S : CallFix p m c b_Expander_takeFirst 1 s ([.ref a0] : List Value).toArray w_Expander_takeFirst R_Expander := ⟨hx, hb, hml, findClass_of_methodNamed B.named, atoms_spec (ws := w_Expander_takeFirst) B.pre⟩
  have hT : ∀ w ∈ tbl, w ∈ w_Expander_takeFirst := fun _ q => List.mem_cons_of_mem _ q
  have hS : va_S (hA b0) s.heap s.heap [] := va_S.rf
  have hl := lv_entry ([.ref a0]) (n := 1) (Nat.le_of_ble_eq_true rfl)
  rw [lg_entry_eq]
  generalize (lg_sl ([.ref a0]) ++ List.replicate (1 - (lg_sl ([.ref a0])).length) Slot.unset).toArray = ls at hl ⊢
  have hl : lv_has ls 1 [(0, .ref a0)] := hl
  unfold f_Expander_takeFirst at hrun
  refine lv_aload_n hx hb d_Expander_takeFirst_0 rfl (lv_at hl 0 rfl) ?_
  refine lv_iconst (v := (0 : Int32)) hx hb d_Expander_takeFirst_1 (by decide) ?_
  replace hrun := hb_some hrun
  obtain ⟨h2, g2, hrun⟩ := hrun
  obtain ⟨n2, f2, g2⟩ := hpZ_spec g2
  refine h_put S (fun w q => hT w (i_Expander w q)) t_Expander t_Expander_ok n_Expander hK (ci := 5) rfl 11 (by decide) (hT _ fl_Expander_63) rfl n2 f2 hw hS g2 d_Expander_takeFirst_2 (fun H locs hw hS => ?_)
  refine lv_aload_n hx hb d_Expander_takeFirst_5 rfl (lv_at hl 0 rfl) ?_
  replace hrun := hb_some hrun
  obtain ⟨v6, g6, hrun⟩ := hrun
  refine h_getR S (fun w q => hT w (i_Expander w q)) hK (ci := 5) rfl 1 (by decide) (hT _ fl_Expander_15) hw g6 d_Expander_takeFirst_6 ?_
  replace hrun := hb_some hrun
  obtain ⟨p9, rfl, hrun⟩ := hrun
  replace hrun := hb_some hrun
  obtain ⟨c9, k9, hrun⟩ := hrun
  replace hrun := hbW_some hrun
  obtain ⟨v9, h9, g9, hrun⟩ := hrun
  refine h_ci (h_runV S (As := []) (rest := []) (c_Input_take l D dA b0 p9 nx g9) (cwV 0 S.2.2.2.2 (h_good _ (h_in4 ml_Expander_84 im_Input_take se_Input_take it_Input) cd_Input_take) rfl rfl rfl (by decide +kernel) ⟨Nat.le_of_ble_eq_true rfl, Nat.le_of_ble_eq_true rfl⟩) hK hN hw (ci := 6) rfl k9 rfl hl.1 (lv_room (Nat.le_of_ble_eq_true rfl)) d_Expander_takeFirst_9 ⟨Nat.le_refl _, Nat.le_refl _⟩) hS (fun H locs hw hS => ?_)
  cases hrun
  exact W.iret hx hb hr (fun t ht hW9 => ⟨⟨_, (), rfl, rfl, by show hW D dA classes b0 _ _ t.heap; rw [ht]; exact hw⟩, hS.F ht⟩) hS.2.2 d_Expander_takeFirst_12
set_option maxHeartbeats 4000000 in
set_option maxRecDepth 100000 in
theorem c_Spelling_isSpelled (l : Launch) (D : va_G) (dA : Nat → ClassId) (b0 : Nat) (n : Nat) (a0 : Nat) (i1 : Int32) (a2 : Nat) (i3 : Int32) (i4 : Int32) (nx : Nat) {h : hH} {r : Int32} (hrun : f_Spelling_isSpelled n a0 i1 a2 i3 i4 h = some r) : Met l y_Spelling_isSpelled w_Spelling_isSpelled ({ frames := 0, cells := 0, slots := 0, locals := 0 } : Room) (va_Pc [.ref a0, .int i1, .ref a2, .int i3, .int i4] (hB D dA b0 nx h)) (va_Qi (fun r' (_ : Unit) => r' = r) (fun (_ : Unit) t => hW D dA classes b0 nx h t.heap) (hA b0)) 0 0 (hA b0) := by
  refine Met.ofW (cc := b_Spelling_isSpelled) (maxL := 6) (ret := (some .boolean)) (by decide) rfl ?_
  intro p e s m args below meth c s₁ B hml hv
  obtain ⟨rfl, hw, hK, hN⟩ := hv
  have hx := B.exec
  have hb := B.bytes
  have hr := B.returns
  have hlocks := B.notSynchronized
  have S : CallFix p m c b_Spelling_isSpelled 6 s ([.ref a0, .int i1, .ref a2, .int i3, .int i4] : List Value).toArray w_Spelling_isSpelled R_Spelling := ⟨hx, hb, hml, findClass_of_methodNamed B.named, atoms_spec (ws := w_Spelling_isSpelled) B.pre⟩
  have hT : ∀ w ∈ tbl, w ∈ w_Spelling_isSpelled := fun _ q => List.mem_cons_of_mem _ q
  have hS : va_S (hA b0) s.heap s.heap [] := va_S.rf
  have hl := lv_entry ([.ref a0, .int i1, .ref a2, .int i3, .int i4]) (n := 6) (Nat.le_of_ble_eq_true rfl)
  rw [lg_entry_eq]
  generalize (lg_sl ([.ref a0, .int i1, .ref a2, .int i3, .int i4]) ++ List.replicate (6 - (lg_sl ([.ref a0, .int i1, .ref a2, .int i3, .int i4])).length) Slot.unset).toArray = ls at hl ⊢
  have hl : lv_has ls 6 [(0, .ref a0), (1, .int i1), (2, .ref a2), (3, .int i3), (4, .int i4)] := hl
  have l_16 : ∀ (x1 : Int32) (x3 : Int32) (x4 : Int32) (n9 : Nat) (x9 : Int32) (b9 : (Unit) ⊕ (Unit)) (H : Heap) (locs : List Loc) (ls : Array Slot), hloopR (f_Spelling_isSpelled_b16 n a0 x1 a2 x3 x4 h) n9 x9 = some b9 → hW D dA classes b0 nx h H → va_S (hA b0) s.heap H locs → lv_has ls 6 (match x9 with | x5 => [(0, .ref a0), (1, .int x1), (2, .ref a2), (3, .int x3), (4, .int x4), (5, .int x5)]) → (b9 = .inl () → ∀ (H : Heap) (locs : List Loc) (ls : Array Slot), hW D dA classes b0 nx h H → va_S (hA b0) s.heap H locs → lv_has ls 6 [] → W p l e (headSpec w_Spelling_isSpelled ({ frames := 0, cells := 0, slots := 0, locals := 0 } : Room)).room s m ([.ref a0, .int i1, .ref a2, .int i3, .int i4] : List Value).toArray below meth c H locs 0 0 (MQ below (va_Qi (fun r' (_ : Unit) => r' = r) (fun (_ : Unit) t => hW D dA classes b0 nx h t.heap) (hA b0)) ([.ref a0, .int i1, .ref a2, .int i3, .int i4] : List Value).toArray s 0 0 (hA b0)) (F0 m 44 ls [])) → (b9 = .inr (()) → ∀ (H : Heap) (locs : List Loc) (ls : Array Slot), hW D dA classes b0 nx h H → va_S (hA b0) s.heap H locs → lv_has ls 6 [] → W p l e (headSpec w_Spelling_isSpelled ({ frames := 0, cells := 0, slots := 0, locals := 0 } : Room)).room s m ([.ref a0, .int i1, .ref a2, .int i3, .int i4] : List Value).toArray below meth c H locs 0 0 (MQ below (va_Qi (fun r' (_ : Unit) => r' = r) (fun (_ : Unit) t => hW D dA classes b0 nx h t.heap) (hA b0)) ([.ref a0, .int i1, .ref a2, .int i3, .int i4] : List Value).toArray s 0 0 (hA b0)) (F0 m 52 ls [])) → W p l e (headSpec w_Spelling_isSpelled ({ frames := 0, cells := 0, slots := 0, locals := 0 } : Room)).room s m ([.ref a0, .int i1, .ref a2, .int i3, .int i4] : List Value).toArray below meth c H locs 0 0 (MQ below (va_Qi (fun r' (_ : Unit) => r' = r) (fun (_ : Unit) t => hW D dA classes b0 nx h t.heap) (hA b0)) ([.ref a0, .int i1, .ref a2, .int i3, .int i4] : List Value).toArray s 0 0 (hA b0)) (F0 m 16 ls []) := by
    intro x1 x3 x4 n9
    induction n9 with
    | zero =>
      intro x9 b9 H locs ls hrun
      cases hrun
    | succ n9 ih =>
      rintro x5 b9 H locs ls hrun hw hS hl k0 k1
      have hl : lv_has ls 6 [(0, .ref a0), (1, .int x1), (2, .ref a2), (3, .int x3), (4, .int x4), (5, .int x5)] := hl
      unfold hloopR at hrun
      obtain ⟨q9, hbody, hrun9⟩ := hb_some hrun
      have K0 : (∀ (z5 : Int32), q9 = .inl z5 → ∀ (H : Heap) (locs : List Loc) (ls : Array Slot), hW D dA classes b0 nx h H → va_S (hA b0) s.heap H locs → lv_has ls 6 [(0, .ref a0), (1, .int x1), (2, .ref a2), (3, .int x3), (4, .int x4), (5, .int z5)] → W p l e (headSpec w_Spelling_isSpelled ({ frames := 0, cells := 0, slots := 0, locals := 0 } : Room)).room s m ([.ref a0, .int i1, .ref a2, .int i3, .int i4] : List Value).toArray below meth c H locs 0 0 (MQ below (va_Qi (fun r' (_ : Unit) => r' = r) (fun (_ : Unit) t => hW D dA classes b0 nx h t.heap) (hA b0)) ([.ref a0, .int i1, .ref a2, .int i3, .int i4] : List Value).toArray s 0 0 (hA b0)) (F0 m 16 ls [])) := by
        intro z5 eq9 H locs ls hw hS hl
        subst eq9
        exact ih z5 b9 H locs ls hrun9 hw hS hl k0 k1
      have K1 : (q9 = .inr (.inl ()) → ∀ (H : Heap) (locs : List Loc) (ls : Array Slot), hW D dA classes b0 nx h H → va_S (hA b0) s.heap H locs → lv_has ls 6 [] → W p l e (headSpec w_Spelling_isSpelled ({ frames := 0, cells := 0, slots := 0, locals := 0 } : Room)).room s m ([.ref a0, .int i1, .ref a2, .int i3, .int i4] : List Value).toArray below meth c H locs 0 0 (MQ below (va_Qi (fun r' (_ : Unit) => r' = r) (fun (_ : Unit) t => hW D dA classes b0 nx h t.heap) (hA b0)) ([.ref a0, .int i1, .ref a2, .int i3, .int i4] : List Value).toArray s 0 0 (hA b0)) (F0 m 44 ls [])) := by
        intro  eq9 H locs ls hw hS hl
        subst eq9
        cases hrun9
        exact k0  rfl H locs ls hw hS hl
      have K2 : (q9 = .inr (.inr (())) → ∀ (H : Heap) (locs : List Loc) (ls : Array Slot), hW D dA classes b0 nx h H → va_S (hA b0) s.heap H locs → lv_has ls 6 [] → W p l e (headSpec w_Spelling_isSpelled ({ frames := 0, cells := 0, slots := 0, locals := 0 } : Room)).room s m ([.ref a0, .int i1, .ref a2, .int i3, .int i4] : List Value).toArray below meth c H locs 0 0 (MQ below (va_Qi (fun r' (_ : Unit) => r' = r) (fun (_ : Unit) t => hW D dA classes b0 nx h t.heap) (hA b0)) ([.ref a0, .int i1, .ref a2, .int i3, .int i4] : List Value).toArray s 0 0 (hA b0)) (F0 m 52 ls [])) := by
        intro  eq9 H locs ls hw hS hl
        subst eq9
        cases hrun9
        exact k1  rfl H locs ls hw hS hl
      clear hrun hrun9 ih k0 k1
      have hrun := hbody
      clear hbody
      dsimp only [f_Spelling_isSpelled_b16] at hrun
      refine lv_iload hx hb d_Spelling_isSpelled_16 (lv_at hl 5 rfl) ?_
      refine lv_iload hx hb d_Spelling_isSpelled_18 (lv_at hl 4 rfl) ?_
      refine lv_icmp_ge (tgt := 52) hx hb d_Spelling_isSpelled_20 (by decide) (fun c20 => ?_) (fun c20 => ?_)
      · rw [if_pos c20] at hrun
        cases hrun
        exact K2  rfl H locs ls hw hS (lv_sub hl [] rfl)
      · rw [if_neg c20] at hrun
        refine lv_aload_n hx hb d_Spelling_isSpelled_23 rfl (lv_at hl 0 rfl) ?_
        replace hrun := hb_some hrun
        obtain ⟨v24, g24, hrun⟩ := hrun
        refine h_getR S (fun w q => hT w (i_Spelling w q)) hK (ci := 9) rfl 0 (by decide) (hT _ fl_Spelling_9) hw g24 d_Spelling_isSpelled_24 ?_
        refine lv_iload_n hx hb d_Spelling_isSpelled_27 rfl (lv_at hl 1 rfl) ?_
        refine lv_bipush (v := (8 : Int32)) hx hb d_Spelling_isSpelled_28 (by decide) ?_
        refine lv_imul hx hb d_Spelling_isSpelled_30 ?_
        refine lv_iload hx hb d_Spelling_isSpelled_31 (lv_at hl 5 rfl) ?_
        refine lv_iadd hx hb d_Spelling_isSpelled_33 ?_
        replace hrun := hb_some hrun
        obtain ⟨p34, rfl, hrun⟩ := hrun
        replace hrun := hb_some hrun
        obtain ⟨v34, g34, hrun⟩ := hrun
        refine h_iald S hK (kd := 0) rfl hw g34 d_Spelling_isSpelled_34 ?_
        refine lv_aload_n hx hb d_Spelling_isSpelled_35 rfl (lv_at hl 2 rfl) ?_
        refine lv_iload_n hx hb d_Spelling_isSpelled_36 rfl (lv_at hl 3 rfl) ?_
        refine lv_iload hx hb d_Spelling_isSpelled_37 (lv_at hl 5 rfl) ?_
        refine lv_iadd hx hb d_Spelling_isSpelled_39 ?_
        replace hrun := hb_some hrun
        obtain ⟨v40, g40, hrun⟩ := hrun
        refine h_iald S hK (kd := 0) rfl hw g40 d_Spelling_isSpelled_40 ?_
        refine lv_icmp_eq (tgt := 46) hx hb d_Spelling_isSpelled_41 (by decide) (fun c41 => ?_) (fun c41 => ?_)
        · rw [if_pos c41] at hrun
          refine lv_iinc (v := (x5 + (1 : Int32))) (lv' := [(5, .int (x5 + (1 : Int32))), (0, .ref a0), (1, .int x1), (2, .ref a2), (3, .int x3), (4, .int x4)]) hx hb d_Spelling_isSpelled_46 hl (k := 5) rfl rfl (by decide) rfl (fun ls hl => ?_)
          refine lv_goto (tgt := 16) hx hb d_Spelling_isSpelled_49 (by decide) ?_
          cases hrun
          exact K0 (x5 + (1 : Int32)) rfl H locs ls hw hS (lv_sub hl [1, 2, 3, 4, 5, 0] rfl)
        · rw [if_neg c41] at hrun
          cases hrun
          exact K1  rfl H locs ls hw hS (lv_sub hl [] rfl)
  unfold f_Spelling_isSpelled at hrun
  refine lv_aload_n hx hb d_Spelling_isSpelled_0 rfl (lv_at hl 0 rfl) ?_
  replace hrun := hb_some hrun
  obtain ⟨v1, g1, hrun⟩ := hrun
  refine h_getR S (fun w q => hT w (i_Spelling w q)) hK (ci := 9) rfl 1 (by decide) (hT _ fl_Spelling_15) hw g1 d_Spelling_isSpelled_1 ?_
  refine lv_iload_n hx hb d_Spelling_isSpelled_4 rfl (lv_at hl 1 rfl) ?_
  replace hrun := hb_some hrun
  obtain ⟨p5, rfl, hrun⟩ := hrun
  replace hrun := hb_some hrun
  obtain ⟨v5, g5, hrun⟩ := hrun
  refine h_iald S hK (kd := 0) rfl hw g5 d_Spelling_isSpelled_5 ?_
  refine lv_iload hx hb d_Spelling_isSpelled_6 (lv_at hl 4 rfl) ?_
  refine lv_icmp_eq (tgt := 13) hx hb d_Spelling_isSpelled_8 (by decide) (fun c8 => ?_) (fun c8 => ?_)
  · rw [if_pos c8] at hrun
    refine lv_iconst (v := (0 : Int32)) hx hb d_Spelling_isSpelled_13 (by decide) ?_
    refine lv_istore (lv' := [(5, .int (0 : Int32)), (0, .ref a0), (1, .int i1), (2, .ref a2), (3, .int i3), (4, .int i4)]) hx hb d_Spelling_isSpelled_14 hl (by decide) rfl (fun ls hl => ?_)
    replace hrun := hb_some hrun
    obtain ⟨b16, g16, hrun⟩ := hrun
    refine l_16 i1 i3 i4 n (0 : Int32) _ _ _ _ g16 hw hS (lv_sub hl [1, 2, 3, 4, 5, 0] rfl) ?_ ?_
    · rintro  eq9 H locs ls hw hS hl
      obtain rfl := eq9.symm
      try dsimp only at hrun
      refine lv_iconst (v := (0 : Int32)) hx hb d_Spelling_isSpelled_44 (by decide) ?_
      cases hrun
      exact W.zret hx hb hr (by decide) (fun t ht hW9 => ⟨⟨_, (), rfl, rfl, by show hW D dA classes b0 _ _ t.heap; rw [ht]; exact hw⟩, hS.F ht⟩) hS.2.2 d_Spelling_isSpelled_45
    · rintro  eq9 H locs ls hw hS hl
      obtain rfl := eq9.symm
      try dsimp only at hrun
      refine lv_iconst (v := (1 : Int32)) hx hb d_Spelling_isSpelled_52 (by decide) ?_
      cases hrun
      exact W.zret hx hb hr (by decide) (fun t ht hW9 => ⟨⟨_, (), rfl, rfl, by show hW D dA classes b0 _ _ t.heap; rw [ht]; exact hw⟩, hS.F ht⟩) hS.2.2 d_Spelling_isSpelled_53
  · rw [if_neg c8] at hrun
    refine lv_iconst (v := (0 : Int32)) hx hb d_Spelling_isSpelled_11 (by decide) ?_
    cases hrun
    exact W.zret hx hb hr (by decide) (fun t ht hW9 => ⟨⟨_, (), rfl, rfl, by show hW D dA classes b0 _ _ t.heap; rw [ht]; exact hw⟩, hS.F ht⟩) hS.2.2 d_Spelling_isSpelled_12
set_option maxHeartbeats 4000000 in
set_option maxRecDepth 100000 in
theorem c_Spelling_numberOf (l : Launch) (D : va_G) (dA : Nat → ClassId) (b0 : Nat) (n : Nat) (a0 : Nat) (a1 : Nat) (i2 : Int32) (i3 : Int32) (nx : Nat) {h h' : hH} {r : Int32} (hrun : f_Spelling_numberOf n a0 a1 i2 i3 h = some (r, h')) : Met l y_Spelling_numberOf w_Spelling_numberOf ({ frames := 1, cells := 0, slots := 0, locals := 48 } : Room) (va_Pc [.ref a0, .ref a1, .int i2, .int i3] (hB D dA b0 nx h)) (va_Qi (fun r' (_ : Unit) => r' = r) (fun (_ : Unit) t => hW D dA classes b0 nx h' t.heap) (hA b0)) 0 0 (hA b0) := by
  refine Met.ofW (cc := b_Spelling_numberOf) (maxL := 5) (ret := (some .int)) (by decide) rfl ?_
  intro p e s m args below meth c s₁ B hml hv
  obtain ⟨rfl, hw, hK, hN⟩ := hv
  have hx := B.exec
  have hb := B.bytes
  have hr := B.returns
  have hlocks := B.notSynchronized
  have S : CallFix p m c b_Spelling_numberOf 5 s ([.ref a0, .ref a1, .int i2, .int i3] : List Value).toArray w_Spelling_numberOf R_Spelling := ⟨hx, hb, hml, findClass_of_methodNamed B.named, atoms_spec (ws := w_Spelling_numberOf) B.pre⟩
  have hT : ∀ w ∈ tbl, w ∈ w_Spelling_numberOf := fun _ q => List.mem_cons_of_mem _ q
  have hS : va_S (hA b0) s.heap s.heap [] := va_S.rf
  have hl := lv_entry ([.ref a0, .ref a1, .int i2, .int i3]) (n := 5) (Nat.le_of_ble_eq_true rfl)
  rw [lg_entry_eq]
  generalize (lg_sl ([.ref a0, .ref a1, .int i2, .int i3]) ++ List.replicate (5 - (lg_sl ([.ref a0, .ref a1, .int i2, .int i3])).length) Slot.unset).toArray = ls at hl ⊢
  have hl : lv_has ls 5 [(0, .ref a0), (1, .ref a1), (2, .int i2), (3, .int i3)] := hl
  have l_27 : ∀ (x2 : Int32) (x3 : Int32) (n9 : Nat) (x9 : Int32) (h : hH) (b9 : (Int32) ⊕ (Unit)) (h9 : hH) (H : Heap) (locs : List Loc) (ls : Array Slot), hloopW (f_Spelling_numberOf_b27 n a0 a1 x2 x3) n9 x9 h = some (b9, h9) → hW D dA classes b0 nx h H → va_S (hA b0) s.heap H locs → lv_has ls 5 (match x9 with | x4 => [(0, .ref a0), (1, .ref a1), (2, .int x2), (3, .int x3), (4, .int x4)]) → (∀ (z4 : Int32), b9 = .inl z4 → ∀ (H : Heap) (locs : List Loc) (ls : Array Slot), hW D dA classes b0 nx h9 H → va_S (hA b0) s.heap H locs → lv_has ls 5 [(4, .int z4)] → W p l e (headSpec w_Spelling_numberOf ({ frames := 1, cells := 0, slots := 0, locals := 48 } : Room)).room s m ([.ref a0, .ref a1, .int i2, .int i3] : List Value).toArray below meth c H locs 0 0 (MQ below (va_Qi (fun r' (_ : Unit) => r' = r) (fun (_ : Unit) t => hW D dA classes b0 nx h' t.heap) (hA b0)) ([.ref a0, .ref a1, .int i2, .int i3] : List Value).toArray s 0 0 (hA b0)) (F0 m 48 ls [])) → (b9 = .inr (()) → ∀ (H : Heap) (locs : List Loc) (ls : Array Slot), hW D dA classes b0 nx h9 H → va_S (hA b0) s.heap H locs → lv_has ls 5 [(0, .ref a0), (1, .ref a1), (2, .int x2), (3, .int x3)] → W p l e (headSpec w_Spelling_numberOf ({ frames := 1, cells := 0, slots := 0, locals := 48 } : Room)).room s m ([.ref a0, .ref a1, .int i2, .int i3] : List Value).toArray below meth c H locs 0 0 (MQ below (va_Qi (fun r' (_ : Unit) => r' = r) (fun (_ : Unit) t => hW D dA classes b0 nx h' t.heap) (hA b0)) ([.ref a0, .ref a1, .int i2, .int i3] : List Value).toArray s 0 0 (hA b0)) (F0 m 57 ls [])) → W p l e (headSpec w_Spelling_numberOf ({ frames := 1, cells := 0, slots := 0, locals := 48 } : Room)).room s m ([.ref a0, .ref a1, .int i2, .int i3] : List Value).toArray below meth c H locs 0 0 (MQ below (va_Qi (fun r' (_ : Unit) => r' = r) (fun (_ : Unit) t => hW D dA classes b0 nx h' t.heap) (hA b0)) ([.ref a0, .ref a1, .int i2, .int i3] : List Value).toArray s 0 0 (hA b0)) (F0 m 27 ls []) := by
    intro x2 x3 n9
    induction n9 with
    | zero =>
      intro x9 h b9 h9 H locs ls hrun
      cases hrun
    | succ n9 ih =>
      rintro x4 h b9 h9 H locs ls hrun hw hS hl k0 k1
      have hl : lv_has ls 5 [(0, .ref a0), (1, .ref a1), (2, .int x2), (3, .int x3), (4, .int x4)] := hl
      unfold hloopW at hrun
      obtain ⟨q9, h9b, hbody, hrun9⟩ := hbW_some hrun
      have K0 : (∀ (z4 : Int32), q9 = .inl z4 → ∀ (H : Heap) (locs : List Loc) (ls : Array Slot), hW D dA classes b0 nx h9b H → va_S (hA b0) s.heap H locs → lv_has ls 5 [(0, .ref a0), (1, .ref a1), (2, .int x2), (3, .int x3), (4, .int z4)] → W p l e (headSpec w_Spelling_numberOf ({ frames := 1, cells := 0, slots := 0, locals := 48 } : Room)).room s m ([.ref a0, .ref a1, .int i2, .int i3] : List Value).toArray below meth c H locs 0 0 (MQ below (va_Qi (fun r' (_ : Unit) => r' = r) (fun (_ : Unit) t => hW D dA classes b0 nx h' t.heap) (hA b0)) ([.ref a0, .ref a1, .int i2, .int i3] : List Value).toArray s 0 0 (hA b0)) (F0 m 27 ls [])) := by
        intro z4 eq9 H locs ls hw hS hl
        subst eq9
        exact ih z4 h9b b9 h9 H locs ls hrun9 hw hS hl k0 k1
      have K1 : (∀ (z4 : Int32), q9 = .inr (.inl z4) → ∀ (H : Heap) (locs : List Loc) (ls : Array Slot), hW D dA classes b0 nx h9b H → va_S (hA b0) s.heap H locs → lv_has ls 5 [(4, .int z4)] → W p l e (headSpec w_Spelling_numberOf ({ frames := 1, cells := 0, slots := 0, locals := 48 } : Room)).room s m ([.ref a0, .ref a1, .int i2, .int i3] : List Value).toArray below meth c H locs 0 0 (MQ below (va_Qi (fun r' (_ : Unit) => r' = r) (fun (_ : Unit) t => hW D dA classes b0 nx h' t.heap) (hA b0)) ([.ref a0, .ref a1, .int i2, .int i3] : List Value).toArray s 0 0 (hA b0)) (F0 m 48 ls [])) := by
        intro z4 eq9 H locs ls hw hS hl
        subst eq9
        cases hrun9
        exact k0 _ rfl H locs ls hw hS hl
      have K2 : (q9 = .inr (.inr (())) → ∀ (H : Heap) (locs : List Loc) (ls : Array Slot), hW D dA classes b0 nx h9b H → va_S (hA b0) s.heap H locs → lv_has ls 5 [(0, .ref a0), (1, .ref a1), (2, .int x2), (3, .int x3)] → W p l e (headSpec w_Spelling_numberOf ({ frames := 1, cells := 0, slots := 0, locals := 48 } : Room)).room s m ([.ref a0, .ref a1, .int i2, .int i3] : List Value).toArray below meth c H locs 0 0 (MQ below (va_Qi (fun r' (_ : Unit) => r' = r) (fun (_ : Unit) t => hW D dA classes b0 nx h' t.heap) (hA b0)) ([.ref a0, .ref a1, .int i2, .int i3] : List Value).toArray s 0 0 (hA b0)) (F0 m 57 ls [])) := by
        intro  eq9 H locs ls hw hS hl
        subst eq9
        cases hrun9
        exact k1  rfl H locs ls hw hS hl
      clear hrun hrun9 ih k0 k1
      have hrun := hbody
      clear hbody
      dsimp only [f_Spelling_numberOf_b27] at hrun
      refine lv_iload hx hb d_Spelling_numberOf_27 (lv_at hl 4 rfl) ?_
      refine lv_aload_n hx hb d_Spelling_numberOf_29 rfl (lv_at hl 0 rfl) ?_
      replace hrun := hb_some hrun
      obtain ⟨v30, g30, hrun⟩ := hrun
      refine h_getI S (fun w q => hT w (i_Spelling w q)) hK (ci := 9) rfl 2 (by decide) (hT _ fl_Spelling_18) hw g30 d_Spelling_numberOf_30 ?_
      refine lv_icmp_ge (tgt := 57) hx hb d_Spelling_numberOf_33 (by decide) (fun c33 => ?_) (fun c33 => ?_)
      · rw [if_pos c33] at hrun
        cases hrun
        exact K2  rfl H locs ls hw hS (lv_sub hl [0, 1, 2, 3] rfl)
      · rw [if_neg c33] at hrun
        refine lv_aload_n hx hb d_Spelling_numberOf_36 rfl (lv_at hl 0 rfl) ?_
        refine lv_iload hx hb d_Spelling_numberOf_37 (lv_at hl 4 rfl) ?_
        refine lv_aload_n hx hb d_Spelling_numberOf_39 rfl (lv_at hl 1 rfl) ?_
        refine lv_iload_n hx hb d_Spelling_numberOf_40 rfl (lv_at hl 2 rfl) ?_
        refine lv_iload_n hx hb d_Spelling_numberOf_41 rfl (lv_at hl 3 rfl) ?_
        replace hrun := hb_some hrun
        obtain ⟨c42, k42, hrun⟩ := hrun
        replace hrun := hb_some hrun
        obtain ⟨v42, g42, hrun⟩ := hrun
        refine h_ci (h_runV S (As := [.int x4, .ref a1, .int x2, .int x3]) (rest := []) (c_Spelling_isSpelled l D dA b0 n a0 x4 a1 x2 x3 nx g42) (cwV 4 S.2.2.2.2 (h_good _ (h_in4 ml_Spelling_22 im_Spelling_isSpelled se_Spelling_isSpelled it_Spelling) cd_Spelling_isSpelled) rfl rfl rfl (by decide +kernel) ⟨Nat.le_of_ble_eq_true rfl, Nat.le_of_ble_eq_true rfl⟩) hK hN hw (ci := 9) rfl k42 rfl hl.1 (lv_room (Nat.le_of_ble_eq_true rfl)) d_Spelling_numberOf_42 ⟨Nat.le_refl _, Nat.le_refl _⟩) hS (fun H locs hw hS => ?_)
        refine lv_if_eq (tgt := 51) hx hb d_Spelling_numberOf_45 (by decide) (fun c45 => ?_) (fun c45 => ?_)
        · rw [if_pos c45] at hrun
          refine lv_iinc (v := (x4 + (1 : Int32))) (lv' := [(4, .int (x4 + (1 : Int32))), (0, .ref a0), (1, .ref a1), (2, .int x2), (3, .int x3)]) hx hb d_Spelling_numberOf_51 hl (k := 4) rfl rfl (by decide) rfl (fun ls hl => ?_)
          refine lv_goto (tgt := 27) hx hb d_Spelling_numberOf_54 (by decide) ?_
          cases hrun
          exact K0 (x4 + (1 : Int32)) rfl H locs ls hw hS (lv_sub hl [1, 2, 3, 4, 0] rfl)
        · rw [if_neg c45] at hrun
          cases hrun
          exact K1 x4 rfl H locs ls hw hS (lv_sub hl [4] rfl)
  unfold f_Spelling_numberOf at hrun
  refine lv_iload_n hx hb d_Spelling_numberOf_0 rfl (lv_at hl 2 rfl) ?_
  refine lv_if_lt (tgt := 22) hx hb d_Spelling_numberOf_1 (by decide) (fun c1 => ?_) (fun c1 => ?_)
  · rw [if_pos c1] at hrun
    refine lv_iconst (v := (-1 : Int32)) hx hb d_Spelling_numberOf_22 (by decide) ?_
    cases hrun
    exact W.iret hx hb hr (fun t ht hW9 => ⟨⟨_, (), rfl, rfl, by show hW D dA classes b0 _ _ t.heap; rw [ht]; exact hw⟩, hS.F ht⟩) hS.2.2 d_Spelling_numberOf_23
  · rw [if_neg c1] at hrun
    refine lv_iload_n hx hb d_Spelling_numberOf_4 rfl (lv_at hl 3 rfl) ?_
    refine lv_if_lt (tgt := 22) hx hb d_Spelling_numberOf_5 (by decide) (fun c5 => ?_) (fun c5 => ?_)
    · rw [if_pos c5] at hrun
      refine lv_iconst (v := (-1 : Int32)) hx hb d_Spelling_numberOf_22 (by decide) ?_
      cases hrun
      exact W.iret hx hb hr (fun t ht hW9 => ⟨⟨_, (), rfl, rfl, by show hW D dA classes b0 _ _ t.heap; rw [ht]; exact hw⟩, hS.F ht⟩) hS.2.2 d_Spelling_numberOf_23
    · rw [if_neg c5] at hrun
      refine lv_iload_n hx hb d_Spelling_numberOf_8 rfl (lv_at hl 3 rfl) ?_
      refine lv_bipush (v := (8 : Int32)) hx hb d_Spelling_numberOf_9 (by decide) ?_
      refine lv_icmp_gt (tgt := 22) hx hb d_Spelling_numberOf_11 (by decide) (fun c11 => ?_) (fun c11 => ?_)
      · rw [if_pos c11] at hrun
        refine lv_iconst (v := (-1 : Int32)) hx hb d_Spelling_numberOf_22 (by decide) ?_
        cases hrun
        exact W.iret hx hb hr (fun t ht hW9 => ⟨⟨_, (), rfl, rfl, by show hW D dA classes b0 _ _ t.heap; rw [ht]; exact hw⟩, hS.F ht⟩) hS.2.2 d_Spelling_numberOf_23
      · rw [if_neg c11] at hrun
        refine lv_iload_n hx hb d_Spelling_numberOf_14 rfl (lv_at hl 2 rfl) ?_
        refine lv_aload_n hx hb d_Spelling_numberOf_15 rfl (lv_at hl 1 rfl) ?_
        replace hrun := hb_some hrun
        obtain ⟨v16, g16, hrun⟩ := hrun
        refine h_alen S hK (kd := 0) rfl hw g16 d_Spelling_numberOf_16 ?_
        refine lv_iload_n hx hb d_Spelling_numberOf_17 rfl (lv_at hl 3 rfl) ?_
        refine lv_isub hx hb d_Spelling_numberOf_18 ?_
        refine lv_icmp_le (tgt := 24) hx hb d_Spelling_numberOf_19 (by decide) (fun c19 => ?_) (fun c19 => ?_)
        · rw [if_pos c19] at hrun
          refine lv_iconst (v := (0 : Int32)) hx hb d_Spelling_numberOf_24 (by decide) ?_
          refine lv_istore (lv' := [(4, .int (0 : Int32)), (0, .ref a0), (1, .ref a1), (2, .int i2), (3, .int i3)]) hx hb d_Spelling_numberOf_25 hl (by decide) rfl (fun ls hl => ?_)
          replace hrun := hbW_some hrun
          obtain ⟨b27, h27l, g27, hrun⟩ := hrun
          refine l_27 i2 i3 n (0 : Int32) h _ _ _ _ _ g27 hw hS (lv_sub hl [1, 2, 3, 4, 0] rfl) ?_ ?_
          · rintro x4_27 eq9 H locs ls hw hS hl
            obtain rfl := eq9.symm
            try dsimp only at hrun
            refine lv_iload hx hb d_Spelling_numberOf_48 (lv_at hl 0 rfl) ?_
            cases hrun
            exact W.iret hx hb hr (fun t ht hW9 => ⟨⟨_, (), rfl, rfl, by show hW D dA classes b0 _ _ t.heap; rw [ht]; exact hw⟩, hS.F ht⟩) hS.2.2 d_Spelling_numberOf_50
          · rintro  eq9 H locs ls hw hS hl
            obtain rfl := eq9.symm
            try dsimp only at hrun
            refine lv_aload_n hx hb d_Spelling_numberOf_57 rfl (lv_at hl 0 rfl) ?_
            replace hrun := hb_some hrun
            obtain ⟨v58, g58, hrun⟩ := hrun
            refine h_getI S (fun w q => hT w (i_Spelling w q)) hK (ci := 9) rfl 2 (by decide) (hT _ fl_Spelling_18) hw g58 d_Spelling_numberOf_58 ?_
            refine lv_bipush (v := (100 : Int32)) hx hb d_Spelling_numberOf_61 (by decide) ?_
            refine lv_icmp_lt (tgt := 68) hx hb d_Spelling_numberOf_63 (by decide) (fun c63 => ?_) (fun c63 => ?_)
            · rw [if_pos c63] at hrun
              refine lv_aload_n hx hb d_Spelling_numberOf_68 rfl (lv_at hl 1 rfl) ?_
              refine lv_iload_n hx hb d_Spelling_numberOf_69 rfl (lv_at hl 2 rfl) ?_
              refine lv_aload_n hx hb d_Spelling_numberOf_70 rfl (lv_at hl 0 rfl) ?_
              replace hrun := hb_some hrun
              obtain ⟨v71, g71, hrun⟩ := hrun
              refine h_getR S (fun w q => hT w (i_Spelling w q)) hK (ci := 9) rfl 0 (by decide) (hT _ fl_Spelling_9) hw g71 d_Spelling_numberOf_71 ?_
              refine lv_aload_n hx hb d_Spelling_numberOf_74 rfl (lv_at hl 0 rfl) ?_
              replace hrun := hb_some hrun
              obtain ⟨v75, g75, hrun⟩ := hrun
              refine h_getI S (fun w q => hT w (i_Spelling w q)) hK (ci := 9) rfl 2 (by decide) (hT _ fl_Spelling_18) hw g75 d_Spelling_numberOf_75 ?_
              refine lv_bipush (v := (8 : Int32)) hx hb d_Spelling_numberOf_78 (by decide) ?_
              refine lv_imul hx hb d_Spelling_numberOf_80 ?_
              refine lv_iload_n hx hb d_Spelling_numberOf_81 rfl (lv_at hl 3 rfl) ?_
              replace hrun := hb_some hrun
              obtain ⟨p82_2, rfl, hrun⟩ := hrun
              replace hrun := hb_some hrun
              obtain ⟨h82, g82, hrun⟩ := hrun
              refine h_copyi S hl.1 (hT _ ml_Spelling_26) (hT _ nt_copy) (hT _ sm_copy) (hT _ it_System) hK (kd := 0) rfl hw hS g82 (Nat.le_of_ble_eq_true rfl) (Nat.le_of_ble_eq_true rfl) d_Spelling_numberOf_82 (fun H locs hw hS => ?_)
              refine lv_aload_n hx hb d_Spelling_numberOf_85 rfl (lv_at hl 0 rfl) ?_
              replace hrun := hb_some hrun
              obtain ⟨v86, g86, hrun⟩ := hrun
              refine h_getR S (fun w q => hT w (i_Spelling w q)) hK (ci := 9) rfl 1 (by decide) (hT _ fl_Spelling_15) hw g86 d_Spelling_numberOf_86 ?_
              refine lv_aload_n hx hb d_Spelling_numberOf_89 rfl (lv_at hl 0 rfl) ?_
              replace hrun := hb_some hrun
              obtain ⟨v90, g90, hrun⟩ := hrun
              refine h_getI S (fun w q => hT w (i_Spelling w q)) hK (ci := 9) rfl 2 (by decide) (hT _ fl_Spelling_18) hw g90 d_Spelling_numberOf_90 ?_
              refine lv_iload_n hx hb d_Spelling_numberOf_93 rfl (lv_at hl 3 rfl) ?_
              replace hrun := hb_some hrun
              obtain ⟨p94, rfl, hrun⟩ := hrun
              replace hrun := hb_some hrun
              obtain ⟨h94, g94, hrun⟩ := hrun
              refine h_iast S hK (kd := 0) rfl hw hS g94 d_Spelling_numberOf_94 (fun H locs hw hS => ?_)
              refine lv_aload_n hx hb d_Spelling_numberOf_95 rfl (lv_at hl 0 rfl) ?_
              refine lv_dup hx hb d_Spelling_numberOf_96 rfl ?_
              replace hrun := hb_some hrun
              obtain ⟨v97, g97, hrun⟩ := hrun
              refine h_getI S (fun w q => hT w (i_Spelling w q)) hK (ci := 9) rfl 2 (by decide) (hT _ fl_Spelling_18) hw g97 d_Spelling_numberOf_97 ?_
              refine lv_iconst (v := (1 : Int32)) hx hb d_Spelling_numberOf_100 (by decide) ?_
              refine lv_iadd hx hb d_Spelling_numberOf_101 ?_
              replace hrun := hb_some hrun
              obtain ⟨h102, g102, hrun⟩ := hrun
              refine h_put S (fun w q => hT w (i_Spelling w q)) t_Spelling t_Spelling_ok n_Spelling hK (ci := 9) rfl 2 (by decide) (hT _ fl_Spelling_18) rfl rfl rfl hw hS g102 d_Spelling_numberOf_102 (fun H locs hw hS => ?_)
              refine lv_aload_n hx hb d_Spelling_numberOf_105 rfl (lv_at hl 0 rfl) ?_
              replace hrun := hb_some hrun
              obtain ⟨v106, g106, hrun⟩ := hrun
              refine h_getI S (fun w q => hT w (i_Spelling w q)) hK (ci := 9) rfl 2 (by decide) (hT _ fl_Spelling_18) hw g106 d_Spelling_numberOf_106 ?_
              refine lv_iconst (v := (1 : Int32)) hx hb d_Spelling_numberOf_109 (by decide) ?_
              refine lv_isub hx hb d_Spelling_numberOf_110 ?_
              cases hrun
              exact W.iret hx hb hr (fun t ht hW9 => ⟨⟨_, (), rfl, rfl, by show hW D dA classes b0 _ _ t.heap; rw [ht]; exact hw⟩, hS.F ht⟩) hS.2.2 d_Spelling_numberOf_111
            · rw [if_neg c63] at hrun
              refine lv_iconst (v := (-1 : Int32)) hx hb d_Spelling_numberOf_66 (by decide) ?_
              cases hrun
              exact W.iret hx hb hr (fun t ht hW9 => ⟨⟨_, (), rfl, rfl, by show hW D dA classes b0 _ _ t.heap; rw [ht]; exact hw⟩, hS.F ht⟩) hS.2.2 d_Spelling_numberOf_67
        · rw [if_neg c19] at hrun
          refine lv_iconst (v := (-1 : Int32)) hx hb d_Spelling_numberOf_22 (by decide) ?_
          cases hrun
          exact W.iret hx hb hr (fun t ht hW9 => ⟨⟨_, (), rfl, rfl, by show hW D dA classes b0 _ _ t.heap; rw [ht]; exact hw⟩, hS.F ht⟩) hS.2.2 d_Spelling_numberOf_23
set_option maxHeartbeats 4000000 in
set_option maxRecDepth 100000 in
theorem c_Expander_endNaming (l : Launch) (D : va_G) (dA : Nat → ClassId) (b0 : Nat) (n : Nat) (a0 : Nat) (i1 : Int32) (i2 : Int32) (nx : Nat) {h h' : hH} {r : Int32} (hrun : f_Expander_endNaming n a0 i1 i2 h = some (r, h')) : Met l y_Expander_endNaming w_Expander_endNaming ({ frames := 2, cells := 0, slots := 0, locals := 72 } : Room) (va_Pc [.ref a0, .int i1, .int i2] (hB D dA b0 nx h)) (va_Qi (fun r' (_ : Unit) => r' = r) (fun (_ : Unit) t => hW D dA classes b0 nx h' t.heap) (hA b0)) 0 0 (hA b0) := by
  refine Met.ofW (cc := b_Expander_endNaming) (maxL := 4) (ret := (some .int)) (by decide) rfl ?_
  intro p e s m args below meth c s₁ B hml hv
  obtain ⟨rfl, hw, hK, hN⟩ := hv
  have hx := B.exec
  have hb := B.bytes
  have hr := B.returns
  have hlocks := B.notSynchronized
  have S : CallFix p m c b_Expander_endNaming 4 s ([.ref a0, .int i1, .int i2] : List Value).toArray w_Expander_endNaming R_Expander := ⟨hx, hb, hml, findClass_of_methodNamed B.named, atoms_spec (ws := w_Expander_endNaming) B.pre⟩
  have hT : ∀ w ∈ tbl, w ∈ w_Expander_endNaming := fun _ q => List.mem_cons_of_mem _ q
  have hS : va_S (hA b0) s.heap s.heap [] := va_S.rf
  have hl := lv_entry ([.ref a0, .int i1, .int i2]) (n := 4) (Nat.le_of_ble_eq_true rfl)
  rw [lg_entry_eq]
  generalize (lg_sl ([.ref a0, .int i1, .int i2]) ++ List.replicate (4 - (lg_sl ([.ref a0, .int i1, .int i2])).length) Slot.unset).toArray = ls at hl ⊢
  have hl : lv_has ls 4 [(0, .ref a0), (1, .int i1), (2, .int i2)] := hl
  unfold f_Expander_endNaming at hrun
  refine lv_iload_n hx hb d_Expander_endNaming_0 rfl (lv_at hl 2 rfl) ?_
  refine lv_if_ne (tgt := 6) hx hb d_Expander_endNaming_1 (by decide) (fun c1 => ?_) (fun c1 => ?_)
  · rw [if_neg c1] at hrun
    refine lv_aload_n hx hb d_Expander_endNaming_6 rfl (lv_at hl 0 rfl) ?_
    replace hrun := hb_some hrun
    obtain ⟨v7, g7, hrun⟩ := hrun
    refine h_getR S (fun w q => hT w (i_Expander w q)) hK (ci := 5) rfl 3 (by decide) (hT _ fl_Expander_23) hw g7 d_Expander_endNaming_7 ?_
    refine lv_aload_n hx hb d_Expander_endNaming_10 rfl (lv_at hl 0 rfl) ?_
    replace hrun := hb_some hrun
    obtain ⟨v11, g11, hrun⟩ := hrun
    refine h_getR S (fun w q => hT w (i_Expander w q)) hK (ci := 5) rfl 7 (by decide) (hT _ fl_Expander_47) hw g11 d_Expander_endNaming_11 ?_
    refine lv_iload_n hx hb d_Expander_endNaming_14 rfl (lv_at hl 1 rfl) ?_
    refine lv_bipush (v := (8 : Int32)) hx hb d_Expander_endNaming_15 (by decide) ?_
    refine lv_imul hx hb d_Expander_endNaming_17 ?_
    refine lv_iload_n hx hb d_Expander_endNaming_18 rfl (lv_at hl 2 rfl) ?_
    replace hrun := hb_some hrun
    obtain ⟨p19, rfl, hrun⟩ := hrun
    replace hrun := hb_some hrun
    obtain ⟨p19_0, rfl, hrun⟩ := hrun
    replace hrun := hb_some hrun
    obtain ⟨c19, k19, hrun⟩ := hrun
    replace hrun := hbW_some hrun
    obtain ⟨v19, h19, g19, hrun⟩ := hrun
    refine h_ci (h_runV S (As := [.ref p19_0, .int (i1 * (8 : Int32)), .int i2]) (rest := []) (c_Spelling_numberOf l D dA b0 n p19 p19_0 (i1 * (8 : Int32)) i2 nx g19) (cwV 3 S.2.2.2.2 (h_good _ (h_in4 ml_Expander_138 im_Spelling_numberOf se_Spelling_numberOf it_Spelling) cd_Spelling_numberOf) rfl rfl rfl (by decide +kernel) ⟨Nat.le_of_ble_eq_true rfl, Nat.le_of_ble_eq_true rfl⟩) hK hN hw (ci := 9) rfl k19 rfl hl.1 (lv_room (Nat.le_of_ble_eq_true rfl)) d_Expander_endNaming_19 ⟨Nat.le_refl _, Nat.le_refl _⟩) hS (fun H locs hw hS => ?_)
    refine lv_istore_n (lv' := [(3, .int v19), (0, .ref a0), (1, .int i1), (2, .int i2)]) hx hb d_Expander_endNaming_22 rfl hl (by decide) rfl (fun ls hl => ?_)
    refine lv_iload_n hx hb d_Expander_endNaming_23 rfl (lv_at hl 0 rfl) ?_
    refine lv_iconst (v := (-1 : Int32)) hx hb d_Expander_endNaming_24 (by decide) ?_
    refine lv_icmp_ne (tgt := 31) hx hb d_Expander_endNaming_25 (by decide) (fun c25 => ?_) (fun c25 => ?_)
    · rw [if_neg c25] at hrun
      refine lv_aload_n hx hb d_Expander_endNaming_31 rfl (lv_at hl 1 rfl) ?_
      refine lv_dup hx hb d_Expander_endNaming_32 rfl ?_
      replace hrun := hb_some hrun
      obtain ⟨v33, g33, hrun⟩ := hrun
      refine h_getI S (fun w q => hT w (i_Expander w q)) hK (ci := 5) rfl 9 (by decide) (hT _ fl_Expander_56) hw g33 d_Expander_endNaming_33 ?_
      refine lv_iconst (v := (1 : Int32)) hx hb d_Expander_endNaming_36 (by decide) ?_
      refine lv_isub hx hb d_Expander_endNaming_37 ?_
      replace hrun := hb_some hrun
      obtain ⟨h38, g38, hrun⟩ := hrun
      refine h_put S (fun w q => hT w (i_Expander w q)) t_Expander t_Expander_ok n_Expander hK (ci := 5) rfl 9 (by decide) (hT _ fl_Expander_56) rfl rfl rfl hw hS g38 d_Expander_endNaming_38 (fun H locs hw hS => ?_)
      refine lv_aload_n hx hb d_Expander_endNaming_41 rfl (lv_at hl 1 rfl) ?_
      replace hrun := hb_some hrun
      obtain ⟨v42, g42, hrun⟩ := hrun
      refine h_getR S (fun w q => hT w (i_Expander w q)) hK (ci := 5) rfl 1 (by decide) (hT _ fl_Expander_15) hw g42 d_Expander_endNaming_42 ?_
      refine lv_sipush (v := (1100 : Int32)) hx hb d_Expander_endNaming_45 (by decide) ?_
      refine lv_iload_n hx hb d_Expander_endNaming_48 rfl (lv_at hl 0 rfl) ?_
      refine lv_iadd hx hb d_Expander_endNaming_49 ?_
      replace hrun := hb_some hrun
      obtain ⟨p50, rfl, hrun⟩ := hrun
      replace hrun := hb_some hrun
      obtain ⟨c50, k50, hrun⟩ := hrun
      replace hrun := hbW_some hrun
      obtain ⟨_u50, h50, g50, hrun⟩ := hrun
      refine h_cv (h_runV S (As := [.int ((1100 : Int32) + v19)]) (rest := []) (c_Input_put l D dA b0 p50 ((1100 : Int32) + v19) nx g50) (cwV 1 S.2.2.2.2 (h_good _ (h_in4 ml_Expander_121 im_Input_put se_Input_put it_Input) cd_Input_put) rfl rfl rfl (by decide +kernel) ⟨Nat.le_of_ble_eq_true rfl, Nat.le_of_ble_eq_true rfl⟩) hK hN hw (ci := 6) rfl k50 rfl hl.1 (lv_room (Nat.le_of_ble_eq_true rfl)) d_Expander_endNaming_50 ⟨Nat.le_refl _, Nat.le_refl _⟩) hS (fun H locs hw hS => ?_)
      refine lv_iconst (v := (0 : Int32)) hx hb d_Expander_endNaming_53 (by decide) ?_
      cases hrun
      exact W.iret hx hb hr (fun t ht hW9 => ⟨⟨_, (), rfl, rfl, by show hW D dA classes b0 _ _ t.heap; rw [ht]; exact hw⟩, hS.F ht⟩) hS.2.2 d_Expander_endNaming_54
    · rw [if_pos c25] at hrun
      refine lv_bipush (v := (8 : Int32)) hx hb d_Expander_endNaming_28 (by decide) ?_
      cases hrun
      exact W.iret hx hb hr (fun t ht hW9 => ⟨⟨_, (), rfl, rfl, by show hW D dA classes b0 _ _ t.heap; rw [ht]; exact hw⟩, hS.F ht⟩) hS.2.2 d_Expander_endNaming_30
  · rw [if_pos c1] at hrun
    refine lv_iconst (v := (4 : Int32)) hx hb d_Expander_endNaming_4 (by decide) ?_
    cases hrun
    exact W.iret hx hb hr (fun t ht hW9 => ⟨⟨_, (), rfl, rfl, by show hW D dA classes b0 _ _ t.heap; rw [ht]; exact hw⟩, hS.F ht⟩) hS.2.2 d_Expander_endNaming_5
set_option maxHeartbeats 4000000 in
set_option maxRecDepth 100000 in
theorem c_Kind_isSign (l : Launch) (D : va_G) (dA : Nat → ClassId) (b0 : Nat) (i0 : Int32) (nx : Nat) {h : hH} {r : Int32} (hrun : f_Kind_isSign i0 h = some r) : Met l y_Kind_isSign w_Kind_isSign ({ frames := 0, cells := 0, slots := 0, locals := 0 } : Room) (va_Pc [.int i0] (hB D dA b0 nx h)) (va_Qi (fun r' (_ : Unit) => r' = r) (fun (_ : Unit) t => hW D dA classes b0 nx h t.heap) (hA b0)) 0 0 (hA b0) := by
  refine Met.ofW (cc := b_Kind_isSign) (maxL := 1) (ret := (some .boolean)) (by decide) rfl ?_
  intro p e s m args below meth c s₁ B hml hv
  obtain ⟨rfl, hw, hK, hN⟩ := hv
  have hx := B.exec
  have hb := B.bytes
  have hr := B.returns
  have hlocks := B.notSynchronized
  have S : CallFix p m c b_Kind_isSign 1 s ([.int i0] : List Value).toArray w_Kind_isSign R_Kind := ⟨hx, hb, hml, findClass_of_methodNamed B.named, atoms_spec (ws := w_Kind_isSign) B.pre⟩
  have hT : ∀ w ∈ tbl, w ∈ w_Kind_isSign := fun _ q => List.mem_cons_of_mem _ q
  have hS : va_S (hA b0) s.heap s.heap [] := va_S.rf
  have hl := lv_entry ([.int i0]) (n := 1) (Nat.le_of_ble_eq_true rfl)
  rw [lg_entry_eq]
  generalize (lg_sl ([.int i0]) ++ List.replicate (1 - (lg_sl ([.int i0])).length) Slot.unset).toArray = ls at hl ⊢
  have hl : lv_has ls 1 [(0, .int i0)] := hl
  unfold f_Kind_isSign at hrun
  refine lv_iload_n hx hb d_Kind_isSign_0 rfl (lv_at hl 0 rfl) ?_
  refine lv_if_lt (tgt := 15) hx hb d_Kind_isSign_1 (by decide) (fun c1 => ?_) (fun c1 => ?_)
  · rw [if_pos c1] at hrun
    refine lv_iconst (v := (0 : Int32)) hx hb d_Kind_isSign_15 (by decide) ?_
    cases hrun
    exact W.zret hx hb hr (by decide) (fun t ht hW9 => ⟨⟨_, (), rfl, rfl, by show hW D dA classes b0 _ _ t.heap; rw [ht]; exact hw⟩, hS.F ht⟩) hS.2.2 d_Kind_isSign_16
  · rw [if_neg c1] at hrun
    refine lv_iload_n hx hb d_Kind_isSign_4 rfl (lv_at hl 0 rfl) ?_
    refine lv_sipush (v := (255 : Int32)) hx hb d_Kind_isSign_5 (by decide) ?_
    refine lv_icmp_gt (tgt := 15) hx hb d_Kind_isSign_8 (by decide) (fun c8 => ?_) (fun c8 => ?_)
    · rw [if_pos c8] at hrun
      refine lv_iconst (v := (0 : Int32)) hx hb d_Kind_isSign_15 (by decide) ?_
      cases hrun
      exact W.zret hx hb hr (by decide) (fun t ht hW9 => ⟨⟨_, (), rfl, rfl, by show hW D dA classes b0 _ _ t.heap; rw [ht]; exact hw⟩, hS.F ht⟩) hS.2.2 d_Kind_isSign_16
    · rw [if_neg c8] at hrun
      refine lv_iconst (v := (1 : Int32)) hx hb d_Kind_isSign_11 (by decide) ?_
      refine lv_goto (tgt := 16) hx hb d_Kind_isSign_12 (by decide) ?_
      cases hrun
      exact W.zret hx hb hr (by decide) (fun t ht hW9 => ⟨⟨_, (), rfl, rfl, by show hW D dA classes b0 _ _ t.heap; rw [ht]; exact hw⟩, hS.F ht⟩) hS.2.2 d_Kind_isSign_16
set_option maxHeartbeats 4000000 in
set_option maxRecDepth 100000 in
theorem c_Expander_goOnNaming (l : Launch) (D : va_G) (dA : Nat → ClassId) (b0 : Nat) (n : Nat) (a0 : Nat) (nx : Nat) {h h' : hH} {r : Int32} (hrun : f_Expander_goOnNaming n a0 h = some (r, h')) : Met l y_Expander_goOnNaming w_Expander_goOnNaming ({ frames := 3, cells := 0, slots := 0, locals := 95 } : Room) (va_Pc [.ref a0] (hB D dA b0 nx h)) (va_Qi (fun r' (_ : Unit) => r' = r) (fun (_ : Unit) t => hW D dA classes b0 nx h' t.heap) (hA b0)) 0 0 (hA b0) := by
  refine Met.ofW (cc := b_Expander_goOnNaming) (maxL := 4) (ret := (some .int)) (by decide) rfl ?_
  intro p e s m args below meth c s₁ B hml hv
  obtain ⟨rfl, hw, hK, hN⟩ := hv
  have hx := B.exec
  have hb := B.bytes
  have hr := B.returns
  have hlocks := B.notSynchronized
  have S : CallFix p m c b_Expander_goOnNaming 4 s ([.ref a0] : List Value).toArray w_Expander_goOnNaming R_Expander := ⟨hx, hb, hml, findClass_of_methodNamed B.named, atoms_spec (ws := w_Expander_goOnNaming) B.pre⟩
  have hT : ∀ w ∈ tbl, w ∈ w_Expander_goOnNaming := fun _ q => List.mem_cons_of_mem _ q
  have hS : va_S (hA b0) s.heap s.heap [] := va_S.rf
  have hl := lv_entry ([.ref a0]) (n := 4) (Nat.le_of_ble_eq_true rfl)
  rw [lg_entry_eq]
  generalize (lg_sl ([.ref a0]) ++ List.replicate (4 - (lg_sl ([.ref a0])).length) Slot.unset).toArray = ls at hl ⊢
  have hl : lv_has ls 4 [(0, .ref a0)] := hl
  unfold f_Expander_goOnNaming at hrun
  refine lv_aload_n hx hb d_Expander_goOnNaming_0 rfl (lv_at hl 0 rfl) ?_
  replace hrun := hb_some hrun
  obtain ⟨v1, g1, hrun⟩ := hrun
  refine h_getR S (fun w q => hT w (i_Expander w q)) hK (ci := 5) rfl 1 (by decide) (hT _ fl_Expander_15) hw g1 d_Expander_goOnNaming_1 ?_
  replace hrun := hb_some hrun
  obtain ⟨p4, rfl, hrun⟩ := hrun
  replace hrun := hb_some hrun
  obtain ⟨c4, k4, hrun⟩ := hrun
  replace hrun := hb_some hrun
  obtain ⟨v4, g4, hrun⟩ := hrun
  refine h_ci (h_runV S (As := []) (rest := []) (c_Input_isEmpty l D dA b0 p4 nx g4) (cwV 0 S.2.2.2.2 (h_good _ (h_in4 ml_Expander_102 im_Input_isEmpty se_Input_isEmpty it_Input) cd_Input_isEmpty) rfl rfl rfl (by decide +kernel) ⟨Nat.le_of_ble_eq_true rfl, Nat.le_of_ble_eq_true rfl⟩) hK hN hw (ci := 6) rfl k4 rfl hl.1 (lv_room (Nat.le_of_ble_eq_true rfl)) d_Expander_goOnNaming_4 ⟨Nat.le_refl _, Nat.le_refl _⟩) hS (fun H locs hw hS => ?_)
  refine lv_if_eq (tgt := 12) hx hb d_Expander_goOnNaming_7 (by decide) (fun c7 => ?_) (fun c7 => ?_)
  · rw [if_pos c7] at hrun
    refine lv_aload_n hx hb d_Expander_goOnNaming_12 rfl (lv_at hl 0 rfl) ?_
    replace hrun := hb_some hrun
    obtain ⟨c13, k13, hrun⟩ := hrun
    replace hrun := hbW_some hrun
    obtain ⟨v13, h13, g13, hrun⟩ := hrun
    refine h_ci (h_runV S (As := []) (rest := []) (c_Expander_takeFirst l D dA b0 a0 nx g13) (cwV 0 S.2.2.2.2 (h_good _ (h_in4 ml_Expander_125 im_Expander_takeFirst se_Expander_takeFirst it_Expander) cd_Expander_takeFirst) rfl rfl rfl (by decide +kernel) ⟨Nat.le_of_ble_eq_true rfl, Nat.le_of_ble_eq_true rfl⟩) hK hN hw (ci := 5) rfl k13 rfl hl.1 (lv_room (Nat.le_of_ble_eq_true rfl)) d_Expander_goOnNaming_13 ⟨Nat.le_refl _, Nat.le_refl _⟩) hS (fun H locs hw hS => ?_)
    refine lv_istore_n (lv' := [(1, .int v13), (0, .ref a0)]) hx hb d_Expander_goOnNaming_16 rfl hl (by decide) rfl (fun ls hl => ?_)
    refine lv_aload_n hx hb d_Expander_goOnNaming_17 rfl (lv_at hl 1 rfl) ?_
    replace hrun := hb_some hrun
    obtain ⟨v18, g18, hrun⟩ := hrun
    refine h_getI S (fun w q => hT w (i_Expander w q)) hK (ci := 5) rfl 9 (by decide) (hT _ fl_Expander_56) hw g18 d_Expander_goOnNaming_18 ?_
    refine lv_iconst (v := (1 : Int32)) hx hb d_Expander_goOnNaming_21 (by decide) ?_
    refine lv_isub hx hb d_Expander_goOnNaming_22 ?_
    refine lv_istore_n (lv' := [(2, .int (v18 - (1 : Int32))), (1, .int v13), (0, .ref a0)]) hx hb d_Expander_goOnNaming_23 rfl hl (by decide) rfl (fun ls hl => ?_)
    refine lv_aload_n hx hb d_Expander_goOnNaming_24 rfl (lv_at hl 2 rfl) ?_
    replace hrun := hb_some hrun
    obtain ⟨v25, g25, hrun⟩ := hrun
    refine h_getR S (fun w q => hT w (i_Expander w q)) hK (ci := 5) rfl 8 (by decide) (hT _ fl_Expander_50) hw g25 d_Expander_goOnNaming_25 ?_
    refine lv_iload_n hx hb d_Expander_goOnNaming_28 rfl (lv_at hl 0 rfl) ?_
    replace hrun := hb_some hrun
    obtain ⟨p29, rfl, hrun⟩ := hrun
    replace hrun := hb_some hrun
    obtain ⟨v29, g29, hrun⟩ := hrun
    refine h_iald S hK (kd := 0) rfl hw g29 d_Expander_goOnNaming_29 ?_
    refine lv_istore_n (lv' := [(3, .int v29), (2, .int (v18 - (1 : Int32))), (1, .int v13), (0, .ref a0)]) hx hb d_Expander_goOnNaming_30 rfl hl (by decide) rfl (fun ls hl => ?_)
    refine lv_iload_n hx hb d_Expander_goOnNaming_31 rfl (lv_at hl 2 rfl) ?_
    refine lv_sipush (v := (263 : Int32)) hx hb d_Expander_goOnNaming_32 (by decide) ?_
    refine lv_icmp_ne (tgt := 45) hx hb d_Expander_goOnNaming_35 (by decide) (fun c35 => ?_) (fun c35 => ?_)
    · rw [if_neg c35] at hrun
      refine lv_iload_n hx hb d_Expander_goOnNaming_45 rfl (lv_at hl 2 rfl) ?_
      replace hrun := hb_some hrun
      obtain ⟨v46, g46, hrun⟩ := hrun
      refine h_ci (h_runS S (As := [.int v13]) (rest := []) (c_Kind_isSign l D dA b0 v13 nx g46) (va_cwS 1 S.2.2.2.2 (h_good _ (h_in3 ml_Expander_132 sm_Kind_isSign it_Kind) cd_Kind_isSign) rfl rfl rfl (by decide +kernel) ⟨Nat.le_of_ble_eq_true rfl, Nat.le_of_ble_eq_true rfl⟩) hK hN hw rfl hl.1 (lv_room (Nat.le_of_ble_eq_true rfl)) d_Expander_goOnNaming_46 ⟨Nat.le_refl _, Nat.le_refl _⟩) hS (fun H locs hw hS => ?_)
      refine lv_if_eq (tgt := 58) hx hb d_Expander_goOnNaming_49 (by decide) (fun c49 => ?_) (fun c49 => ?_)
      · rw [if_pos c49] at hrun
        refine lv_iconst (v := (4 : Int32)) hx hb d_Expander_goOnNaming_58 (by decide) ?_
        cases hrun
        exact W.iret hx hb hr (fun t ht hW9 => ⟨⟨_, (), rfl, rfl, by show hW D dA classes b0 _ _ t.heap; rw [ht]; exact hw⟩, hS.F ht⟩) hS.2.2 d_Expander_goOnNaming_59
      · rw [if_neg c49] at hrun
        refine lv_iload_n hx hb d_Expander_goOnNaming_52 rfl (lv_at hl 0 rfl) ?_
        refine lv_bipush (v := (8 : Int32)) hx hb d_Expander_goOnNaming_53 (by decide) ?_
        refine lv_icmp_lt (tgt := 60) hx hb d_Expander_goOnNaming_55 (by decide) (fun c55 => ?_) (fun c55 => ?_)
        · rw [if_pos c55] at hrun
          refine lv_aload_n hx hb d_Expander_goOnNaming_60 rfl (lv_at hl 3 rfl) ?_
          replace hrun := hb_some hrun
          obtain ⟨v61, g61, hrun⟩ := hrun
          refine h_getR S (fun w q => hT w (i_Expander w q)) hK (ci := 5) rfl 7 (by decide) (hT _ fl_Expander_47) hw g61 d_Expander_goOnNaming_61 ?_
          refine lv_iload_n hx hb d_Expander_goOnNaming_64 rfl (lv_at hl 1 rfl) ?_
          refine lv_bipush (v := (8 : Int32)) hx hb d_Expander_goOnNaming_65 (by decide) ?_
          refine lv_imul hx hb d_Expander_goOnNaming_67 ?_
          refine lv_iload_n hx hb d_Expander_goOnNaming_68 rfl (lv_at hl 0 rfl) ?_
          refine lv_iadd hx hb d_Expander_goOnNaming_69 ?_
          refine lv_iload_n hx hb d_Expander_goOnNaming_70 rfl (lv_at hl 2 rfl) ?_
          replace hrun := hb_some hrun
          obtain ⟨p71, rfl, hrun⟩ := hrun
          replace hrun := hb_some hrun
          obtain ⟨h71, g71, hrun⟩ := hrun
          refine h_iast S hK (kd := 0) rfl hw hS g71 d_Expander_goOnNaming_71 (fun H locs hw hS => ?_)
          refine lv_aload_n hx hb d_Expander_goOnNaming_72 rfl (lv_at hl 3 rfl) ?_
          replace hrun := hb_some hrun
          obtain ⟨v73, g73, hrun⟩ := hrun
          refine h_getR S (fun w q => hT w (i_Expander w q)) hK (ci := 5) rfl 8 (by decide) (hT _ fl_Expander_50) hw g73 d_Expander_goOnNaming_73 ?_
          refine lv_iload_n hx hb d_Expander_goOnNaming_76 rfl (lv_at hl 1 rfl) ?_
          refine lv_iload_n hx hb d_Expander_goOnNaming_77 rfl (lv_at hl 0 rfl) ?_
          refine lv_iconst (v := (1 : Int32)) hx hb d_Expander_goOnNaming_78 (by decide) ?_
          refine lv_iadd hx hb d_Expander_goOnNaming_79 ?_
          replace hrun := hb_some hrun
          obtain ⟨p80, rfl, hrun⟩ := hrun
          replace hrun := hb_some hrun
          obtain ⟨h80, g80, hrun⟩ := hrun
          refine h_iast S hK (kd := 0) rfl hw hS g80 d_Expander_goOnNaming_80 (fun H locs hw hS => ?_)
          refine lv_iconst (v := (0 : Int32)) hx hb d_Expander_goOnNaming_81 (by decide) ?_
          cases hrun
          exact W.iret hx hb hr (fun t ht hW9 => ⟨⟨_, (), rfl, rfl, by show hW D dA classes b0 _ _ t.heap; rw [ht]; exact hw⟩, hS.F ht⟩) hS.2.2 d_Expander_goOnNaming_82
        · rw [if_neg c55] at hrun
          refine lv_iconst (v := (4 : Int32)) hx hb d_Expander_goOnNaming_58 (by decide) ?_
          cases hrun
          exact W.iret hx hb hr (fun t ht hW9 => ⟨⟨_, (), rfl, rfl, by show hW D dA classes b0 _ _ t.heap; rw [ht]; exact hw⟩, hS.F ht⟩) hS.2.2 d_Expander_goOnNaming_59
    · rw [if_pos c35] at hrun
      refine lv_aload_n hx hb d_Expander_goOnNaming_38 rfl (lv_at hl 3 rfl) ?_
      refine lv_iload_n hx hb d_Expander_goOnNaming_39 rfl (lv_at hl 1 rfl) ?_
      refine lv_iload_n hx hb d_Expander_goOnNaming_40 rfl (lv_at hl 0 rfl) ?_
      replace hrun := hb_some hrun
      obtain ⟨c41, k41, hrun⟩ := hrun
      replace hrun := hbW_some hrun
      obtain ⟨v41, h41, g41, hrun⟩ := hrun
      refine h_ci (h_runV S (As := [.int (v18 - (1 : Int32)), .int v29]) (rest := []) (c_Expander_endNaming l D dA b0 n a0 (v18 - (1 : Int32)) v29 nx g41) (cwV 2 S.2.2.2.2 (h_good _ (h_in4 ml_Expander_128 im_Expander_endNaming se_Expander_endNaming it_Expander) cd_Expander_endNaming) rfl rfl rfl (by decide +kernel) ⟨Nat.le_of_ble_eq_true rfl, Nat.le_of_ble_eq_true rfl⟩) hK hN hw (ci := 5) rfl k41 rfl hl.1 (lv_room (Nat.le_of_ble_eq_true rfl)) d_Expander_goOnNaming_41 ⟨Nat.le_refl _, Nat.le_refl _⟩) hS (fun H locs hw hS => ?_)
      cases hrun
      exact W.iret hx hb hr (fun t ht hW9 => ⟨⟨_, (), rfl, rfl, by show hW D dA classes b0 _ _ t.heap; rw [ht]; exact hw⟩, hS.F ht⟩) hS.2.2 d_Expander_goOnNaming_44
  · rw [if_neg c7] at hrun
    refine lv_iconst (v := (1 : Int32)) hx hb d_Expander_goOnNaming_10 (by decide) ?_
    cases hrun
    exact W.iret hx hb hr (fun t ht hW9 => ⟨⟨_, (), rfl, rfl, by show hW D dA classes b0 _ _ t.heap; rw [ht]; exact hw⟩, hS.F ht⟩) hS.2.2 d_Expander_goOnNaming_11
