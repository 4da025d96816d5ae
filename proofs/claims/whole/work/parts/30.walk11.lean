set_option maxHeartbeats 4000000 in
set_option maxRecDepth 100000 in
theorem c_Macro_init (l : Launch) (D : va_G) (dA : Nat → ClassId) (b0 : Nat) (n : Nat) (a0 : Nat) (i1 : Int32) (i2 : Int32) (nxZ : Nat) {h h' : hH} {r : Unit} {dnZ dsZ : Nat} (hrun : f_Macro_init n a0 i1 i2 nxZ h = some (r, dnZ, dsZ, h')) : Met l y_Macro_init w_Macro_init ({ frames := 2, cells := dnZ, slots := dsZ, locals := 41 } : Room) (va_Pc [.ref a0, .int i1, .int i2] (hB D dA b0 nxZ h)) (va_Qv (fun (_ : Unit) => True) (fun (_ : Unit) t => hW D dA classes b0 (nxZ + dnZ) h' t.heap) (hA b0)) dnZ dsZ (hA b0) := by
  refine Met.ofW (cc := b_Macro_init) (maxL := 4) (ret := none) (by decide) rfl ?_
  intro p e s m args below meth c s₁ B hml hv
  obtain ⟨rfl, hw, hK, hN⟩ := hv
  have hx := B.exec
  have hb := B.bytes
  have hr := B.returns
  have hlocks := B.notSynchronized
  have hin : meth.name = "<init>" := (name_of_methodNamed B.named B.method).1
  have S : CallFix p m c b_Macro_init 4 s ([.ref a0, .int i1, .int i2] : List Value).toArray w_Macro_init R_Macro := ⟨hx, hb, hml, findClass_of_methodNamed B.named, atoms_spec (ws := w_Macro_init) B.pre⟩
  have hT : ∀ w ∈ tbl, w ∈ w_Macro_init := fun _ q => List.mem_cons_of_mem _ q
  have hS : va_S (hA b0) s.heap s.heap [] := va_S.rf
  have hl := lv_entry ([.ref a0, .int i1, .int i2]) (n := 4) (Nat.le_of_ble_eq_true rfl)
  rw [lg_entry_eq]
  generalize (lg_sl ([.ref a0, .int i1, .int i2]) ++ List.replicate (4 - (lg_sl ([.ref a0, .int i1, .int i2])).length) Slot.unset).toArray = ls at hl ⊢
  have hl : lv_has ls 4 [(0, .ref a0), (1, .int i1), (2, .int i2)] := hl
  obtain ⟨dn, edn⟩ : ∃ z, z = dnZ := ⟨_, rfl⟩
  obtain ⟨ds, eds⟩ : ∃ z, z = dsZ := ⟨_, rfl⟩
  obtain ⟨nx, enx⟩ : ∃ z, z = nxZ := ⟨_, rfl⟩
  rw [← edn, ← eds, ← enx] at hrun
  rw [← enx] at hw
  have hcR : 0 + dn = dnZ := by omega
  have hsR : 0 + ds = dsZ := by omega
  have hnR : nx + dn = nxZ + dnZ := by omega
  clear edn eds enx
  have l_63 : ∀ (n9 : Nat) (x9 : Int32) (cells slots dn ds nx : Nat) (h : hH) (b9 : (Unit)) (h9 : hH) (H : Heap) (locs : List Loc) (ls : Array Slot), hloopA (f_Macro_init_b63 n a0) n9 x9 nx h = some (b9, dn, ds, h9) → cells + dn ≤ dnZ → slots + ds ≤ dsZ → hW D dA classes b0 nx h H → va_S (hA b0) s.heap H locs → lv_has ls 4 (match x9 with | x3 => [(0, .ref a0), (3, .int x3)]) → (b9 = () → ∀ (H : Heap) (locs : List Loc) (ls : Array Slot), hW D dA classes b0 (nx + dn) h9 H → va_S (hA b0) s.heap H locs → lv_has ls 4 [(0, .ref a0)] → W p l e (headSpec w_Macro_init ({ frames := 2, cells := dnZ, slots := dsZ, locals := 41 } : Room)).room s m ([.ref a0, .int i1, .int i2] : List Value).toArray below meth c H locs (cells + dn) (slots + ds) (MQ below (va_Qv (fun (_ : Unit) => True) (fun (_ : Unit) t => hW D dA classes b0 (nxZ + dnZ) h' t.heap) (hA b0)) ([.ref a0, .int i1, .int i2] : List Value).toArray s dnZ dsZ (hA b0)) (F0 m 94 ls [])) → W p l e (headSpec w_Macro_init ({ frames := 2, cells := dnZ, slots := dsZ, locals := 41 } : Room)).room s m ([.ref a0, .int i1, .int i2] : List Value).toArray below meth c H locs cells slots (MQ below (va_Qv (fun (_ : Unit) => True) (fun (_ : Unit) t => hW D dA classes b0 (nxZ + dnZ) h' t.heap) (hA b0)) ([.ref a0, .int i1, .int i2] : List Value).toArray s dnZ dsZ (hA b0)) (F0 m 63 ls []) := by
    intro  n9
    induction n9 with
    | zero =>
      intro x9 cells slots dn ds nx h b9 h9 H locs ls hrun
      cases hrun
    | succ n9 ih =>
      rintro x3 cells slots dn ds nx h b9 h9 H locs ls hrun hcB hsB hw hS hl k0
      have hl : lv_has ls 4 [(0, .ref a0), (3, .int x3)] := hl
      unfold hloopA at hrun
      obtain ⟨q9, dnb, dsb, h9b, dnr, dsr, hbody, hrun9, edn, eds⟩ := hbind_some hrun
      have K0 : (∀ (z3 : Int32), q9 = .inl z3 → ∀ (H : Heap) (locs : List Loc) (ls : Array Slot), hW D dA classes b0 (nx + dnb) h9b H → va_S (hA b0) s.heap H locs → lv_has ls 4 [(0, .ref a0), (3, .int z3)] → W p l e (headSpec w_Macro_init ({ frames := 2, cells := dnZ, slots := dsZ, locals := 41 } : Room)).room s m ([.ref a0, .int i1, .int i2] : List Value).toArray below meth c H locs (cells + dnb) (slots + dsb) (MQ below (va_Qv (fun (_ : Unit) => True) (fun (_ : Unit) t => hW D dA classes b0 (nxZ + dnZ) h' t.heap) (hA b0)) ([.ref a0, .int i1, .int i2] : List Value).toArray s dnZ dsZ (hA b0)) (F0 m 63 ls [])) := by
        intro z3 eq9 H locs ls hw hS hl
        subst eq9
        exact ih z3 (cells + dnb) (slots + dsb) dnr dsr (nx + dnb) h9b b9 h9 H locs ls hrun9 (by omega) (by omega) hw hS hl (by have q := k0; rw [show nx + dn = nx + dnb + dnr by omega, show cells + dn = cells + dnb + dnr by omega, show slots + ds = slots + dsb + dsr by omega] at q; exact q)
      have K1 : (q9 = .inr () → ∀ (H : Heap) (locs : List Loc) (ls : Array Slot), hW D dA classes b0 (nx + dnb) h9b H → va_S (hA b0) s.heap H locs → lv_has ls 4 [(0, .ref a0)] → W p l e (headSpec w_Macro_init ({ frames := 2, cells := dnZ, slots := dsZ, locals := 41 } : Room)).room s m ([.ref a0, .int i1, .int i2] : List Value).toArray below meth c H locs (cells + dnb) (slots + dsb) (MQ below (va_Qv (fun (_ : Unit) => True) (fun (_ : Unit) t => hW D dA classes b0 (nxZ + dnZ) h' t.heap) (hA b0)) ([.ref a0, .int i1, .int i2] : List Value).toArray s dnZ dsZ (hA b0)) (F0 m 94 ls [])) := by
        intro  eq9 H locs ls hw hS hl
        subst eq9
        cases hrun9
        subst edn; subst eds
        exact k0  rfl H locs ls hw hS hl
      clear hrun hrun9 ih k0
      have hrun := hbody
      clear hbody
      replace hcB : cells + dnb ≤ dnZ := by omega
      replace hsB : slots + dsb ≤ dsZ := by omega
      clear edn eds
      dsimp only [f_Macro_init_b63] at hrun
      have hcR : cells + dnb = cells + dnb := rfl
      have hsR : slots + dsb = slots + dsb := rfl
      have hnR : nx + dnb = nx + dnb := rfl
      refine lv_iload_n hx hb d_Macro_init_63 rfl (lv_at hl 1 rfl) ?_
      refine lv_aload_n hx hb d_Macro_init_64 rfl (lv_at hl 0 rfl) ?_
      replace hrun := hb_some hrun
      obtain ⟨v65, g65, hrun⟩ := hrun
      refine h_getR S (fun w q => hT w (i_Macro w q)) hK (ci := 7) rfl 3 (by decide) (hT _ fl_Macro_33) hw g65 d_Macro_init_65 ?_
      replace hrun := hb_some hrun
      obtain ⟨p68, rfl, hrun⟩ := hrun
      replace hrun := hb_some hrun
      obtain ⟨v68, g68, hrun⟩ := hrun
      refine h_alen S hK (kd := 3) rfl hw g68 d_Macro_init_68 ?_
      refine lv_icmp_ge (tgt := 94) hx hb d_Macro_init_69 (by decide) (fun c69 => ?_) (fun c69 => ?_)
      · rw [if_pos c69] at hrun
        cases hrun
        exact W.widen (by omega) (by omega) (K1  rfl H locs ls hw hS (lv_sub hl [0] rfl))
      · rw [if_neg c69] at hrun
        refine lv_aload_n hx hb d_Macro_init_72 rfl (lv_at hl 0 rfl) ?_
        replace hrun := hb_some hrun
        obtain ⟨v73, g73, hrun⟩ := hrun
        refine h_getR S (fun w q => hT w (i_Macro w q)) hK (ci := 7) rfl 3 (by decide) (hT _ fl_Macro_33) hw g73 d_Macro_init_73 ?_
        refine lv_iload_n hx hb d_Macro_init_76 rfl (lv_at hl 1 rfl) ?_
        replace hrun := hnew_some hrun
        obtain ⟨h77, dn77, ds77, eh77, hrun, en77, es77⟩ := hrun
        refine h_new S (fun w q => hT w (i_Row w q)) t_Row t_Row_ok (hT _ cl_Macro_31) (hT _ in_Row) (hT _ it_Row) hK (ci := 8) rfl dv_Row hw hS (show cells + 1 ≤ dnZ by omega) (show slots + 3 ≤ dsZ by omega) d_Macro_init_77 (fun H hw hS => ?_)
        rw [← eh77] at hw
        clear eh77
        obtain ⟨nx77, ex77⟩ : ∃ z, z = nx + 1 := ⟨_, rfl⟩
        rw [← ex77] at hw
        try rw [← ex77] at hrun
        replace hcR : (cells + 1) + dn77 = cells + dnb := by omega
        replace hsR : (slots + 3) + ds77 = slots + dsb := by omega
        replace hnR : nx77 + dn77 = nx + dnb := by omega
        clear en77 es77 ex77
        refine lv_dup hx hb d_Macro_init_80 rfl ?_
        refine lv_sipush (v := (200 : Int32)) hx hb d_Macro_init_81 (by decide) ?_
        replace hrun := hbind_some hrun
        obtain ⟨_u84, d84, s84, h84, dn84, ds84, g84, hrun, en84, es84⟩ := hrun
        refine h_cv (h_runI S (As := [.int (200 : Int32)]) (rest := [.ref nx, .int x3, va_rf v73]) (c_Row_init l D dA b0 nx (200 : Int32) nx77 g84) (cwI 1 S.2.2.2.2 (h_good [] (fun _ q => absurd q List.not_mem_nil) cd_Row_init) rfl rfl rfl (S.2.2.2.2 _ (hT _ it_Row)) (S.2.2.2.2 _ (hT _ ml_Macro_37)) (S.2.2.2.2 _ (hT _ im_Row_init)) rfl (by decide +kernel) ⟨Nat.le_of_ble_eq_true rfl, Nat.le_of_ble_eq_true rfl⟩) hK hN hw rfl hl.1 (lv_room (by simp only [List.map, List.sum_cons, List.sum_nil, h_cat]; exact Nat.le_of_ble_eq_true rfl)) d_Macro_init_84 ⟨show (cells + 1) + d84 ≤ dnZ by omega, show (slots + 3) + s84 ≤ dsZ by omega⟩) hS (fun H locs hw hS => ?_)
        obtain ⟨nx84, ex84⟩ : ∃ z, z = nx77 + d84 := ⟨_, rfl⟩
        rw [← ex84] at hw
        try rw [← ex84] at hrun
        replace hcR : ((cells + 1) + d84) + dn84 = cells + dnb := by omega
        replace hsR : ((slots + 3) + s84) + ds84 = slots + dsb := by omega
        replace hnR : nx84 + dn84 = nx + dnb := by omega
        clear en84 es84 ex84
        replace hrun := hb_some hrun
        obtain ⟨p87, rfl, hrun⟩ := hrun
        replace hrun := hb_some hrun
        obtain ⟨c87, k87, hrun⟩ := hrun
        replace hrun := hb_some hrun
        obtain ⟨h87, g87, hrun⟩ := hrun
        refine h_aast S hK (kd := 3) (ci := 8) (r := (R_Row, F_Row, 3)) rfl rfl hw hS (hObj_spec k87) g87 d_Macro_init_87 (fun H locs hw hS => ?_)
        refine lv_iinc (v := (x3 + (1 : Int32))) (lv' := [(3, .int (x3 + (1 : Int32))), (0, .ref a0)]) hx hb d_Macro_init_88 hl (k := 1) rfl rfl (by decide) rfl (fun ls hl => ?_)
        refine lv_goto (tgt := 63) hx hb d_Macro_init_91 (by decide) ?_
        cases hrun
        rw [show nx84 = nx + dnb by omega] at hw
        exact W.widen (by omega) (by omega) (K0 (x3 + (1 : Int32)) rfl H locs ls hw hS (lv_sub hl [1, 0] rfl))
  have j_45 : ∀  (y0 : Option Nat) (y1 : Int32) (cells slots dn ds nx : Nat) (h : hH) (H : Heap) (locs : List Loc) (ls : Array Slot), f_Macro_init_j45 n a0 y0 y1 nx h = some (r, dn, ds, h') → cells + dn = dnZ → slots + ds = dsZ → nx + dn = nxZ + dnZ → hW D dA classes b0 nx h H → va_S (hA b0) s.heap H locs → lv_has ls 4 [(0, .ref a0)] → W p l e (headSpec w_Macro_init ({ frames := 2, cells := dnZ, slots := dsZ, locals := 41 } : Room)).room s m ([.ref a0, .int i1, .int i2] : List Value).toArray below meth c H locs cells slots (MQ below (va_Qv (fun (_ : Unit) => True) (fun (_ : Unit) t => hW D dA classes b0 (nxZ + dnZ) h' t.heap) (hA b0)) ([.ref a0, .int i1, .int i2] : List Value).toArray s dnZ dsZ (hA b0)) (F0 m 45 ls [.int y1, va_rf y0]) := by
    intro y0 y1 cells slots dn ds nx h H locs ls hrun hcR hsR hnR hw hS hl
    unfold f_Macro_init_j45 at hrun
    replace hrun := hb_some hrun
    obtain ⟨p45, rfl, hrun⟩ := hrun
    replace hrun := hb_some hrun
    obtain ⟨h45, g45, hrun⟩ := hrun
    obtain ⟨n45, f45, g45⟩ := hpZ_spec g45
    refine h_putF S (fun w q => hT w (i_Macro w q)) t_Macro t_Macro_ok n_Macro hK (ci := 7) rfl 2 (by decide) (hT _ fl_Macro_28) rfl hin rfl n45 f45 hw hS g45 d_Macro_init_45 (fun H locs hw hS => ?_)
    refine lv_aload_n hx hb d_Macro_init_48 rfl (lv_at hl 0 rfl) ?_
    refine lv_aload_n hx hb d_Macro_init_49 rfl (lv_at hl 0 rfl) ?_
    replace hrun := hb_some hrun
    obtain ⟨v50, g50, hrun⟩ := hrun
    refine h_getI S (fun w q => hT w (i_Macro w q)) hK (ci := 7) rfl 0 (by decide) (hT _ fl_Macro_18) hw g50 d_Macro_init_50 ?_
    refine lv_iconst (v := (1 : Int32)) hx hb d_Macro_init_53 (by decide) ?_
    refine lv_iadd hx hb d_Macro_init_54 ?_
    have z55 : ¬ ((v50 + (1 : Int32)) < 0 ∨ 134217728 < (v50 + (1 : Int32)).toNatClampNeg) := fun q => by rw [if_pos q] at hrun; cases hrun
    rw [if_neg z55] at hrun
    replace hrun := hnew_some hrun
    obtain ⟨h55, dn55, ds55, eh55, hrun, en55, es55⟩ := hrun
    refine h_newq S (hT _ cl_Macro_31) (hN.2.1 _ ao_1) hK (kd := 3) rfl hw hS (fun q => z55 (Or.inl q)) (h_bytes z55) (show cells + 1 ≤ dnZ by omega) (show slots + ((v50 + (1 : Int32)).toNatClampNeg) ≤ dsZ by omega) d_Macro_init_55 (fun H hw hS => ?_)
    rw [← eh55] at hw
    clear eh55
    obtain ⟨nx55, ex55⟩ : ∃ z, z = nx + 1 := ⟨_, rfl⟩
    rw [← ex55] at hw
    try rw [← ex55] at hrun
    replace hcR : (cells + 1) + dn55 = dnZ := by omega
    replace hsR : (slots + (v50 + (1 : Int32)).toNatClampNeg) + ds55 = dsZ := by omega
    replace hnR : nx55 + dn55 = nxZ + dnZ := by omega
    clear en55 es55 ex55
    replace hrun := hb_some hrun
    obtain ⟨h58, g58, hrun⟩ := hrun
    refine h_putF S (fun w q => hT w (i_Macro w q)) t_Macro t_Macro_ok n_Macro hK (ci := 7) rfl 3 (by decide) (hT _ fl_Macro_33) rfl hin rfl rfl rfl hw hS g58 d_Macro_init_58 (fun H locs hw hS => ?_)
    refine lv_iconst (v := (0 : Int32)) hx hb d_Macro_init_61 (by decide) ?_
    refine lv_istore_n (lv' := [(3, .int (0 : Int32)), (0, .ref a0)]) hx hb d_Macro_init_62 rfl hl (by decide) rfl (fun ls hl => ?_)
    replace hrun := hbind_some hrun
    obtain ⟨b63, d63, s63, h63l, dn63, ds63, g63, hrun, en63, es63⟩ := hrun
    refine l_63 n (0 : Int32) (cells + 1) (slots + (v50 + (1 : Int32)).toNatClampNeg) _ _ nx55 h58 _ _ _ _ _ g63 (by omega) (by omega) hw hS (lv_sub hl [1, 0] rfl) ?_
    · rintro  eq9 H locs ls hw hS hl
      obtain rfl := eq9.symm
      obtain ⟨nx63l, ex63⟩ : ∃ z, z = nx55 + d63 := ⟨_, rfl⟩
      rw [← ex63] at hw
      try rw [← ex63] at hrun
      replace hcR : ((cells + 1) + d63) + dn63 = dnZ := by omega
      replace hsR : ((slots + (v50 + (1 : Int32)).toNatClampNeg) + s63) + ds63 = dsZ := by omega
      replace hnR : nx63l + dn63 = nxZ + dnZ := by omega
      clear en63 es63 ex63
      try dsimp only at hrun
      refine lv_aload_n hx hb d_Macro_init_94 rfl (lv_at hl 0 rfl) ?_
      replace hrun := hnew_some hrun
      obtain ⟨h95, dn95, ds95, eh95, hrun, en95, es95⟩ := hrun
      refine h_new S (fun w q => hT w (i_Row w q)) t_Row t_Row_ok (hT _ cl_Macro_31) (hT _ in_Row) (hT _ it_Row) hK (ci := 8) rfl dv_Row hw hS (show ((cells + 1) + d63) + 1 ≤ dnZ by omega) (show ((slots + (v50 + (1 : Int32)).toNatClampNeg) + s63) + 3 ≤ dsZ by omega) d_Macro_init_95 (fun H hw hS => ?_)
      rw [← eh95] at hw
      clear eh95
      obtain ⟨nx95, ex95⟩ : ∃ z, z = nx63l + 1 := ⟨_, rfl⟩
      rw [← ex95] at hw
      try rw [← ex95] at hrun
      replace hcR : (((cells + 1) + d63) + 1) + dn95 = dnZ := by omega
      replace hsR : (((slots + (v50 + (1 : Int32)).toNatClampNeg) + s63) + 3) + ds95 = dsZ := by omega
      replace hnR : nx95 + dn95 = nxZ + dnZ := by omega
      clear en95 es95 ex95
      refine lv_dup hx hb d_Macro_init_98 rfl ?_
      refine lv_sipush (v := (200 : Int32)) hx hb d_Macro_init_99 (by decide) ?_
      replace hrun := hbind_some hrun
      obtain ⟨_u102, d102, s102, h102, dn102, ds102, g102, hrun, en102, es102⟩ := hrun
      refine h_cv (h_runI S (As := [.int (200 : Int32)]) (rest := [.ref nx63l, .ref a0]) (c_Row_init l D dA b0 nx63l (200 : Int32) nx95 g102) (cwI 1 S.2.2.2.2 (h_good [] (fun _ q => absurd q List.not_mem_nil) cd_Row_init) rfl rfl rfl (S.2.2.2.2 _ (hT _ it_Row)) (S.2.2.2.2 _ (hT _ ml_Macro_37)) (S.2.2.2.2 _ (hT _ im_Row_init)) rfl (by decide +kernel) ⟨Nat.le_of_ble_eq_true rfl, Nat.le_of_ble_eq_true rfl⟩) hK hN hw rfl hl.1 (lv_room (Nat.le_of_ble_eq_true rfl)) d_Macro_init_102 ⟨show (((cells + 1) + d63) + 1) + d102 ≤ dnZ by omega, show (((slots + (v50 + (1 : Int32)).toNatClampNeg) + s63) + 3) + s102 ≤ dsZ by omega⟩) hS (fun H locs hw hS => ?_)
      obtain ⟨nx102, ex102⟩ : ∃ z, z = nx95 + d102 := ⟨_, rfl⟩
      rw [← ex102] at hw
      try rw [← ex102] at hrun
      replace hcR : ((((cells + 1) + d63) + 1) + d102) + dn102 = dnZ := by omega
      replace hsR : ((((slots + (v50 + (1 : Int32)).toNatClampNeg) + s63) + 3) + s102) + ds102 = dsZ := by omega
      replace hnR : nx102 + dn102 = nxZ + dnZ := by omega
      clear en102 es102 ex102
      replace hrun := hb_some hrun
      obtain ⟨h105, g105, hrun⟩ := hrun
      refine h_putF S (fun w q => hT w (i_Macro w q)) t_Macro t_Macro_ok n_Macro hK (ci := 7) rfl 4 (by decide) (hT _ fl_Macro_40) rfl hin rfl rfl rfl hw hS g105 d_Macro_init_105 (fun H locs hw hS => ?_)
      cases hrun
      refine W.widen (k := dnZ) (n := dsZ) (by omega) (by omega) ?_
      rw [show nx102 = nxZ + dnZ by omega] at hw
      exact W.vret hx hb hr (fun t ht hW9 => ⟨⟨(), rfl, trivial, by show hW D dA classes b0 _ _ t.heap; rw [ht]; exact hw⟩, hS.F ht⟩) hS.2.2 d_Macro_init_108
  have j_30 : ∀  (x2 : Int32) (y0 : Option Nat) (y1 : Int32) (cells slots dn ds nx : Nat) (h : hH) (H : Heap) (locs : List Loc) (ls : Array Slot), f_Macro_init_j30 n a0 x2 y0 y1 nx h = some (r, dn, ds, h') → cells + dn = dnZ → slots + ds = dsZ → nx + dn = nxZ + dnZ → hW D dA classes b0 nx h H → va_S (hA b0) s.heap H locs → lv_has ls 4 [(0, .ref a0), (2, .int x2)] → W p l e (headSpec w_Macro_init ({ frames := 2, cells := dnZ, slots := dsZ, locals := 41 } : Room)).room s m ([.ref a0, .int i1, .int i2] : List Value).toArray below meth c H locs cells slots (MQ below (va_Qv (fun (_ : Unit) => True) (fun (_ : Unit) t => hW D dA classes b0 (nxZ + dnZ) h' t.heap) (hA b0)) ([.ref a0, .int i1, .int i2] : List Value).toArray s dnZ dsZ (hA b0)) (F0 m 30 ls [.int y1, va_rf y0]) := by
    intro x2 y0 y1 cells slots dn ds nx h H locs ls hrun hcR hsR hnR hw hS hl
    unfold f_Macro_init_j30 at hrun
    replace hrun := hb_some hrun
    obtain ⟨p30, rfl, hrun⟩ := hrun
    replace hrun := hb_some hrun
    obtain ⟨h30, g30, hrun⟩ := hrun
    obtain ⟨n30, f30, g30⟩ := hpZ_spec g30
    refine h_putF S (fun w q => hT w (i_Macro w q)) t_Macro t_Macro_ok n_Macro hK (ci := 7) rfl 1 (by decide) (hT _ fl_Macro_24) rfl hin rfl n30 f30 hw hS g30 d_Macro_init_30 (fun H locs hw hS => ?_)
    refine lv_aload_n hx hb d_Macro_init_33 rfl (lv_at hl 0 rfl) ?_
    refine lv_iload_n hx hb d_Macro_init_34 rfl (lv_at hl 1 rfl) ?_
    refine lv_iconst (v := (2 : Int32)) hx hb d_Macro_init_35 (by decide) ?_
    refine lv_iand hx hb d_Macro_init_36 ?_
    refine lv_if_eq (tgt := 44) hx hb d_Macro_init_37 (by decide) (fun c37 => ?_) (fun c37 => ?_)
    · rw [if_pos c37] at hrun
      refine lv_iconst (v := (0 : Int32)) hx hb d_Macro_init_44 (by decide) ?_
      exact j_45 (some a0) (0 : Int32) cells slots _ _ nx h30 _ _ _ hrun hcR hsR hnR hw hS (lv_sub hl [0] rfl)
    · rw [if_neg c37] at hrun
      refine lv_iconst (v := (1 : Int32)) hx hb d_Macro_init_40 (by decide) ?_
      refine lv_goto (tgt := 45) hx hb d_Macro_init_41 (by decide) ?_
      exact j_45 (some a0) (1 : Int32) cells slots _ _ nx h30 _ _ _ hrun hcR hsR hnR hw hS (lv_sub hl [0] rfl)
  unfold f_Macro_init at hrun
  refine lv_aload_n hx hb d_Macro_init_0 rfl (lv_at hl 0 rfl) ?_
  refine W.objInit hx hb S.2.2.2.1 (S.2.2.2.2 _ (hT _ ml_Macro_3)) (S.2.2.2.2 _ (hT _ k_objinst)) (S.2.2.2.2 _ (hT _ k_objcode)) rfl (by rw [hml]; exact hl.1) rfl d_Macro_init_1 (Nat.le_of_ble_eq_true rfl) (Nat.le_of_ble_eq_true rfl) ?_
  refine W.eq (g2 := F0 m 4 ls []) rfl ?_
  refine lv_aload_n hx hb d_Macro_init_4 rfl (lv_at hl 0 rfl) ?_
  refine lv_iconst (v := (0 : Int32)) hx hb d_Macro_init_5 (by decide) ?_
  refine lv_bipush (v := (9 : Int32)) hx hb d_Macro_init_6 (by decide) ?_
  refine lv_iload_n hx hb d_Macro_init_8 rfl (lv_at hl 1 rfl) ?_
  refine va_mmin hx hb (by rw [hml]; exact hl.1.symm) S.2.2.2.1 (S.2.2.2.2 _ (hT _ ml_Macro_9)) (S.2.2.2.2 _ (hT _ sm_mmin)) (S.2.2.2.2 _ (hT _ it_Math)) (S.2.2.2.2 _ (hT _ cd_mmin)) (Nat.le_of_ble_eq_true rfl) (Nat.le_of_ble_eq_true rfl) (show 0 ≤ dnZ by omega) (show 0 ≤ dsZ by omega) d_Macro_init_9 ?_
  refine va_mmax hx hb (by rw [hml]; exact hl.1.symm) S.2.2.2.1 (S.2.2.2.2 _ (hT _ ml_Macro_15)) (S.2.2.2.2 _ (hT _ sm_mmax)) (S.2.2.2.2 _ (hT _ it_Math)) (S.2.2.2.2 _ (hT _ cd_mmax)) (Nat.le_of_ble_eq_true rfl) (Nat.le_of_ble_eq_true rfl) (show 0 ≤ dnZ by omega) (show 0 ≤ dsZ by omega) d_Macro_init_12 ?_
  replace hrun := hb_some hrun
  obtain ⟨h15, g15, hrun⟩ := hrun
  refine h_putF S (fun w q => hT w (i_Macro w q)) t_Macro t_Macro_ok n_Macro hK (ci := 7) rfl 0 (by decide) (hT _ fl_Macro_18) rfl hin rfl rfl rfl hw hS g15 d_Macro_init_15 (fun H locs hw hS => ?_)
  refine lv_aload_n hx hb d_Macro_init_18 rfl (lv_at hl 0 rfl) ?_
  refine lv_iload_n hx hb d_Macro_init_19 rfl (lv_at hl 2 rfl) ?_
  refine lv_iconst (v := (1 : Int32)) hx hb d_Macro_init_20 (by decide) ?_
  refine lv_iand hx hb d_Macro_init_21 ?_
  refine lv_if_eq (tgt := 29) hx hb d_Macro_init_22 (by decide) (fun c22 => ?_) (fun c22 => ?_)
  · rw [if_pos c22] at hrun
    refine lv_iconst (v := (0 : Int32)) hx hb d_Macro_init_29 (by decide) ?_
    exact j_30 i2 (some a0) (0 : Int32) 0 0 _ _ nx h15 _ _ _ hrun hcR hsR hnR hw hS (lv_sub hl [0, 2] rfl)
  · rw [if_neg c22] at hrun
    refine lv_iconst (v := (1 : Int32)) hx hb d_Macro_init_25 (by decide) ?_
    refine lv_goto (tgt := 30) hx hb d_Macro_init_26 (by decide) ?_
    exact j_30 i2 (some a0) (1 : Int32) 0 0 _ _ nx h15 _ _ _ hrun hcR hsR hnR hw hS (lv_sub hl [0, 2] rfl)
set_option maxHeartbeats 4000000 in
set_option maxRecDepth 100000 in
theorem c_Book_enter (l : Launch) (D : va_G) (dA : Nat → ClassId) (b0 : Nat) (n : Nat) (a0 : Nat) (i1 : Int32) (a2 : Nat) (i3 : Int32) (nx : Nat) {h h' : hH} {r : Int32} (hrun : f_Book_enter n a0 i1 a2 i3 h = some (r, h')) : Met l y_Book_enter w_Book_enter ({ frames := 1, cells := 0, slots := 0, locals := 20 } : Room) (va_Pc [.ref a0, .int i1, .ref a2, .int i3] (hB D dA b0 nx h)) (va_Qi (fun r' (_ : Unit) => r' = r) (fun (_ : Unit) t => hW D dA classes b0 nx h' t.heap) (hA b0)) 0 0 (hA b0) := by
  refine Met.ofW (cc := b_Book_enter) (maxL := 6) (ret := (some .int)) (by decide) rfl ?_
  intro p e s m args below meth c s₁ B hml hv
  obtain ⟨rfl, hw, hK, hN⟩ := hv
  have hx := B.exec
  have hb := B.bytes
  have hr := B.returns
  have hlocks := B.notSynchronized
  have S : CallFix p m c b_Book_enter 6 s ([.ref a0, .int i1, .ref a2, .int i3] : List Value).toArray w_Book_enter R_Book := ⟨hx, hb, hml, findClass_of_methodNamed B.named, atoms_spec (ws := w_Book_enter) B.pre⟩
  have hT : ∀ w ∈ tbl, w ∈ w_Book_enter := fun _ q => List.mem_cons_of_mem _ q
  have hS : va_S (hA b0) s.heap s.heap [] := va_S.rf
  have hl := lv_entry ([.ref a0, .int i1, .ref a2, .int i3]) (n := 6) (Nat.le_of_ble_eq_true rfl)
  rw [lg_entry_eq]
  generalize (lg_sl ([.ref a0, .int i1, .ref a2, .int i3]) ++ List.replicate (6 - (lg_sl ([.ref a0, .int i1, .ref a2, .int i3])).length) Slot.unset).toArray = ls at hl ⊢
  have hl : lv_has ls 6 [(0, .ref a0), (1, .int i1), (2, .ref a2), (3, .int i3)] := hl
  have j_88 : ∀   (h : hH) (H : Heap) (locs : List Loc) (ls : Array Slot), f_Book_enter_j88 n a0 h = some (r, h') → hW D dA classes b0 nx h H → va_S (hA b0) s.heap H locs → lv_has ls 6 [(0, .ref a0)] → W p l e (headSpec w_Book_enter ({ frames := 1, cells := 0, slots := 0, locals := 20 } : Room)).room s m ([.ref a0, .int i1, .ref a2, .int i3] : List Value).toArray below meth c H locs 0 0 (MQ below (va_Qi (fun r' (_ : Unit) => r' = r) (fun (_ : Unit) t => hW D dA classes b0 nx h' t.heap) (hA b0)) ([.ref a0, .int i1, .ref a2, .int i3] : List Value).toArray s 0 0 (hA b0)) (F0 m 88 ls []) := by
    intro h H locs ls hrun hw hS hl
    unfold f_Book_enter_j88 at hrun
    refine lv_aload_n hx hb d_Book_enter_88 rfl (lv_at hl 0 rfl) ?_
    refine lv_dup hx hb d_Book_enter_89 rfl ?_
    replace hrun := hb_some hrun
    obtain ⟨v90, g90, hrun⟩ := hrun
    refine h_getI S (fun w q => hT w (i_Book w q)) hK (ci := 3) rfl 3 (by decide) (hT _ fl_Book_32) hw g90 d_Book_enter_90 ?_
    refine lv_iconst (v := (1 : Int32)) hx hb d_Book_enter_93 (by decide) ?_
    refine lv_iadd hx hb d_Book_enter_94 ?_
    replace hrun := hb_some hrun
    obtain ⟨h95, g95, hrun⟩ := hrun
    refine h_put S (fun w q => hT w (i_Book w q)) t_Book t_Book_ok n_Book hK (ci := 3) rfl 3 (by decide) (hT _ fl_Book_32) rfl rfl rfl hw hS g95 d_Book_enter_95 (fun H locs hw hS => ?_)
    refine lv_aload_n hx hb d_Book_enter_98 rfl (lv_at hl 0 rfl) ?_
    replace hrun := hb_some hrun
    obtain ⟨v99, g99, hrun⟩ := hrun
    refine h_getI S (fun w q => hT w (i_Book w q)) hK (ci := 3) rfl 3 (by decide) (hT _ fl_Book_32) hw g99 d_Book_enter_99 ?_
    refine lv_iconst (v := (1 : Int32)) hx hb d_Book_enter_102 (by decide) ?_
    refine lv_isub hx hb d_Book_enter_103 ?_
    cases hrun
    exact W.iret hx hb hr (fun t ht hW9 => ⟨⟨_, (), rfl, rfl, by show hW D dA classes b0 _ _ t.heap; rw [ht]; exact hw⟩, hS.F ht⟩) hS.2.2 d_Book_enter_104
  have l_59 : ∀ (x4 : Int32) (n9 : Nat) (x9 : Int32) (h : hH) (b9 : (Unit)) (h9 : hH) (H : Heap) (locs : List Loc) (ls : Array Slot), hloopW (f_Book_enter_b59 n a0 x4) n9 x9 h = some (b9, h9) → hW D dA classes b0 nx h H → va_S (hA b0) s.heap H locs → lv_has ls 6 (match x9 with | x5 => [(0, .ref a0), (4, .int x4), (5, .int x5)]) → (b9 = () → ∀ (H : Heap) (locs : List Loc) (ls : Array Slot), hW D dA classes b0 nx h9 H → va_S (hA b0) s.heap H locs → lv_has ls 6 [(0, .ref a0)] → W p l e (headSpec w_Book_enter ({ frames := 1, cells := 0, slots := 0, locals := 20 } : Room)).room s m ([.ref a0, .int i1, .ref a2, .int i3] : List Value).toArray below meth c H locs 0 0 (MQ below (va_Qi (fun r' (_ : Unit) => r' = r) (fun (_ : Unit) t => hW D dA classes b0 nx h' t.heap) (hA b0)) ([.ref a0, .int i1, .ref a2, .int i3] : List Value).toArray s 0 0 (hA b0)) (F0 m 88 ls [])) → W p l e (headSpec w_Book_enter ({ frames := 1, cells := 0, slots := 0, locals := 20 } : Room)).room s m ([.ref a0, .int i1, .ref a2, .int i3] : List Value).toArray below meth c H locs 0 0 (MQ below (va_Qi (fun r' (_ : Unit) => r' = r) (fun (_ : Unit) t => hW D dA classes b0 nx h' t.heap) (hA b0)) ([.ref a0, .int i1, .ref a2, .int i3] : List Value).toArray s 0 0 (hA b0)) (F0 m 59 ls []) := by
    intro x4 n9
    induction n9 with
    | zero =>
      intro x9 h b9 h9 H locs ls hrun
      cases hrun
    | succ n9 ih =>
      rintro x5 h b9 h9 H locs ls hrun hw hS hl k0
      have hl : lv_has ls 6 [(0, .ref a0), (4, .int x4), (5, .int x5)] := hl
      unfold hloopW at hrun
      obtain ⟨q9, h9b, hbody, hrun9⟩ := hbW_some hrun
      have K0 : (∀ (z5 : Int32), q9 = .inl z5 → ∀ (H : Heap) (locs : List Loc) (ls : Array Slot), hW D dA classes b0 nx h9b H → va_S (hA b0) s.heap H locs → lv_has ls 6 [(0, .ref a0), (4, .int x4), (5, .int z5)] → W p l e (headSpec w_Book_enter ({ frames := 1, cells := 0, slots := 0, locals := 20 } : Room)).room s m ([.ref a0, .int i1, .ref a2, .int i3] : List Value).toArray below meth c H locs 0 0 (MQ below (va_Qi (fun r' (_ : Unit) => r' = r) (fun (_ : Unit) t => hW D dA classes b0 nx h' t.heap) (hA b0)) ([.ref a0, .int i1, .ref a2, .int i3] : List Value).toArray s 0 0 (hA b0)) (F0 m 59 ls [])) := by
        intro z5 eq9 H locs ls hw hS hl
        subst eq9
        exact ih z5 h9b b9 h9 H locs ls hrun9 hw hS hl k0
      have K1 : (q9 = .inr () → ∀ (H : Heap) (locs : List Loc) (ls : Array Slot), hW D dA classes b0 nx h9b H → va_S (hA b0) s.heap H locs → lv_has ls 6 [(0, .ref a0)] → W p l e (headSpec w_Book_enter ({ frames := 1, cells := 0, slots := 0, locals := 20 } : Room)).room s m ([.ref a0, .int i1, .ref a2, .int i3] : List Value).toArray below meth c H locs 0 0 (MQ below (va_Qi (fun r' (_ : Unit) => r' = r) (fun (_ : Unit) t => hW D dA classes b0 nx h' t.heap) (hA b0)) ([.ref a0, .int i1, .ref a2, .int i3] : List Value).toArray s 0 0 (hA b0)) (F0 m 88 ls [])) := by
        intro  eq9 H locs ls hw hS hl
        subst eq9
        cases hrun9
        exact k0  rfl H locs ls hw hS hl
      clear hrun hrun9 ih k0
      have hrun := hbody
      clear hbody
      dsimp only [f_Book_enter_b59] at hrun
      refine lv_iload hx hb d_Book_enter_59 (lv_at hl 2 rfl) ?_
      refine lv_aload_n hx hb d_Book_enter_61 rfl (lv_at hl 0 rfl) ?_
      replace hrun := hb_some hrun
      obtain ⟨v62, g62, hrun⟩ := hrun
      refine h_getI S (fun w q => hT w (i_Book w q)) hK (ci := 3) rfl 4 (by decide) (hT _ fl_Book_36) hw g62 d_Book_enter_62 ?_
      refine lv_icmp_ge (tgt := 88) hx hb d_Book_enter_65 (by decide) (fun c65 => ?_) (fun c65 => ?_)
      · rw [if_pos c65] at hrun
        cases hrun
        exact K1  rfl H locs ls hw hS (lv_sub hl [0] rfl)
      · rw [if_neg c65] at hrun
        refine lv_aload_n hx hb d_Book_enter_68 rfl (lv_at hl 0 rfl) ?_
        replace hrun := hb_some hrun
        obtain ⟨v69, g69, hrun⟩ := hrun
        refine h_getR S (fun w q => hT w (i_Book w q)) hK (ci := 3) rfl 2 (by decide) (hT _ fl_Book_29) hw g69 d_Book_enter_69 ?_
        refine lv_iload hx hb d_Book_enter_72 (lv_at hl 2 rfl) ?_
        replace hrun := hb_some hrun
        obtain ⟨p74, rfl, hrun⟩ := hrun
        replace hrun := hb_some hrun
        obtain ⟨v74, g74, hrun⟩ := hrun
        refine h_aaldA S hK (kd := 2) rfl hw g74 d_Book_enter_74 ?_
        refine lv_iload hx hb d_Book_enter_75 (lv_at hl 1 rfl) ?_
        refine lv_aload_n hx hb d_Book_enter_77 rfl (lv_at hl 0 rfl) ?_
        replace hrun := hb_some hrun
        obtain ⟨v78, g78, hrun⟩ := hrun
        refine h_getI S (fun w q => hT w (i_Book w q)) hK (ci := 3) rfl 3 (by decide) (hT _ fl_Book_32) hw g78 d_Book_enter_78 ?_
        replace hrun := hb_some hrun
        obtain ⟨p81, rfl, hrun⟩ := hrun
        replace hrun := hb_some hrun
        obtain ⟨h81, g81, hrun⟩ := hrun
        refine h_iast S hK (kd := 0) rfl hw hS g81 d_Book_enter_81 (fun H locs hw hS => ?_)
        refine lv_iinc (v := (x5 + (1 : Int32))) (lv' := [(5, .int (x5 + (1 : Int32))), (0, .ref a0), (4, .int x4)]) hx hb d_Book_enter_82 hl (k := 2) rfl rfl (by decide) rfl (fun ls hl => ?_)
        refine lv_goto (tgt := 59) hx hb d_Book_enter_85 (by decide) ?_
        cases hrun
        exact K0 (x5 + (1 : Int32)) rfl H locs ls hw hS (lv_sub hl [1, 2, 0] rfl)
  unfold f_Book_enter at hrun
  refine lv_iload_n hx hb d_Book_enter_0 rfl (lv_at hl 1 rfl) ?_
  refine lv_sipush (v := (1000 : Int32)) hx hb d_Book_enter_1 (by decide) ?_
  refine lv_isub hx hb d_Book_enter_4 ?_
  refine lv_istore (lv' := [(4, .int (i1 - (1000 : Int32))), (0, .ref a0), (1, .int i1), (2, .ref a2), (3, .int i3)]) hx hb d_Book_enter_5 hl (by decide) rfl (fun ls hl => ?_)
  refine lv_aload_n hx hb d_Book_enter_7 rfl (lv_at hl 1 rfl) ?_
  replace hrun := hb_some hrun
  obtain ⟨c8, k8, hrun⟩ := hrun
  replace hrun := hb_some hrun
  obtain ⟨v8, g8, hrun⟩ := hrun
  refine h_ci (h_runV S (As := []) (rest := []) (c_Book_isFull l D dA b0 a0 nx g8) (cwV 0 S.2.2.2.2 (h_good _ (h_in4 ml_Book_51 im_Book_isFull se_Book_isFull it_Book) cd_Book_isFull) rfl rfl rfl (by decide +kernel) ⟨Nat.le_of_ble_eq_true rfl, Nat.le_of_ble_eq_true rfl⟩) hK hN hw (ci := 3) rfl k8 rfl hl.1 (lv_room (Nat.le_of_ble_eq_true rfl)) d_Book_enter_8 ⟨Nat.le_refl _, Nat.le_refl _⟩) hS (fun H locs hw hS => ?_)
  refine lv_if_ne (tgt := 27) hx hb d_Book_enter_11 (by decide) (fun c11 => ?_) (fun c11 => ?_)
  · rw [if_neg c11] at hrun
    refine lv_iconst (v := (-1 : Int32)) hx hb d_Book_enter_27 (by decide) ?_
    cases hrun
    exact W.iret hx hb hr (fun t ht hW9 => ⟨⟨_, (), rfl, rfl, by show hW D dA classes b0 _ _ t.heap; rw [ht]; exact hw⟩, hS.F ht⟩) hS.2.2 d_Book_enter_28
  · rw [if_pos c11] at hrun
    refine lv_iload hx hb d_Book_enter_14 (lv_at hl 0 rfl) ?_
    refine lv_if_lt (tgt := 27) hx hb d_Book_enter_16 (by decide) (fun c16 => ?_) (fun c16 => ?_)
    · rw [if_pos c16] at hrun
      refine lv_iconst (v := (-1 : Int32)) hx hb d_Book_enter_27 (by decide) ?_
      cases hrun
      exact W.iret hx hb hr (fun t ht hW9 => ⟨⟨_, (), rfl, rfl, by show hW D dA classes b0 _ _ t.heap; rw [ht]; exact hw⟩, hS.F ht⟩) hS.2.2 d_Book_enter_28
    · rw [if_neg c16] at hrun
      refine lv_iload hx hb d_Book_enter_19 (lv_at hl 0 rfl) ?_
      refine lv_sipush (v := (200 : Int32)) hx hb d_Book_enter_21 (by decide) ?_
      refine lv_icmp_lt (tgt := 29) hx hb d_Book_enter_24 (by decide) (fun c24 => ?_) (fun c24 => ?_)
      · rw [if_pos c24] at hrun
        refine lv_aload_n hx hb d_Book_enter_29 rfl (lv_at hl 1 rfl) ?_
        replace hrun := hb_some hrun
        obtain ⟨v30, g30, hrun⟩ := hrun
        refine h_getR S (fun w q => hT w (i_Book w q)) hK (ci := 3) rfl 0 (by decide) (hT _ fl_Book_11) hw g30 d_Book_enter_30 ?_
        refine lv_aload_n hx hb d_Book_enter_33 rfl (lv_at hl 1 rfl) ?_
        replace hrun := hb_some hrun
        obtain ⟨v34, g34, hrun⟩ := hrun
        refine h_getI S (fun w q => hT w (i_Book w q)) hK (ci := 3) rfl 3 (by decide) (hT _ fl_Book_32) hw g34 d_Book_enter_34 ?_
        refine lv_aload_n hx hb d_Book_enter_37 rfl (lv_at hl 3 rfl) ?_
        replace hrun := hb_some hrun
        obtain ⟨p38, rfl, hrun⟩ := hrun
        replace hrun := hb_some hrun
        obtain ⟨c38, k38, hrun⟩ := hrun
        replace hrun := hb_some hrun
        obtain ⟨h38, g38, hrun⟩ := hrun
        refine h_aast S hK (kd := 1) (ci := 7) (r := (R_Macro, F_Macro, 5)) rfl rfl hw hS (hObj_spec k38) g38 d_Book_enter_38 (fun H locs hw hS => ?_)
        refine lv_aload_n hx hb d_Book_enter_39 rfl (lv_at hl 1 rfl) ?_
        replace hrun := hb_some hrun
        obtain ⟨v40, g40, hrun⟩ := hrun
        refine h_getR S (fun w q => hT w (i_Book w q)) hK (ci := 3) rfl 1 (by decide) (hT _ fl_Book_17) hw g40 d_Book_enter_40 ?_
        refine lv_iload hx hb d_Book_enter_43 (lv_at hl 0 rfl) ?_
        refine lv_aload_n hx hb d_Book_enter_45 rfl (lv_at hl 1 rfl) ?_
        replace hrun := hb_some hrun
        obtain ⟨v46, g46, hrun⟩ := hrun
        refine h_getI S (fun w q => hT w (i_Book w q)) hK (ci := 3) rfl 3 (by decide) (hT _ fl_Book_32) hw g46 d_Book_enter_46 ?_
        replace hrun := hb_some hrun
        obtain ⟨p49, rfl, hrun⟩ := hrun
        replace hrun := hb_some hrun
        obtain ⟨h49, g49, hrun⟩ := hrun
        refine h_iast S hK (kd := 0) rfl hw hS g49 d_Book_enter_49 (fun H locs hw hS => ?_)
        refine lv_iload_n hx hb d_Book_enter_50 rfl (lv_at hl 4 rfl) ?_
        refine lv_iconst (v := (4 : Int32)) hx hb d_Book_enter_51 (by decide) ?_
        refine lv_iand hx hb d_Book_enter_52 ?_
        refine lv_if_eq (tgt := 88) hx hb d_Book_enter_53 (by decide) (fun c53 => ?_) (fun c53 => ?_)
        · rw [if_pos c53] at hrun
          exact j_88 h49 _ _ _ hrun hw hS (lv_sub hl [1] rfl)
        · rw [if_neg c53] at hrun
          refine lv_iconst (v := (0 : Int32)) hx hb d_Book_enter_56 (by decide) ?_
          refine lv_istore (lv' := [(5, .int (0 : Int32)), (4, .int (i1 - (1000 : Int32))), (0, .ref a0), (1, .int i1), (2, .ref a2), (3, .int i3)]) hx hb d_Book_enter_57 hl (by decide) rfl (fun ls hl => ?_)
          replace hrun := hbW_some hrun
          obtain ⟨b59, h59l, g59, hrun⟩ := hrun
          refine l_59 (i1 - (1000 : Int32)) n (0 : Int32) h49 _ _ _ _ _ g59 hw hS (lv_sub hl [2, 1, 0] rfl) ?_
          · rintro  eq9 H locs ls hw hS hl
            obtain rfl := eq9.symm
            try dsimp only at hrun
            exact j_88 h59l _ _ _ hrun hw hS (lv_sub hl [0] rfl)
      · rw [if_neg c24] at hrun
        refine lv_iconst (v := (-1 : Int32)) hx hb d_Book_enter_27 (by decide) ?_
        cases hrun
        exact W.iret hx hb hr (fun t ht hW9 => ⟨⟨_, (), rfl, rfl, by show hW D dA classes b0 _ _ t.heap; rw [ht]; exact hw⟩, hS.F ht⟩) hS.2.2 d_Book_enter_28
set_option maxHeartbeats 4000000 in
set_option maxRecDepth 100000 in
theorem c_MacroExpand_define (l : Launch) (D : va_G) (dA : Nat → ClassId) (b0 : Nat) (n : Nat) (a0 : Nat) (i1 : Int32) (i2 : Int32) (i3 : Int32) (nxZ : Nat) {h h' : hH} {r : Int32} {dnZ dsZ : Nat} (hrun : f_MacroExpand_define n a0 i1 i2 i3 nxZ h = some (r, dnZ, dsZ, h')) : Met l y_MacroExpand_define w_MacroExpand_define ({ frames := 3, cells := dnZ, slots := dsZ, locals := 64 } : Room) (va_Pc [.ref a0, .int i1, .int i2, .int i3] (hB D dA b0 nxZ h)) (va_Qi (fun r' (_ : Unit) => r' = r) (fun (_ : Unit) t => hW D dA classes b0 (nxZ + dnZ) h' t.heap) (hA b0)) dnZ dsZ (hA b0) := by
  refine Met.ofW (cc := b_MacroExpand_define) (maxL := 4) (ret := (some .int)) (by decide) rfl ?_
  intro p e s m args below meth c s₁ B hml hv
  obtain ⟨rfl, hw, hK, hN⟩ := hv
  have hx := B.exec
  have hb := B.bytes
  have hr := B.returns
  have hlocks := B.notSynchronized
  have S : CallFix p m c b_MacroExpand_define 4 s ([.ref a0, .int i1, .int i2, .int i3] : List Value).toArray w_MacroExpand_define R_MacroExpand := ⟨hx, hb, hml, findClass_of_methodNamed B.named, atoms_spec (ws := w_MacroExpand_define) B.pre⟩
  have hT : ∀ w ∈ tbl, w ∈ w_MacroExpand_define := fun _ q => List.mem_cons_of_mem _ q
  have hS : va_S (hA b0) s.heap s.heap [] := va_S.rf
  have hl := lv_entry ([.ref a0, .int i1, .int i2, .int i3]) (n := 4) (Nat.le_of_ble_eq_true rfl)
  rw [lg_entry_eq]
  generalize (lg_sl ([.ref a0, .int i1, .int i2, .int i3]) ++ List.replicate (4 - (lg_sl ([.ref a0, .int i1, .int i2, .int i3])).length) Slot.unset).toArray = ls at hl ⊢
  have hl : lv_has ls 4 [(0, .ref a0), (1, .int i1), (2, .int i2), (3, .int i3)] := hl
  obtain ⟨dn, edn⟩ : ∃ z, z = dnZ := ⟨_, rfl⟩
  obtain ⟨ds, eds⟩ : ∃ z, z = dsZ := ⟨_, rfl⟩
  obtain ⟨nx, enx⟩ : ∃ z, z = nxZ := ⟨_, rfl⟩
  rw [← edn, ← eds, ← enx] at hrun
  rw [← enx] at hw
  have hcR : 0 + dn = dnZ := by omega
  have hsR : 0 + ds = dsZ := by omega
  have hnR : nx + dn = nxZ + dnZ := by omega
  clear edn eds enx
  unfold f_MacroExpand_define at hrun
  refine lv_iload_n hx hb d_MacroExpand_define_0 rfl (lv_at hl 1 rfl) ?_
  refine lv_if_lt (tgt := 31) hx hb d_MacroExpand_define_1 (by decide) (fun c1 => ?_) (fun c1 => ?_)
  · rw [if_pos c1] at hrun
    refine lv_bipush (v := (-2 : Int32)) hx hb d_MacroExpand_define_31 (by decide) ?_
    cases hrun
    refine W.widen (k := dnZ) (n := dsZ) (by omega) (by omega) ?_
    rw [show nx = nxZ + dnZ by omega] at hw
    exact W.iret hx hb hr (fun t ht hW9 => ⟨⟨_, (), rfl, rfl, by show hW D dA classes b0 _ _ t.heap; rw [ht]; exact hw⟩, hS.F ht⟩) hS.2.2 d_MacroExpand_define_33
  · rw [if_neg c1] at hrun
    refine lv_iload_n hx hb d_MacroExpand_define_4 rfl (lv_at hl 1 rfl) ?_
    refine lv_sipush (v := (200 : Int32)) hx hb d_MacroExpand_define_5 (by decide) ?_
    refine lv_icmp_ge (tgt := 31) hx hb d_MacroExpand_define_8 (by decide) (fun c8 => ?_) (fun c8 => ?_)
    · rw [if_pos c8] at hrun
      refine lv_bipush (v := (-2 : Int32)) hx hb d_MacroExpand_define_31 (by decide) ?_
      cases hrun
      refine W.widen (k := dnZ) (n := dsZ) (by omega) (by omega) ?_
      rw [show nx = nxZ + dnZ by omega] at hw
      exact W.iret hx hb hr (fun t ht hW9 => ⟨⟨_, (), rfl, rfl, by show hW D dA classes b0 _ _ t.heap; rw [ht]; exact hw⟩, hS.F ht⟩) hS.2.2 d_MacroExpand_define_33
    · rw [if_neg c8] at hrun
      refine lv_iload_n hx hb d_MacroExpand_define_11 rfl (lv_at hl 2 rfl) ?_
      refine lv_if_lt (tgt := 31) hx hb d_MacroExpand_define_12 (by decide) (fun c12 => ?_) (fun c12 => ?_)
      · rw [if_pos c12] at hrun
        refine lv_bipush (v := (-2 : Int32)) hx hb d_MacroExpand_define_31 (by decide) ?_
        cases hrun
        refine W.widen (k := dnZ) (n := dsZ) (by omega) (by omega) ?_
        rw [show nx = nxZ + dnZ by omega] at hw
        exact W.iret hx hb hr (fun t ht hW9 => ⟨⟨_, (), rfl, rfl, by show hW D dA classes b0 _ _ t.heap; rw [ht]; exact hw⟩, hS.F ht⟩) hS.2.2 d_MacroExpand_define_33
      · rw [if_neg c12] at hrun
        refine lv_iload_n hx hb d_MacroExpand_define_15 rfl (lv_at hl 2 rfl) ?_
        refine lv_bipush (v := (9 : Int32)) hx hb d_MacroExpand_define_16 (by decide) ?_
        refine lv_icmp_gt (tgt := 31) hx hb d_MacroExpand_define_18 (by decide) (fun c18 => ?_) (fun c18 => ?_)
        · rw [if_pos c18] at hrun
          refine lv_bipush (v := (-2 : Int32)) hx hb d_MacroExpand_define_31 (by decide) ?_
          cases hrun
          refine W.widen (k := dnZ) (n := dsZ) (by omega) (by omega) ?_
          rw [show nx = nxZ + dnZ by omega] at hw
          exact W.iret hx hb hr (fun t ht hW9 => ⟨⟨_, (), rfl, rfl, by show hW D dA classes b0 _ _ t.heap; rw [ht]; exact hw⟩, hS.F ht⟩) hS.2.2 d_MacroExpand_define_33
        · rw [if_neg c18] at hrun
          refine lv_iload_n hx hb d_MacroExpand_define_21 rfl (lv_at hl 3 rfl) ?_
          refine lv_if_lt (tgt := 31) hx hb d_MacroExpand_define_22 (by decide) (fun c22 => ?_) (fun c22 => ?_)
          · rw [if_pos c22] at hrun
            refine lv_bipush (v := (-2 : Int32)) hx hb d_MacroExpand_define_31 (by decide) ?_
            cases hrun
            refine W.widen (k := dnZ) (n := dsZ) (by omega) (by omega) ?_
            rw [show nx = nxZ + dnZ by omega] at hw
            exact W.iret hx hb hr (fun t ht hW9 => ⟨⟨_, (), rfl, rfl, by show hW D dA classes b0 _ _ t.heap; rw [ht]; exact hw⟩, hS.F ht⟩) hS.2.2 d_MacroExpand_define_33
          · rw [if_neg c22] at hrun
            refine lv_iload_n hx hb d_MacroExpand_define_25 rfl (lv_at hl 3 rfl) ?_
            refine lv_bipush (v := (7 : Int32)) hx hb d_MacroExpand_define_26 (by decide) ?_
            refine lv_icmp_le (tgt := 34) hx hb d_MacroExpand_define_28 (by decide) (fun c28 => ?_) (fun c28 => ?_)
            · rw [if_pos c28] at hrun
              refine lv_aload_n hx hb d_MacroExpand_define_34 rfl (lv_at hl 0 rfl) ?_
              replace hrun := hb_some hrun
              obtain ⟨v35, g35, hrun⟩ := hrun
              refine h_getR S (fun w q => hT w (i_MacroExpand w q)) hK (ci := 0) rfl 0 (by decide) (hT _ fl_MacroExpand_23) hw g35 d_MacroExpand_define_35 ?_
              replace hrun := hb_some hrun
              obtain ⟨p38, rfl, hrun⟩ := hrun
              replace hrun := hb_some hrun
              obtain ⟨c38, k38, hrun⟩ := hrun
              replace hrun := hb_some hrun
              obtain ⟨v38, g38, hrun⟩ := hrun
              refine h_ci (h_runV S (As := []) (rest := []) (c_Book_isFull l D dA b0 p38 nx g38) (cwV 0 S.2.2.2.2 (h_good _ (h_in4 ml_MacroExpand_66 im_Book_isFull se_Book_isFull it_Book) cd_Book_isFull) rfl rfl rfl (by decide +kernel) ⟨Nat.le_of_ble_eq_true rfl, Nat.le_of_ble_eq_true rfl⟩) hK hN hw (ci := 3) rfl k38 rfl hl.1 (lv_room (Nat.le_of_ble_eq_true rfl)) d_MacroExpand_define_38 ⟨show 0 + 0 ≤ dnZ by omega, show 0 + 0 ≤ dsZ by omega⟩) hS (fun H locs hw hS => ?_)
              refine lv_if_eq (tgt := 47) hx hb d_MacroExpand_define_41 (by decide) (fun c41 => ?_) (fun c41 => ?_)
              · rw [if_pos c41] at hrun
                refine lv_aload_n hx hb d_MacroExpand_define_47 rfl (lv_at hl 0 rfl) ?_
                replace hrun := hb_some hrun
                obtain ⟨v48, g48, hrun⟩ := hrun
                refine h_getR S (fun w q => hT w (i_MacroExpand w q)) hK (ci := 0) rfl 0 (by decide) (hT _ fl_MacroExpand_23) hw g48 d_MacroExpand_define_48 ?_
                refine lv_sipush (v := (1000 : Int32)) hx hb d_MacroExpand_define_51 (by decide) ?_
                refine lv_iload_n hx hb d_MacroExpand_define_54 rfl (lv_at hl 1 rfl) ?_
                refine lv_iadd hx hb d_MacroExpand_define_55 ?_
                replace hrun := hnew_some hrun
                obtain ⟨h56, dn56, ds56, eh56, hrun, en56, es56⟩ := hrun
                refine h_new S (fun w q => hT w (i_Macro w q)) t_Macro t_Macro_ok (hT _ cl_MacroExpand_70) (hT _ in_Macro) (hT _ it_Macro) hK (ci := 7) rfl dv_Macro hw hS (show 0 + 1 ≤ dnZ by omega) (show 0 + 5 ≤ dsZ by omega) d_MacroExpand_define_56 (fun H hw hS => ?_)
                rw [← eh56] at hw
                clear eh56
                obtain ⟨nx56, ex56⟩ : ∃ z, z = nx + 1 := ⟨_, rfl⟩
                rw [← ex56] at hw
                try rw [← ex56] at hrun
                replace hcR : (0 + 1) + dn56 = dnZ := by omega
                replace hsR : (0 + 5) + ds56 = dsZ := by omega
                replace hnR : nx56 + dn56 = nxZ + dnZ := by omega
                clear en56 es56 ex56
                refine lv_dup hx hb d_MacroExpand_define_59 rfl ?_
                refine lv_iload_n hx hb d_MacroExpand_define_60 rfl (lv_at hl 2 rfl) ?_
                refine lv_iload_n hx hb d_MacroExpand_define_61 rfl (lv_at hl 3 rfl) ?_
                replace hrun := hbind_some hrun
                obtain ⟨_u62, d62, s62, h62, dn62, ds62, g62, hrun, en62, es62⟩ := hrun
                refine h_cv (h_runI S (As := [.int i2, .int i3]) (rest := [.ref nx, .int ((1000 : Int32) + i1), va_rf v48]) (c_Macro_init l D dA b0 n nx i2 i3 nx56 g62) (cwI 2 S.2.2.2.2 (h_good [] (fun _ q => absurd q List.not_mem_nil) cd_Macro_init) rfl rfl rfl (S.2.2.2.2 _ (hT _ it_Macro)) (S.2.2.2.2 _ (hT _ ml_MacroExpand_72)) (S.2.2.2.2 _ (hT _ im_Macro_init)) rfl (by decide +kernel) ⟨Nat.le_of_ble_eq_true rfl, Nat.le_of_ble_eq_true rfl⟩) hK hN hw rfl hl.1 (lv_room (by simp only [List.map, List.sum_cons, List.sum_nil, h_cat]; exact Nat.le_of_ble_eq_true rfl)) d_MacroExpand_define_62 ⟨show (0 + 1) + d62 ≤ dnZ by omega, show (0 + 5) + s62 ≤ dsZ by omega⟩) hS (fun H locs hw hS => ?_)
                obtain ⟨nx62, ex62⟩ : ∃ z, z = nx56 + d62 := ⟨_, rfl⟩
                rw [← ex62] at hw
                try rw [← ex62] at hrun
                replace hcR : ((0 + 1) + d62) + dn62 = dnZ := by omega
                replace hsR : ((0 + 5) + s62) + ds62 = dsZ := by omega
                replace hnR : nx62 + dn62 = nxZ + dnZ := by omega
                clear en62 es62 ex62
                refine lv_iload_n hx hb d_MacroExpand_define_65 rfl (lv_at hl 3 rfl) ?_
                replace hrun := hb_some hrun
                obtain ⟨p66, rfl, hrun⟩ := hrun
                replace hrun := hb_some hrun
                obtain ⟨c66, k66, hrun⟩ := hrun
                replace hrun := hbW_some hrun
                obtain ⟨v66, h66, g66, hrun⟩ := hrun
                refine h_ci (h_runV S (As := [.int ((1000 : Int32) + i1), .ref nx, .int i3]) (rest := []) (c_Book_enter l D dA b0 n p66 ((1000 : Int32) + i1) nx i3 nx62 g66) (cwV 3 S.2.2.2.2 (h_good _ (h_in4 ml_MacroExpand_75 im_Book_enter se_Book_enter it_Book) cd_Book_enter) rfl rfl rfl (by decide +kernel) ⟨Nat.le_of_ble_eq_true rfl, Nat.le_of_ble_eq_true rfl⟩) hK hN hw (ci := 3) rfl k66 rfl hl.1 (lv_room (Nat.le_of_ble_eq_true rfl)) d_MacroExpand_define_66 ⟨show ((0 + 1) + d62) + 0 ≤ dnZ by omega, show ((0 + 5) + s62) + 0 ≤ dsZ by omega⟩) hS (fun H locs hw hS => ?_)
                cases hrun
                refine W.widen (k := dnZ) (n := dsZ) (by omega) (by omega) ?_
                rw [show nx62 = nxZ + dnZ by omega] at hw
                exact W.iret hx hb hr (fun t ht hW9 => ⟨⟨_, (), rfl, rfl, by show hW D dA classes b0 _ _ t.heap; rw [ht]; exact hw⟩, hS.F ht⟩) hS.2.2 d_MacroExpand_define_69
              · rw [if_neg c41] at hrun
                refine lv_bipush (v := (-4 : Int32)) hx hb d_MacroExpand_define_44 (by decide) ?_
                cases hrun
                refine W.widen (k := dnZ) (n := dsZ) (by omega) (by omega) ?_
                rw [show nx = nxZ + dnZ by omega] at hw
                exact W.iret hx hb hr (fun t ht hW9 => ⟨⟨_, (), rfl, rfl, by show hW D dA classes b0 _ _ t.heap; rw [ht]; exact hw⟩, hS.F ht⟩) hS.2.2 d_MacroExpand_define_46
            · rw [if_neg c28] at hrun
              refine lv_bipush (v := (-2 : Int32)) hx hb d_MacroExpand_define_31 (by decide) ?_
              cases hrun
              refine W.widen (k := dnZ) (n := dsZ) (by omega) (by omega) ?_
              rw [show nx = nxZ + dnZ by omega] at hw
              exact W.iret hx hb hr (fun t ht hW9 => ⟨⟨_, (), rfl, rfl, by show hW D dA classes b0 _ _ t.heap; rw [ht]; exact hw⟩, hS.F ht⟩) hS.2.2 d_MacroExpand_define_33
set_option maxHeartbeats 4000000 in
set_option maxRecDepth 100000 in
theorem c_Book_numbered (l : Launch) (D : va_G) (dA : Nat → ClassId) (b0 : Nat) (a0 : Nat) (i1 : Int32) (nx : Nat) {h : hH} {r : Option Nat} (hrun : f_Book_numbered a0 i1 h = some r) : Met l y_Book_numbered w_Book_numbered ({ frames := 0, cells := 0, slots := 0, locals := 0 } : Room) (va_Pc [.ref a0, .int i1] (hB D dA b0 nx h)) (va_Qq (fun r' (_ : Unit) => r' = r) (fun (_ : Unit) t => hW D dA classes b0 nx h t.heap) (hA b0)) 0 0 (hA b0) := by
  refine Met.ofW (cc := b_Book_numbered) (maxL := 2) (ret := (some (.object "MacroExpand$Macro"))) (by decide) rfl ?_
  intro p e s m args below meth c s₁ B hml hv
  obtain ⟨rfl, hw, hK, hN⟩ := hv
  have hx := B.exec
  have hb := B.bytes
  have hr := B.returns
  have hlocks := B.notSynchronized
  have S : CallFix p m c b_Book_numbered 2 s ([.ref a0, .int i1] : List Value).toArray w_Book_numbered R_Book := ⟨hx, hb, hml, findClass_of_methodNamed B.named, atoms_spec (ws := w_Book_numbered) B.pre⟩
  have hT : ∀ w ∈ tbl, w ∈ w_Book_numbered := fun _ q => List.mem_cons_of_mem _ q
  have hS : va_S (hA b0) s.heap s.heap [] := va_S.rf
  have hl := lv_entry ([.ref a0, .int i1]) (n := 2) (Nat.le_of_ble_eq_true rfl)
  rw [lg_entry_eq]
  generalize (lg_sl ([.ref a0, .int i1]) ++ List.replicate (2 - (lg_sl ([.ref a0, .int i1])).length) Slot.unset).toArray = ls at hl ⊢
  have hl : lv_has ls 2 [(0, .ref a0), (1, .int i1)] := hl
  unfold f_Book_numbered at hrun
  refine lv_iload_n hx hb d_Book_numbered_0 rfl (lv_at hl 1 rfl) ?_
  refine lv_if_lt (tgt := 30) hx hb d_Book_numbered_1 (by decide) (fun c1 => ?_) (fun c1 => ?_)
  · rw [if_pos c1] at hrun
    refine lv_null hx hb d_Book_numbered_30 ?_
    cases hrun
    exact W.aret hx hb hr (Or.inl ⟨_, rfl⟩) (va_rf_or none) (fun t ht hW9 => ⟨⟨_, (), rfl, rfl, by show hW D dA classes b0 _ _ t.heap; rw [ht]; exact hw⟩, hS.F ht⟩) hS.2.2 d_Book_numbered_31
  · rw [if_neg c1] at hrun
    refine lv_iload_n hx hb d_Book_numbered_4 rfl (lv_at hl 1 rfl) ?_
    refine lv_aload_n hx hb d_Book_numbered_5 rfl (lv_at hl 0 rfl) ?_
    replace hrun := hb_some hrun
    obtain ⟨v6, g6, hrun⟩ := hrun
    refine h_getI S (fun w q => hT w (i_Book w q)) hK (ci := 3) rfl 3 (by decide) (hT _ fl_Book_32) hw g6 d_Book_numbered_6 ?_
    refine lv_icmp_ge (tgt := 30) hx hb d_Book_numbered_9 (by decide) (fun c9 => ?_) (fun c9 => ?_)
    · rw [if_pos c9] at hrun
      refine lv_null hx hb d_Book_numbered_30 ?_
      cases hrun
      exact W.aret hx hb hr (Or.inl ⟨_, rfl⟩) (va_rf_or none) (fun t ht hW9 => ⟨⟨_, (), rfl, rfl, by show hW D dA classes b0 _ _ t.heap; rw [ht]; exact hw⟩, hS.F ht⟩) hS.2.2 d_Book_numbered_31
    · rw [if_neg c9] at hrun
      refine lv_iload_n hx hb d_Book_numbered_12 rfl (lv_at hl 1 rfl) ?_
      refine lv_aload_n hx hb d_Book_numbered_13 rfl (lv_at hl 0 rfl) ?_
      replace hrun := hb_some hrun
      obtain ⟨v14, g14, hrun⟩ := hrun
      refine h_getR S (fun w q => hT w (i_Book w q)) hK (ci := 3) rfl 0 (by decide) (hT _ fl_Book_11) hw g14 d_Book_numbered_14 ?_
      replace hrun := hb_some hrun
      obtain ⟨p17, rfl, hrun⟩ := hrun
      replace hrun := hb_some hrun
      obtain ⟨v17, g17, hrun⟩ := hrun
      refine h_alen S hK (kd := 1) rfl hw g17 d_Book_numbered_17 ?_
      refine lv_icmp_ge (tgt := 30) hx hb d_Book_numbered_18 (by decide) (fun c18 => ?_) (fun c18 => ?_)
      · rw [if_pos c18] at hrun
        refine lv_null hx hb d_Book_numbered_30 ?_
        cases hrun
        exact W.aret hx hb hr (Or.inl ⟨_, rfl⟩) (va_rf_or none) (fun t ht hW9 => ⟨⟨_, (), rfl, rfl, by show hW D dA classes b0 _ _ t.heap; rw [ht]; exact hw⟩, hS.F ht⟩) hS.2.2 d_Book_numbered_31
      · rw [if_neg c18] at hrun
        refine lv_aload_n hx hb d_Book_numbered_21 rfl (lv_at hl 0 rfl) ?_
        replace hrun := hb_some hrun
        obtain ⟨v22, g22, hrun⟩ := hrun
        refine h_getR S (fun w q => hT w (i_Book w q)) hK (ci := 3) rfl 0 (by decide) (hT _ fl_Book_11) hw g22 d_Book_numbered_22 ?_
        refine lv_iload_n hx hb d_Book_numbered_25 rfl (lv_at hl 1 rfl) ?_
        replace hrun := hb_some hrun
        obtain ⟨p26, rfl, hrun⟩ := hrun
        replace hrun := hb_some hrun
        obtain ⟨v26, g26, hrun⟩ := hrun
        refine h_aald S hK (kd := 1) rfl hw g26 d_Book_numbered_26 ?_
        refine lv_goto (tgt := 31) hx hb d_Book_numbered_27 (by decide) ?_
        cases hrun
        exact W.aret hx hb hr (Or.inl ⟨_, rfl⟩) (va_rf_or _) (fun t ht hW9 => ⟨⟨_, (), rfl, rfl, by show hW D dA classes b0 _ _ t.heap; rw [ht]; exact hw⟩, hS.F ht⟩) hS.2.2 d_Book_numbered_31
set_option maxHeartbeats 4000000 in
set_option maxRecDepth 100000 in
theorem c_Kind_isParameter (l : Launch) (D : va_G) (dA : Nat → ClassId) (b0 : Nat) (i0 : Int32) (nx : Nat) {h : hH} {r : Int32} (hrun : f_Kind_isParameter i0 h = some r) : Met l y_Kind_isParameter w_Kind_isParameter ({ frames := 0, cells := 0, slots := 0, locals := 0 } : Room) (va_Pc [.int i0] (hB D dA b0 nx h)) (va_Qi (fun r' (_ : Unit) => r' = r) (fun (_ : Unit) t => hW D dA classes b0 nx h t.heap) (hA b0)) 0 0 (hA b0) := by
  refine Met.ofW (cc := b_Kind_isParameter) (maxL := 1) (ret := (some .boolean)) (by decide) rfl ?_
  intro p e s m args below meth c s₁ B hml hv
  obtain ⟨rfl, hw, hK, hN⟩ := hv
  have hx := B.exec
  have hb := B.bytes
  have hr := B.returns
  have hlocks := B.notSynchronized
  have S : CallFix p m c b_Kind_isParameter 1 s ([.int i0] : List Value).toArray w_Kind_isParameter R_Kind := ⟨hx, hb, hml, findClass_of_methodNamed B.named, atoms_spec (ws := w_Kind_isParameter) B.pre⟩
  have hT : ∀ w ∈ tbl, w ∈ w_Kind_isParameter := fun _ q => List.mem_cons_of_mem _ q
  have hS : va_S (hA b0) s.heap s.heap [] := va_S.rf
  have hl := lv_entry ([.int i0]) (n := 1) (Nat.le_of_ble_eq_true rfl)
  rw [lg_entry_eq]
  generalize (lg_sl ([.int i0]) ++ List.replicate (1 - (lg_sl ([.int i0])).length) Slot.unset).toArray = ls at hl ⊢
  have hl : lv_has ls 1 [(0, .int i0)] := hl
  unfold f_Kind_isParameter at hrun
  refine lv_iload_n hx hb d_Kind_isParameter_0 rfl (lv_at hl 0 rfl) ?_
  refine lv_sipush (v := (310 : Int32)) hx hb d_Kind_isParameter_1 (by decide) ?_
  refine lv_icmp_le (tgt := 29) hx hb d_Kind_isParameter_4 (by decide) (fun c4 => ?_) (fun c4 => ?_)
  · rw [if_pos c4] at hrun
    refine lv_iconst (v := (0 : Int32)) hx hb d_Kind_isParameter_29 (by decide) ?_
    cases hrun
    exact W.zret hx hb hr (by decide) (fun t ht hW9 => ⟨⟨_, (), rfl, rfl, by show hW D dA classes b0 _ _ t.heap; rw [ht]; exact hw⟩, hS.F ht⟩) hS.2.2 d_Kind_isParameter_30
  · rw [if_neg c4] at hrun
    refine lv_iload_n hx hb d_Kind_isParameter_7 rfl (lv_at hl 0 rfl) ?_
    refine lv_sipush (v := (399 : Int32)) hx hb d_Kind_isParameter_8 (by decide) ?_
    refine lv_icmp_gt (tgt := 29) hx hb d_Kind_isParameter_11 (by decide) (fun c11 => ?_) (fun c11 => ?_)
    · rw [if_pos c11] at hrun
      refine lv_iconst (v := (0 : Int32)) hx hb d_Kind_isParameter_29 (by decide) ?_
      cases hrun
      exact W.zret hx hb hr (by decide) (fun t ht hW9 => ⟨⟨_, (), rfl, rfl, by show hW D dA classes b0 _ _ t.heap; rw [ht]; exact hw⟩, hS.F ht⟩) hS.2.2 d_Kind_isParameter_30
    · rw [if_neg c11] at hrun
      refine lv_iload_n hx hb d_Kind_isParameter_14 rfl (lv_at hl 0 rfl) ?_
      refine lv_sipush (v := (310 : Int32)) hx hb d_Kind_isParameter_15 (by decide) ?_
      refine lv_isub hx hb d_Kind_isParameter_18 ?_
      refine lv_bipush (v := (10 : Int32)) hx hb d_Kind_isParameter_19 (by decide) ?_
      have z21 : ¬ (10 : Int32) = 0 := fun q => by rw [if_pos q] at hrun; cases hrun
      rw [if_neg z21] at hrun
      refine lv_irem hx hb d_Kind_isParameter_21 z21 ?_
      refine lv_if_eq (tgt := 29) hx hb d_Kind_isParameter_22 (by decide) (fun c22 => ?_) (fun c22 => ?_)
      · rw [if_pos c22] at hrun
        refine lv_iconst (v := (0 : Int32)) hx hb d_Kind_isParameter_29 (by decide) ?_
        cases hrun
        exact W.zret hx hb hr (by decide) (fun t ht hW9 => ⟨⟨_, (), rfl, rfl, by show hW D dA classes b0 _ _ t.heap; rw [ht]; exact hw⟩, hS.F ht⟩) hS.2.2 d_Kind_isParameter_30
      · rw [if_neg c22] at hrun
        refine lv_iconst (v := (1 : Int32)) hx hb d_Kind_isParameter_25 (by decide) ?_
        refine lv_goto (tgt := 30) hx hb d_Kind_isParameter_26 (by decide) ?_
        cases hrun
        exact W.zret hx hb hr (by decide) (fun t ht hW9 => ⟨⟨_, (), rfl, rfl, by show hW D dA classes b0 _ _ t.heap; rw [ht]; exact hw⟩, hS.F ht⟩) hS.2.2 d_Kind_isParameter_30
set_option maxHeartbeats 4000000 in
set_option maxRecDepth 100000 in
theorem c_Kind_isName (l : Launch) (D : va_G) (dA : Nat → ClassId) (b0 : Nat) (i0 : Int32) (nx : Nat) {h : hH} {r : Int32} (hrun : f_Kind_isName i0 h = some r) : Met l y_Kind_isName w_Kind_isName ({ frames := 0, cells := 0, slots := 0, locals := 0 } : Room) (va_Pc [.int i0] (hB D dA b0 nx h)) (va_Qi (fun r' (_ : Unit) => r' = r) (fun (_ : Unit) t => hW D dA classes b0 nx h t.heap) (hA b0)) 0 0 (hA b0) := by
  refine Met.ofW (cc := b_Kind_isName) (maxL := 1) (ret := (some .boolean)) (by decide) rfl ?_
  intro p e s m args below meth c s₁ B hml hv
  obtain ⟨rfl, hw, hK, hN⟩ := hv
  have hx := B.exec
  have hb := B.bytes
  have hr := B.returns
  have hlocks := B.notSynchronized
  have S : CallFix p m c b_Kind_isName 1 s ([.int i0] : List Value).toArray w_Kind_isName R_Kind := ⟨hx, hb, hml, findClass_of_methodNamed B.named, atoms_spec (ws := w_Kind_isName) B.pre⟩
  have hT : ∀ w ∈ tbl, w ∈ w_Kind_isName := fun _ q => List.mem_cons_of_mem _ q
  have hS : va_S (hA b0) s.heap s.heap [] := va_S.rf
  have hl := lv_entry ([.int i0]) (n := 1) (Nat.le_of_ble_eq_true rfl)
  rw [lg_entry_eq]
  generalize (lg_sl ([.int i0]) ++ List.replicate (1 - (lg_sl ([.int i0])).length) Slot.unset).toArray = ls at hl ⊢
  have hl : lv_has ls 1 [(0, .int i0)] := hl
  unfold f_Kind_isName at hrun
  refine lv_iload_n hx hb d_Kind_isName_0 rfl (lv_at hl 0 rfl) ?_
  refine lv_sipush (v := (1000 : Int32)) hx hb d_Kind_isName_1 (by decide) ?_
  refine lv_icmp_lt (tgt := 18) hx hb d_Kind_isName_4 (by decide) (fun c4 => ?_) (fun c4 => ?_)
  · rw [if_pos c4] at hrun
    refine lv_iconst (v := (0 : Int32)) hx hb d_Kind_isName_18 (by decide) ?_
    cases hrun
    exact W.zret hx hb hr (by decide) (fun t ht hW9 => ⟨⟨_, (), rfl, rfl, by show hW D dA classes b0 _ _ t.heap; rw [ht]; exact hw⟩, hS.F ht⟩) hS.2.2 d_Kind_isName_19
  · rw [if_neg c4] at hrun
    refine lv_iload_n hx hb d_Kind_isName_7 rfl (lv_at hl 0 rfl) ?_
    refine lv_sipush (v := (1200 : Int32)) hx hb d_Kind_isName_8 (by decide) ?_
    refine lv_icmp_ge (tgt := 18) hx hb d_Kind_isName_11 (by decide) (fun c11 => ?_) (fun c11 => ?_)
    · rw [if_pos c11] at hrun
      refine lv_iconst (v := (0 : Int32)) hx hb d_Kind_isName_18 (by decide) ?_
      cases hrun
      exact W.zret hx hb hr (by decide) (fun t ht hW9 => ⟨⟨_, (), rfl, rfl, by show hW D dA classes b0 _ _ t.heap; rw [ht]; exact hw⟩, hS.F ht⟩) hS.2.2 d_Kind_isName_19
    · rw [if_neg c11] at hrun
      refine lv_iconst (v := (1 : Int32)) hx hb d_Kind_isName_14 (by decide) ?_
      refine lv_goto (tgt := 19) hx hb d_Kind_isName_15 (by decide) ?_
      cases hrun
      exact W.zret hx hb hr (by decide) (fun t ht hW9 => ⟨⟨_, (), rfl, rfl, by show hW D dA classes b0 _ _ t.heap; rw [ht]; exact hw⟩, hS.F ht⟩) hS.2.2 d_Kind_isName_19
