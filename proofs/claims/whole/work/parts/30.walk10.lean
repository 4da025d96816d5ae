set_option maxHeartbeats 4000000 in
set_option maxRecDepth 100000 in
theorem c_Expander_init (l : Launch) (D : va_G) (dA : Nat → ClassId) (b0 : Nat) (n : Nat) (a0 : Nat) (i1 : Int32) (a2 : Nat) (a3 : Nat) (a4 : Nat) (nxZ : Nat) {h h' : hH} {r : Unit} {dnZ dsZ : Nat} (hrun : f_Expander_init n a0 i1 a2 a3 a4 nxZ h = some (r, dnZ, dsZ, h')) : Met l y_Expander_init w_Expander_init ({ frames := 3, cells := dnZ, slots := dsZ, locals := 64 } : Room) (va_Pc [.ref a0, .int i1, .ref a2, .ref a3, .ref a4] (hB D dA b0 nxZ h)) (va_Qv (fun (_ : Unit) => True) (fun (_ : Unit) t => hW D dA classes b0 (nxZ + dnZ) h' t.heap) (hA b0)) dnZ dsZ (hA b0) := by
  refine Met.ofW (cc := b_Expander_init) (maxL := 5) (ret := none) (by decide) rfl ?_
  intro p e s m args below meth c s₁ B hml hv
  obtain ⟨rfl, hw, hK, hN⟩ := hv
  have hx := B.exec
  have hb := B.bytes
  have hr := B.returns
  have hlocks := B.notSynchronized
  have hin : meth.name = "<init>" := (name_of_methodNamed B.named B.method).1
  have S : CallFix p m c b_Expander_init 5 s ([.ref a0, .int i1, .ref a2, .ref a3, .ref a4] : List Value).toArray w_Expander_init R_Expander := ⟨hx, hb, hml, findClass_of_methodNamed B.named, atoms_spec (ws := w_Expander_init) B.pre⟩
  have hT : ∀ w ∈ tbl, w ∈ w_Expander_init := fun _ q => List.mem_cons_of_mem _ q
  have hS : va_S (hA b0) s.heap s.heap [] := va_S.rf
  have hl := lv_entry ([.ref a0, .int i1, .ref a2, .ref a3, .ref a4]) (n := 5) (Nat.le_of_ble_eq_true rfl)
  rw [lg_entry_eq]
  generalize (lg_sl ([.ref a0, .int i1, .ref a2, .ref a3, .ref a4]) ++ List.replicate (5 - (lg_sl ([.ref a0, .int i1, .ref a2, .ref a3, .ref a4])).length) Slot.unset).toArray = ls at hl ⊢
  have hl : lv_has ls 5 [(0, .ref a0), (1, .int i1), (2, .ref a2), (3, .ref a3), (4, .ref a4)] := hl
  obtain ⟨dn, edn⟩ : ∃ z, z = dnZ := ⟨_, rfl⟩
  obtain ⟨ds, eds⟩ : ∃ z, z = dsZ := ⟨_, rfl⟩
  obtain ⟨nx, enx⟩ : ∃ z, z = nxZ := ⟨_, rfl⟩
  rw [← edn, ← eds, ← enx] at hrun
  rw [← enx] at hw
  have hcR : 0 + dn = dnZ := by omega
  have hsR : 0 + ds = dsZ := by omega
  have hnR : nx + dn = nxZ + dnZ := by omega
  clear edn eds enx
  unfold f_Expander_init at hrun
  refine lv_aload_n hx hb d_Expander_init_0 rfl (lv_at hl 0 rfl) ?_
  refine W.objInit hx hb S.2.2.2.1 (S.2.2.2.2 _ (hT _ ml_Expander_3)) (S.2.2.2.2 _ (hT _ k_objinst)) (S.2.2.2.2 _ (hT _ k_objcode)) rfl (by rw [hml]; exact hl.1) rfl d_Expander_init_1 (Nat.le_of_ble_eq_true rfl) (Nat.le_of_ble_eq_true rfl) ?_
  refine W.eq (g2 := F0 m 4 ls []) rfl ?_
  refine lv_aload_n hx hb d_Expander_init_4 rfl (lv_at hl 0 rfl) ?_
  refine lv_iload_n hx hb d_Expander_init_5 rfl (lv_at hl 1 rfl) ?_
  replace hrun := hb_some hrun
  obtain ⟨h6, g6, hrun⟩ := hrun
  refine h_putF S (fun w q => hT w (i_Expander w q)) t_Expander t_Expander_ok n_Expander hK (ci := 5) rfl 0 (by decide) (hT _ fl_Expander_9) rfl hin rfl rfl rfl hw hS g6 d_Expander_init_6 (fun H locs hw hS => ?_)
  refine lv_aload_n hx hb d_Expander_init_9 rfl (lv_at hl 0 rfl) ?_
  refine lv_aload_n hx hb d_Expander_init_10 rfl (lv_at hl 2 rfl) ?_
  replace hrun := hb_some hrun
  obtain ⟨h11, g11, hrun⟩ := hrun
  refine h_putF S (fun w q => hT w (i_Expander w q)) t_Expander t_Expander_ok n_Expander hK (ci := 5) rfl 1 (by decide) (hT _ fl_Expander_15) rfl hin rfl rfl rfl hw hS g11 d_Expander_init_11 (fun H locs hw hS => ?_)
  refine lv_aload_n hx hb d_Expander_init_14 rfl (lv_at hl 0 rfl) ?_
  refine lv_aload_n hx hb d_Expander_init_15 rfl (lv_at hl 3 rfl) ?_
  replace hrun := hb_some hrun
  obtain ⟨h16, g16, hrun⟩ := hrun
  refine h_putF S (fun w q => hT w (i_Expander w q)) t_Expander t_Expander_ok n_Expander hK (ci := 5) rfl 2 (by decide) (hT _ fl_Expander_19) rfl hin rfl rfl rfl hw hS g16 d_Expander_init_16 (fun H locs hw hS => ?_)
  refine lv_aload_n hx hb d_Expander_init_19 rfl (lv_at hl 0 rfl) ?_
  refine lv_aload hx hb d_Expander_init_20 (lv_at hl 4 rfl) ?_
  replace hrun := hb_some hrun
  obtain ⟨h22, g22, hrun⟩ := hrun
  refine h_putF S (fun w q => hT w (i_Expander w q)) t_Expander t_Expander_ok n_Expander hK (ci := 5) rfl 3 (by decide) (hT _ fl_Expander_23) rfl hin rfl rfl rfl hw hS g22 d_Expander_init_22 (fun H locs hw hS => ?_)
  refine lv_aload_n hx hb d_Expander_init_25 rfl (lv_at hl 0 rfl) ?_
  replace hrun := hnew_some hrun
  obtain ⟨h26, dn26, ds26, eh26, hrun, en26, es26⟩ := hrun
  refine h_new S (fun w q => hT w (i_Trace w q)) t_Trace t_Trace_ok (hT _ cl_Expander_27) (hT _ in_Trace) (hT _ it_Trace) hK (ci := 10) rfl dv_Trace hw hS (show 0 + 1 ≤ dnZ by omega) (show 0 + 4 ≤ dsZ by omega) d_Expander_init_26 (fun H hw hS => ?_)
  rw [← eh26] at hw
  clear eh26
  obtain ⟨nx26, ex26⟩ : ∃ z, z = nx + 1 := ⟨_, rfl⟩
  rw [← ex26] at hw
  try rw [← ex26] at hrun
  replace hcR : (0 + 1) + dn26 = dnZ := by omega
  replace hsR : (0 + 4) + ds26 = dsZ := by omega
  replace hnR : nx26 + dn26 = nxZ + dnZ := by omega
  clear en26 es26 ex26
  refine lv_dup hx hb d_Expander_init_29 rfl ?_
  replace hrun := hbind_some hrun
  obtain ⟨_u30, d30, s30, h30, dn30, ds30, g30, hrun, en30, es30⟩ := hrun
  refine h_cv (h_runI S (As := []) (rest := [.ref nx, .ref a0]) (c_Trace_init l D dA b0 nx nx26 g30) (cwI 0 S.2.2.2.2 (h_good [] (fun _ q => absurd q List.not_mem_nil) cd_Trace_init) rfl rfl rfl (S.2.2.2.2 _ (hT _ it_Trace)) (S.2.2.2.2 _ (hT _ ml_Expander_29)) (S.2.2.2.2 _ (hT _ im_Trace_init)) rfl (by decide +kernel) ⟨Nat.le_of_ble_eq_true rfl, Nat.le_of_ble_eq_true rfl⟩) hK hN hw rfl hl.1 (lv_room (Nat.le_of_ble_eq_true rfl)) d_Expander_init_30 ⟨show (0 + 1) + d30 ≤ dnZ by omega, show (0 + 4) + s30 ≤ dsZ by omega⟩) hS (fun H locs hw hS => ?_)
  obtain ⟨nx30, ex30⟩ : ∃ z, z = nx26 + d30 := ⟨_, rfl⟩
  rw [← ex30] at hw
  try rw [← ex30] at hrun
  replace hcR : ((0 + 1) + d30) + dn30 = dnZ := by omega
  replace hsR : ((0 + 4) + s30) + ds30 = dsZ := by omega
  replace hnR : nx30 + dn30 = nxZ + dnZ := by omega
  clear en30 es30 ex30
  replace hrun := hb_some hrun
  obtain ⟨h33, g33, hrun⟩ := hrun
  refine h_putF S (fun w q => hT w (i_Expander w q)) t_Expander t_Expander_ok n_Expander hK (ci := 5) rfl 4 (by decide) (hT _ fl_Expander_30) rfl hin rfl rfl rfl hw hS g33 d_Expander_init_33 (fun H locs hw hS => ?_)
  refine lv_aload_n hx hb d_Expander_init_36 rfl (lv_at hl 0 rfl) ?_
  replace hrun := hnew_some hrun
  obtain ⟨h37, dn37, ds37, eh37, hrun, en37, es37⟩ := hrun
  refine h_new S (fun w q => hT w (i_Arguments w q)) t_Arguments t_Arguments_ok (hT _ cl_Expander_34) (hT _ in_Arguments) (hT _ it_Arguments) hK (ci := 2) rfl dv_Arguments hw hS (show ((0 + 1) + d30) + 1 ≤ dnZ by omega) (show ((0 + 4) + s30) + 3 ≤ dsZ by omega) d_Expander_init_37 (fun H hw hS => ?_)
  rw [← eh37] at hw
  clear eh37
  obtain ⟨nx37, ex37⟩ : ∃ z, z = nx30 + 1 := ⟨_, rfl⟩
  rw [← ex37] at hw
  try rw [← ex37] at hrun
  replace hcR : (((0 + 1) + d30) + 1) + dn37 = dnZ := by omega
  replace hsR : (((0 + 4) + s30) + 3) + ds37 = dsZ := by omega
  replace hnR : nx37 + dn37 = nxZ + dnZ := by omega
  clear en37 es37 ex37
  refine lv_dup hx hb d_Expander_init_40 rfl ?_
  refine lv_aload_n hx hb d_Expander_init_41 rfl (lv_at hl 2 rfl) ?_
  refine lv_aload_n hx hb d_Expander_init_42 rfl (lv_at hl 3 rfl) ?_
  replace hrun := hbind_some hrun
  obtain ⟨_u43, d43, s43, h43, dn43, ds43, g43, hrun, en43, es43⟩ := hrun
  refine h_cv (h_runI S (As := [.ref a2, .ref a3]) (rest := [.ref nx30, .ref a0]) (c_Arguments_init l D dA b0 n nx30 a2 a3 nx37 g43) (cwI 2 S.2.2.2.2 (h_good [] (fun _ q => absurd q List.not_mem_nil) cd_Arguments_init) rfl rfl rfl (S.2.2.2.2 _ (hT _ it_Arguments)) (S.2.2.2.2 _ (hT _ ml_Expander_36)) (S.2.2.2.2 _ (hT _ im_Arguments_init)) rfl (by decide +kernel) ⟨Nat.le_of_ble_eq_true rfl, Nat.le_of_ble_eq_true rfl⟩) hK hN hw rfl hl.1 (lv_room (Nat.le_of_ble_eq_true rfl)) d_Expander_init_43 ⟨show (((0 + 1) + d30) + 1) + d43 ≤ dnZ by omega, show (((0 + 4) + s30) + 3) + s43 ≤ dsZ by omega⟩) hS (fun H locs hw hS => ?_)
  obtain ⟨nx43, ex43⟩ : ∃ z, z = nx37 + d43 := ⟨_, rfl⟩
  rw [← ex43] at hw
  try rw [← ex43] at hrun
  replace hcR : ((((0 + 1) + d30) + 1) + d43) + dn43 = dnZ := by omega
  replace hsR : ((((0 + 4) + s30) + 3) + s43) + ds43 = dsZ := by omega
  replace hnR : nx43 + dn43 = nxZ + dnZ := by omega
  clear en43 es43 ex43
  replace hrun := hb_some hrun
  obtain ⟨h46, g46, hrun⟩ := hrun
  refine h_putF S (fun w q => hT w (i_Expander w q)) t_Expander t_Expander_ok n_Expander hK (ci := 5) rfl 5 (by decide) (hT _ fl_Expander_39) rfl hin rfl rfl rfl hw hS g46 d_Expander_init_46 (fun H locs hw hS => ?_)
  refine lv_aload_n hx hb d_Expander_init_49 rfl (lv_at hl 0 rfl) ?_
  refine lv_bipush (v := (50 : Int32)) hx hb d_Expander_init_50 (by decide) ?_
  replace hrun := hnew_some hrun
  obtain ⟨h52, dn52, ds52, eh52, hrun, en52, es52⟩ := hrun
  refine h_newic S (hT _ ac_int) hK (kd := 0) rfl hw hS (N := 50) (by decide) (by decide) (by decide) (show ((((0 + 1) + d30) + 1) + d43) + 1 ≤ dnZ by omega) (show ((((0 + 4) + s30) + 3) + s43) + 50 ≤ dsZ by omega) d_Expander_init_52 (fun H hw hS => ?_)
  rw [← eh52] at hw
  clear eh52
  obtain ⟨nx52, ex52⟩ : ∃ z, z = nx43 + 1 := ⟨_, rfl⟩
  rw [← ex52] at hw
  try rw [← ex52] at hrun
  replace hcR : (((((0 + 1) + d30) + 1) + d43) + 1) + dn52 = dnZ := by omega
  replace hsR : (((((0 + 4) + s30) + 3) + s43) + 50) + ds52 = dsZ := by omega
  replace hnR : nx52 + dn52 = nxZ + dnZ := by omega
  clear en52 es52 ex52
  replace hrun := hb_some hrun
  obtain ⟨h54, g54, hrun⟩ := hrun
  refine h_putF S (fun w q => hT w (i_Expander w q)) t_Expander t_Expander_ok n_Expander hK (ci := 5) rfl 6 (by decide) (hT _ fl_Expander_43) rfl hin rfl rfl rfl hw hS g54 d_Expander_init_54 (fun H locs hw hS => ?_)
  refine lv_aload_n hx hb d_Expander_init_57 rfl (lv_at hl 0 rfl) ?_
  refine lv_sipush (v := (400 : Int32)) hx hb d_Expander_init_58 (by decide) ?_
  replace hrun := hnew_some hrun
  obtain ⟨h61, dn61, ds61, eh61, hrun, en61, es61⟩ := hrun
  refine h_newic S (hT _ ac_int) hK (kd := 0) rfl hw hS (N := 400) (by decide) (by decide) (by decide) (show (((((0 + 1) + d30) + 1) + d43) + 1) + 1 ≤ dnZ by omega) (show (((((0 + 4) + s30) + 3) + s43) + 50) + 400 ≤ dsZ by omega) d_Expander_init_61 (fun H hw hS => ?_)
  rw [← eh61] at hw
  clear eh61
  obtain ⟨nx61, ex61⟩ : ∃ z, z = nx52 + 1 := ⟨_, rfl⟩
  rw [← ex61] at hw
  try rw [← ex61] at hrun
  replace hcR : ((((((0 + 1) + d30) + 1) + d43) + 1) + 1) + dn61 = dnZ := by omega
  replace hsR : ((((((0 + 4) + s30) + 3) + s43) + 50) + 400) + ds61 = dsZ := by omega
  replace hnR : nx61 + dn61 = nxZ + dnZ := by omega
  clear en61 es61 ex61
  replace hrun := hb_some hrun
  obtain ⟨h63, g63, hrun⟩ := hrun
  refine h_putF S (fun w q => hT w (i_Expander w q)) t_Expander t_Expander_ok n_Expander hK (ci := 5) rfl 7 (by decide) (hT _ fl_Expander_47) rfl hin rfl rfl rfl hw hS g63 d_Expander_init_63 (fun H locs hw hS => ?_)
  refine lv_aload_n hx hb d_Expander_init_66 rfl (lv_at hl 0 rfl) ?_
  refine lv_bipush (v := (50 : Int32)) hx hb d_Expander_init_67 (by decide) ?_
  replace hrun := hnew_some hrun
  obtain ⟨h69, dn69, ds69, eh69, hrun, en69, es69⟩ := hrun
  refine h_newic S (hT _ ac_int) hK (kd := 0) rfl hw hS (N := 50) (by decide) (by decide) (by decide) (show ((((((0 + 1) + d30) + 1) + d43) + 1) + 1) + 1 ≤ dnZ by omega) (show ((((((0 + 4) + s30) + 3) + s43) + 50) + 400) + 50 ≤ dsZ by omega) d_Expander_init_69 (fun H hw hS => ?_)
  rw [← eh69] at hw
  clear eh69
  obtain ⟨nx69, ex69⟩ : ∃ z, z = nx61 + 1 := ⟨_, rfl⟩
  rw [← ex69] at hw
  try rw [← ex69] at hrun
  replace hcR : (((((((0 + 1) + d30) + 1) + d43) + 1) + 1) + 1) + dn69 = dnZ := by omega
  replace hsR : (((((((0 + 4) + s30) + 3) + s43) + 50) + 400) + 50) + ds69 = dsZ := by omega
  replace hnR : nx69 + dn69 = nxZ + dnZ := by omega
  clear en69 es69 ex69
  replace hrun := hb_some hrun
  obtain ⟨h71, g71, hrun⟩ := hrun
  refine h_putF S (fun w q => hT w (i_Expander w q)) t_Expander t_Expander_ok n_Expander hK (ci := 5) rfl 8 (by decide) (hT _ fl_Expander_50) rfl hin rfl rfl rfl hw hS g71 d_Expander_init_71 (fun H locs hw hS => ?_)
  cases hrun
  refine W.widen (k := dnZ) (n := dsZ) (by omega) (by omega) ?_
  rw [show nx69 = nxZ + dnZ by omega] at hw
  exact W.vret hx hb hr (fun t ht hW9 => ⟨⟨(), rfl, trivial, by show hW D dA classes b0 _ _ t.heap; rw [ht]; exact hw⟩, hS.F ht⟩) hS.2.2 d_Expander_init_74
set_option maxHeartbeats 4000000 in
set_option maxRecDepth 100000 in
theorem c_Definition_init (l : Launch) (D : va_G) (dA : Nat → ClassId) (b0 : Nat) (n : Nat) (a0 : Nat) (nxZ : Nat) {h h' : hH} {r : Unit} {dnZ dsZ : Nat} (hrun : f_Definition_init n a0 nxZ h = some (r, dnZ, dsZ, h')) : Met l y_Definition_init w_Definition_init ({ frames := 2, cells := dnZ, slots := dsZ, locals := 41 } : Room) (va_Pc [.ref a0] (hB D dA b0 nxZ h)) (va_Qv (fun (_ : Unit) => True) (fun (_ : Unit) t => hW D dA classes b0 (nxZ + dnZ) h' t.heap) (hA b0)) dnZ dsZ (hA b0) := by
  refine Met.ofW (cc := b_Definition_init) (maxL := 2) (ret := none) (by decide) rfl ?_
  intro p e s m args below meth c s₁ B hml hv
  obtain ⟨rfl, hw, hK, hN⟩ := hv
  have hx := B.exec
  have hb := B.bytes
  have hr := B.returns
  have hlocks := B.notSynchronized
  have hin : meth.name = "<init>" := (name_of_methodNamed B.named B.method).1
  have S : CallFix p m c b_Definition_init 2 s ([.ref a0] : List Value).toArray w_Definition_init R_Definition := ⟨hx, hb, hml, findClass_of_methodNamed B.named, atoms_spec (ws := w_Definition_init) B.pre⟩
  have hT : ∀ w ∈ tbl, w ∈ w_Definition_init := fun _ q => List.mem_cons_of_mem _ q
  have hS : va_S (hA b0) s.heap s.heap [] := va_S.rf
  have hl := lv_entry ([.ref a0]) (n := 2) (Nat.le_of_ble_eq_true rfl)
  rw [lg_entry_eq]
  generalize (lg_sl ([.ref a0]) ++ List.replicate (2 - (lg_sl ([.ref a0])).length) Slot.unset).toArray = ls at hl ⊢
  have hl : lv_has ls 2 [(0, .ref a0)] := hl
  obtain ⟨dn, edn⟩ : ∃ z, z = dnZ := ⟨_, rfl⟩
  obtain ⟨ds, eds⟩ : ∃ z, z = dsZ := ⟨_, rfl⟩
  obtain ⟨nx, enx⟩ : ∃ z, z = nxZ := ⟨_, rfl⟩
  rw [← edn, ← eds, ← enx] at hrun
  rw [← enx] at hw
  have hcR : 0 + dn = dnZ := by omega
  have hsR : 0 + ds = dsZ := by omega
  have hnR : nx + dn = nxZ + dnZ := by omega
  clear edn eds enx
  have l_15 : ∀ (n9 : Nat) (x9 : Int32) (cells slots dn ds nx : Nat) (h : hH) (b9 : (Unit)) (h9 : hH) (H : Heap) (locs : List Loc) (ls : Array Slot), hloopA (f_Definition_init_b15 n a0) n9 x9 nx h = some (b9, dn, ds, h9) → cells + dn ≤ dnZ → slots + ds ≤ dsZ → hW D dA classes b0 nx h H → va_S (hA b0) s.heap H locs → lv_has ls 2 (match x9 with | x1 => [(0, .ref a0), (1, .int x1)]) → (b9 = () → ∀ (H : Heap) (locs : List Loc) (ls : Array Slot), hW D dA classes b0 (nx + dn) h9 H → va_S (hA b0) s.heap H locs → lv_has ls 2 [(0, .ref a0)] → W p l e (headSpec w_Definition_init ({ frames := 2, cells := dnZ, slots := dsZ, locals := 41 } : Room)).room s m ([.ref a0] : List Value).toArray below meth c H locs (cells + dn) (slots + ds) (MQ below (va_Qv (fun (_ : Unit) => True) (fun (_ : Unit) t => hW D dA classes b0 (nxZ + dnZ) h' t.heap) (hA b0)) ([.ref a0] : List Value).toArray s dnZ dsZ (hA b0)) (F0 m 46 ls [])) → W p l e (headSpec w_Definition_init ({ frames := 2, cells := dnZ, slots := dsZ, locals := 41 } : Room)).room s m ([.ref a0] : List Value).toArray below meth c H locs cells slots (MQ below (va_Qv (fun (_ : Unit) => True) (fun (_ : Unit) t => hW D dA classes b0 (nxZ + dnZ) h' t.heap) (hA b0)) ([.ref a0] : List Value).toArray s dnZ dsZ (hA b0)) (F0 m 15 ls []) := by
    intro  n9
    induction n9 with
    | zero =>
      intro x9 cells slots dn ds nx h b9 h9 H locs ls hrun
      cases hrun
    | succ n9 ih =>
      rintro x1 cells slots dn ds nx h b9 h9 H locs ls hrun hcB hsB hw hS hl k0
      have hl : lv_has ls 2 [(0, .ref a0), (1, .int x1)] := hl
      unfold hloopA at hrun
      obtain ⟨q9, dnb, dsb, h9b, dnr, dsr, hbody, hrun9, edn, eds⟩ := hbind_some hrun
      have K0 : (∀ (z1 : Int32), q9 = .inl z1 → ∀ (H : Heap) (locs : List Loc) (ls : Array Slot), hW D dA classes b0 (nx + dnb) h9b H → va_S (hA b0) s.heap H locs → lv_has ls 2 [(0, .ref a0), (1, .int z1)] → W p l e (headSpec w_Definition_init ({ frames := 2, cells := dnZ, slots := dsZ, locals := 41 } : Room)).room s m ([.ref a0] : List Value).toArray below meth c H locs (cells + dnb) (slots + dsb) (MQ below (va_Qv (fun (_ : Unit) => True) (fun (_ : Unit) t => hW D dA classes b0 (nxZ + dnZ) h' t.heap) (hA b0)) ([.ref a0] : List Value).toArray s dnZ dsZ (hA b0)) (F0 m 15 ls [])) := by
        intro z1 eq9 H locs ls hw hS hl
        subst eq9
        exact ih z1 (cells + dnb) (slots + dsb) dnr dsr (nx + dnb) h9b b9 h9 H locs ls hrun9 (by omega) (by omega) hw hS hl (by have q := k0; rw [show nx + dn = nx + dnb + dnr by omega, show cells + dn = cells + dnb + dnr by omega, show slots + ds = slots + dsb + dsr by omega] at q; exact q)
      have K1 : (q9 = .inr () → ∀ (H : Heap) (locs : List Loc) (ls : Array Slot), hW D dA classes b0 (nx + dnb) h9b H → va_S (hA b0) s.heap H locs → lv_has ls 2 [(0, .ref a0)] → W p l e (headSpec w_Definition_init ({ frames := 2, cells := dnZ, slots := dsZ, locals := 41 } : Room)).room s m ([.ref a0] : List Value).toArray below meth c H locs (cells + dnb) (slots + dsb) (MQ below (va_Qv (fun (_ : Unit) => True) (fun (_ : Unit) t => hW D dA classes b0 (nxZ + dnZ) h' t.heap) (hA b0)) ([.ref a0] : List Value).toArray s dnZ dsZ (hA b0)) (F0 m 46 ls [])) := by
        intro  eq9 H locs ls hw hS hl
        subst eq9
        cases hrun9
        subst edn; subst eds
        exact k0  rfl H locs ls hw hS hl
      clear hrun hrun9 ih k0
      have hrun := hbody
      clear hbody
      replace hcB : cells + dnb ≤ dnZ := by omega
      replace hsB : slots + dsb ≤ dsZ := by omega
      clear edn eds
      dsimp only [f_Definition_init_b15] at hrun
      have hcR : cells + dnb = cells + dnb := rfl
      have hsR : slots + dsb = slots + dsb := rfl
      have hnR : nx + dnb = nx + dnb := rfl
      refine lv_iload_n hx hb d_Definition_init_15 rfl (lv_at hl 1 rfl) ?_
      refine lv_aload_n hx hb d_Definition_init_16 rfl (lv_at hl 0 rfl) ?_
      replace hrun := hb_some hrun
      obtain ⟨v17, g17, hrun⟩ := hrun
      refine h_getR S (fun w q => hT w (i_Definition w q)) hK (ci := 4) rfl 0 (by decide) (hT _ fl_Definition_11) hw g17 d_Definition_init_17 ?_
      replace hrun := hb_some hrun
      obtain ⟨p20, rfl, hrun⟩ := hrun
      replace hrun := hb_some hrun
      obtain ⟨v20, g20, hrun⟩ := hrun
      refine h_alen S hK (kd := 3) rfl hw g20 d_Definition_init_20 ?_
      refine lv_icmp_ge (tgt := 46) hx hb d_Definition_init_21 (by decide) (fun c21 => ?_) (fun c21 => ?_)
      · rw [if_pos c21] at hrun
        cases hrun
        exact W.widen (by omega) (by omega) (K1  rfl H locs ls hw hS (lv_sub hl [0] rfl))
      · rw [if_neg c21] at hrun
        refine lv_aload_n hx hb d_Definition_init_24 rfl (lv_at hl 0 rfl) ?_
        replace hrun := hb_some hrun
        obtain ⟨v25, g25, hrun⟩ := hrun
        refine h_getR S (fun w q => hT w (i_Definition w q)) hK (ci := 4) rfl 0 (by decide) (hT _ fl_Definition_11) hw g25 d_Definition_init_25 ?_
        refine lv_iload_n hx hb d_Definition_init_28 rfl (lv_at hl 1 rfl) ?_
        replace hrun := hnew_some hrun
        obtain ⟨h29, dn29, ds29, eh29, hrun, en29, es29⟩ := hrun
        refine h_new S (fun w q => hT w (i_Row w q)) t_Row t_Row_ok (hT _ cl_Definition_9) (hT _ in_Row) (hT _ it_Row) hK (ci := 8) rfl dv_Row hw hS (show cells + 1 ≤ dnZ by omega) (show slots + 3 ≤ dsZ by omega) d_Definition_init_29 (fun H hw hS => ?_)
        rw [← eh29] at hw
        clear eh29
        obtain ⟨nx29, ex29⟩ : ∃ z, z = nx + 1 := ⟨_, rfl⟩
        rw [← ex29] at hw
        try rw [← ex29] at hrun
        replace hcR : (cells + 1) + dn29 = cells + dnb := by omega
        replace hsR : (slots + 3) + ds29 = slots + dsb := by omega
        replace hnR : nx29 + dn29 = nx + dnb := by omega
        clear en29 es29 ex29
        refine lv_dup hx hb d_Definition_init_32 rfl ?_
        refine lv_sipush (v := (200 : Int32)) hx hb d_Definition_init_33 (by decide) ?_
        replace hrun := hbind_some hrun
        obtain ⟨_u36, d36, s36, h36, dn36, ds36, g36, hrun, en36, es36⟩ := hrun
        refine h_cv (h_runI S (As := [.int (200 : Int32)]) (rest := [.ref nx, .int x1, va_rf v25]) (c_Row_init l D dA b0 nx (200 : Int32) nx29 g36) (cwI 1 S.2.2.2.2 (h_good [] (fun _ q => absurd q List.not_mem_nil) cd_Row_init) rfl rfl rfl (S.2.2.2.2 _ (hT _ it_Row)) (S.2.2.2.2 _ (hT _ ml_Definition_17)) (S.2.2.2.2 _ (hT _ im_Row_init)) rfl (by decide +kernel) ⟨Nat.le_of_ble_eq_true rfl, Nat.le_of_ble_eq_true rfl⟩) hK hN hw rfl hl.1 (lv_room (by simp only [List.map, List.sum_cons, List.sum_nil, h_cat]; exact Nat.le_of_ble_eq_true rfl)) d_Definition_init_36 ⟨show (cells + 1) + d36 ≤ dnZ by omega, show (slots + 3) + s36 ≤ dsZ by omega⟩) hS (fun H locs hw hS => ?_)
        obtain ⟨nx36, ex36⟩ : ∃ z, z = nx29 + d36 := ⟨_, rfl⟩
        rw [← ex36] at hw
        try rw [← ex36] at hrun
        replace hcR : ((cells + 1) + d36) + dn36 = cells + dnb := by omega
        replace hsR : ((slots + 3) + s36) + ds36 = slots + dsb := by omega
        replace hnR : nx36 + dn36 = nx + dnb := by omega
        clear en36 es36 ex36
        replace hrun := hb_some hrun
        obtain ⟨p39, rfl, hrun⟩ := hrun
        replace hrun := hb_some hrun
        obtain ⟨c39, k39, hrun⟩ := hrun
        replace hrun := hb_some hrun
        obtain ⟨h39, g39, hrun⟩ := hrun
        refine h_aast S hK (kd := 3) (ci := 8) (r := (R_Row, F_Row, 3)) rfl rfl hw hS (hObj_spec k39) g39 d_Definition_init_39 (fun H locs hw hS => ?_)
        refine lv_iinc (v := (x1 + (1 : Int32))) (lv' := [(1, .int (x1 + (1 : Int32))), (0, .ref a0)]) hx hb d_Definition_init_40 hl (k := 1) rfl rfl (by decide) rfl (fun ls hl => ?_)
        refine lv_goto (tgt := 15) hx hb d_Definition_init_43 (by decide) ?_
        cases hrun
        rw [show nx36 = nx + dnb by omega] at hw
        exact W.widen (by omega) (by omega) (K0 (x1 + (1 : Int32)) rfl H locs ls hw hS (lv_sub hl [1, 0] rfl))
  unfold f_Definition_init at hrun
  refine lv_aload_n hx hb d_Definition_init_0 rfl (lv_at hl 0 rfl) ?_
  refine W.objInit hx hb S.2.2.2.1 (S.2.2.2.2 _ (hT _ ml_Definition_3)) (S.2.2.2.2 _ (hT _ k_objinst)) (S.2.2.2.2 _ (hT _ k_objcode)) rfl (by rw [hml]; exact hl.1) rfl d_Definition_init_1 (Nat.le_of_ble_eq_true rfl) (Nat.le_of_ble_eq_true rfl) ?_
  refine W.eq (g2 := F0 m 4 ls []) rfl ?_
  refine lv_aload_n hx hb d_Definition_init_4 rfl (lv_at hl 0 rfl) ?_
  refine lv_bipush (v := (10 : Int32)) hx hb d_Definition_init_5 (by decide) ?_
  replace hrun := hnew_some hrun
  obtain ⟨h7, dn7, ds7, eh7, hrun, en7, es7⟩ := hrun
  refine h_newqc S (hT _ cl_Definition_9) (hN.2.1 _ ao_1) hK (kd := 3) rfl hw hS (N := 10) (by decide) (by decide) (by decide) (show 0 + 1 ≤ dnZ by omega) (show 0 + 10 ≤ dsZ by omega) d_Definition_init_7 (fun H hw hS => ?_)
  rw [← eh7] at hw
  clear eh7
  obtain ⟨nx7, ex7⟩ : ∃ z, z = nx + 1 := ⟨_, rfl⟩
  rw [← ex7] at hw
  try rw [← ex7] at hrun
  replace hcR : (0 + 1) + dn7 = dnZ := by omega
  replace hsR : (0 + 10) + ds7 = dsZ := by omega
  replace hnR : nx7 + dn7 = nxZ + dnZ := by omega
  clear en7 es7 ex7
  replace hrun := hb_some hrun
  obtain ⟨h10, g10, hrun⟩ := hrun
  refine h_putF S (fun w q => hT w (i_Definition w q)) t_Definition t_Definition_ok n_Definition hK (ci := 4) rfl 0 (by decide) (hT _ fl_Definition_11) rfl hin rfl rfl rfl hw hS g10 d_Definition_init_10 (fun H locs hw hS => ?_)
  refine lv_iconst (v := (0 : Int32)) hx hb d_Definition_init_13 (by decide) ?_
  refine lv_istore_n (lv' := [(1, .int (0 : Int32)), (0, .ref a0)]) hx hb d_Definition_init_14 rfl hl (by decide) rfl (fun ls hl => ?_)
  replace hrun := hbind_some hrun
  obtain ⟨b15, d15, s15, h15l, dn15, ds15, g15, hrun, en15, es15⟩ := hrun
  refine l_15 n (0 : Int32) (0 + 1) (0 + 10) _ _ nx7 h10 _ _ _ _ _ g15 (by omega) (by omega) hw hS (lv_sub hl [1, 0] rfl) ?_
  · rintro  eq9 H locs ls hw hS hl
    obtain rfl := eq9.symm
    obtain ⟨nx15l, ex15⟩ : ∃ z, z = nx7 + d15 := ⟨_, rfl⟩
    rw [← ex15] at hw
    try rw [← ex15] at hrun
    replace hcR : ((0 + 1) + d15) + dn15 = dnZ := by omega
    replace hsR : ((0 + 10) + s15) + ds15 = dsZ := by omega
    replace hnR : nx15l + dn15 = nxZ + dnZ := by omega
    clear en15 es15 ex15
    try dsimp only at hrun
    refine lv_aload_n hx hb d_Definition_init_46 rfl (lv_at hl 0 rfl) ?_
    replace hrun := hnew_some hrun
    obtain ⟨h47, dn47, ds47, eh47, hrun, en47, es47⟩ := hrun
    refine h_new S (fun w q => hT w (i_Row w q)) t_Row t_Row_ok (hT _ cl_Definition_9) (hT _ in_Row) (hT _ it_Row) hK (ci := 8) rfl dv_Row hw hS (show ((0 + 1) + d15) + 1 ≤ dnZ by omega) (show ((0 + 10) + s15) + 3 ≤ dsZ by omega) d_Definition_init_47 (fun H hw hS => ?_)
    rw [← eh47] at hw
    clear eh47
    obtain ⟨nx47, ex47⟩ : ∃ z, z = nx15l + 1 := ⟨_, rfl⟩
    rw [← ex47] at hw
    try rw [← ex47] at hrun
    replace hcR : (((0 + 1) + d15) + 1) + dn47 = dnZ := by omega
    replace hsR : (((0 + 10) + s15) + 3) + ds47 = dsZ := by omega
    replace hnR : nx47 + dn47 = nxZ + dnZ := by omega
    clear en47 es47 ex47
    refine lv_dup hx hb d_Definition_init_50 rfl ?_
    refine lv_sipush (v := (200 : Int32)) hx hb d_Definition_init_51 (by decide) ?_
    replace hrun := hbind_some hrun
    obtain ⟨_u54, d54, s54, h54, dn54, ds54, g54, hrun, en54, es54⟩ := hrun
    refine h_cv (h_runI S (As := [.int (200 : Int32)]) (rest := [.ref nx15l, .ref a0]) (c_Row_init l D dA b0 nx15l (200 : Int32) nx47 g54) (cwI 1 S.2.2.2.2 (h_good [] (fun _ q => absurd q List.not_mem_nil) cd_Row_init) rfl rfl rfl (S.2.2.2.2 _ (hT _ it_Row)) (S.2.2.2.2 _ (hT _ ml_Definition_17)) (S.2.2.2.2 _ (hT _ im_Row_init)) rfl (by decide +kernel) ⟨Nat.le_of_ble_eq_true rfl, Nat.le_of_ble_eq_true rfl⟩) hK hN hw rfl hl.1 (lv_room (Nat.le_of_ble_eq_true rfl)) d_Definition_init_54 ⟨show (((0 + 1) + d15) + 1) + d54 ≤ dnZ by omega, show (((0 + 10) + s15) + 3) + s54 ≤ dsZ by omega⟩) hS (fun H locs hw hS => ?_)
    obtain ⟨nx54, ex54⟩ : ∃ z, z = nx47 + d54 := ⟨_, rfl⟩
    rw [← ex54] at hw
    try rw [← ex54] at hrun
    replace hcR : ((((0 + 1) + d15) + 1) + d54) + dn54 = dnZ := by omega
    replace hsR : ((((0 + 10) + s15) + 3) + s54) + ds54 = dsZ := by omega
    replace hnR : nx54 + dn54 = nxZ + dnZ := by omega
    clear en54 es54 ex54
    replace hrun := hb_some hrun
    obtain ⟨h57, g57, hrun⟩ := hrun
    refine h_putF S (fun w q => hT w (i_Definition w q)) t_Definition t_Definition_ok n_Definition hK (ci := 4) rfl 1 (by decide) (hT _ fl_Definition_20) rfl hin rfl rfl rfl hw hS g57 d_Definition_init_57 (fun H locs hw hS => ?_)
    refine lv_aload_n hx hb d_Definition_init_60 rfl (lv_at hl 0 rfl) ?_
    refine lv_iconst (v := (0 : Int32)) hx hb d_Definition_init_61 (by decide) ?_
    replace hrun := hb_some hrun
    obtain ⟨h62, g62, hrun⟩ := hrun
    refine h_put S (fun w q => hT w (i_Definition w q)) t_Definition t_Definition_ok n_Definition hK (ci := 4) rfl 2 (by decide) (hT _ fl_Definition_24) rfl rfl rfl hw hS g62 d_Definition_init_62 (fun H locs hw hS => ?_)
    cases hrun
    refine W.widen (k := dnZ) (n := dsZ) (by omega) (by omega) ?_
    rw [show nx54 = nxZ + dnZ by omega] at hw
    exact W.vret hx hb hr (fun t ht hW9 => ⟨⟨(), rfl, trivial, by show hW D dA classes b0 _ _ t.heap; rw [ht]; exact hw⟩, hS.F ht⟩) hS.2.2 d_Definition_init_65
set_option maxHeartbeats 4000000 in
set_option maxRecDepth 100000 in
theorem c_Whole_init (l : Launch) (D : va_G) (dA : Nat → ClassId) (b0 : Nat) (n : Nat) (a0 : Nat) (a1 : Nat) (a2 : Nat) (a3 : Nat) (nxZ : Nat) {h h' : hH} {r : Unit} {dnZ dsZ : Nat} (hrun : f_Whole_init n a0 a1 a2 a3 nxZ h = some (r, dnZ, dsZ, h')) : Met l y_Whole_init w_Whole_init ({ frames := 3, cells := dnZ, slots := dsZ, locals := 62 } : Room) (va_Pc [.ref a0, .ref a1, .ref a2, .ref a3] (hB D dA b0 nxZ h)) (va_Qv (fun (_ : Unit) => True) (fun (_ : Unit) t => hW D dA classes b0 (nxZ + dnZ) h' t.heap) (hA b0)) dnZ dsZ (hA b0) := by
  refine Met.ofW (cc := b_Whole_init) (maxL := 4) (ret := none) (by decide) rfl ?_
  intro p e s m args below meth c s₁ B hml hv
  obtain ⟨rfl, hw, hK, hN⟩ := hv
  have hx := B.exec
  have hb := B.bytes
  have hr := B.returns
  have hlocks := B.notSynchronized
  have hin : meth.name = "<init>" := (name_of_methodNamed B.named B.method).1
  have S : CallFix p m c b_Whole_init 4 s ([.ref a0, .ref a1, .ref a2, .ref a3] : List Value).toArray w_Whole_init R_Whole := ⟨hx, hb, hml, findClass_of_methodNamed B.named, atoms_spec (ws := w_Whole_init) B.pre⟩
  have hT : ∀ w ∈ tbl, w ∈ w_Whole_init := fun _ q => List.mem_cons_of_mem _ q
  have hS : va_S (hA b0) s.heap s.heap [] := va_S.rf
  have hl := lv_entry ([.ref a0, .ref a1, .ref a2, .ref a3]) (n := 4) (Nat.le_of_ble_eq_true rfl)
  rw [lg_entry_eq]
  generalize (lg_sl ([.ref a0, .ref a1, .ref a2, .ref a3]) ++ List.replicate (4 - (lg_sl ([.ref a0, .ref a1, .ref a2, .ref a3])).length) Slot.unset).toArray = ls at hl ⊢
  have hl : lv_has ls 4 [(0, .ref a0), (1, .ref a1), (2, .ref a2), (3, .ref a3)] := hl
  obtain ⟨dn, edn⟩ : ∃ z, z = dnZ := ⟨_, rfl⟩
  obtain ⟨ds, eds⟩ : ∃ z, z = dsZ := ⟨_, rfl⟩
  obtain ⟨nx, enx⟩ : ∃ z, z = nxZ := ⟨_, rfl⟩
  rw [← edn, ← eds, ← enx] at hrun
  rw [← enx] at hw
  have hcR : 0 + dn = dnZ := by omega
  have hsR : 0 + ds = dsZ := by omega
  have hnR : nx + dn = nxZ + dnZ := by omega
  clear edn eds enx
  unfold f_Whole_init at hrun
  refine lv_aload_n hx hb d_Whole_init_0 rfl (lv_at hl 0 rfl) ?_
  refine W.objInit hx hb S.2.2.2.1 (S.2.2.2.2 _ (hT _ ml_Whole_3)) (S.2.2.2.2 _ (hT _ k_objinst)) (S.2.2.2.2 _ (hT _ k_objcode)) rfl (by rw [hml]; exact hl.1) rfl d_Whole_init_1 (Nat.le_of_ble_eq_true rfl) (Nat.le_of_ble_eq_true rfl) ?_
  refine W.eq (g2 := F0 m 4 ls []) rfl ?_
  refine lv_aload_n hx hb d_Whole_init_4 rfl (lv_at hl 0 rfl) ?_
  refine lv_aload_n hx hb d_Whole_init_5 rfl (lv_at hl 1 rfl) ?_
  replace hrun := hb_some hrun
  obtain ⟨h6, g6, hrun⟩ := hrun
  refine h_putF S (fun w q => hT w (i_Whole w q)) t_Whole t_Whole_ok n_Whole hK (ci := 11) rfl 0 (by decide) (hT _ fl_Whole_9) rfl hin rfl rfl rfl hw hS g6 d_Whole_init_6 (fun H locs hw hS => ?_)
  refine lv_aload_n hx hb d_Whole_init_9 rfl (lv_at hl 0 rfl) ?_
  refine lv_aload_n hx hb d_Whole_init_10 rfl (lv_at hl 2 rfl) ?_
  replace hrun := hb_some hrun
  obtain ⟨h11, g11, hrun⟩ := hrun
  refine h_putF S (fun w q => hT w (i_Whole w q)) t_Whole t_Whole_ok n_Whole hK (ci := 11) rfl 1 (by decide) (hT _ fl_Whole_15) rfl hin rfl rfl rfl hw hS g11 d_Whole_init_11 (fun H locs hw hS => ?_)
  refine lv_aload_n hx hb d_Whole_init_14 rfl (lv_at hl 0 rfl) ?_
  refine lv_aload_n hx hb d_Whole_init_15 rfl (lv_at hl 3 rfl) ?_
  replace hrun := hb_some hrun
  obtain ⟨h16, g16, hrun⟩ := hrun
  refine h_putF S (fun w q => hT w (i_Whole w q)) t_Whole t_Whole_ok n_Whole hK (ci := 11) rfl 2 (by decide) (hT _ fl_Whole_19) rfl hin rfl rfl rfl hw hS g16 d_Whole_init_16 (fun H locs hw hS => ?_)
  refine lv_aload_n hx hb d_Whole_init_19 rfl (lv_at hl 0 rfl) ?_
  replace hrun := hnew_some hrun
  obtain ⟨h20, dn20, ds20, eh20, hrun, en20, es20⟩ := hrun
  refine h_new S (fun w q => hT w (i_Definition w q)) t_Definition t_Definition_ok (hT _ cl_Whole_23) (hT _ in_Definition) (hT _ it_Definition) hK (ci := 4) rfl dv_Definition hw hS (show 0 + 1 ≤ dnZ by omega) (show 0 + 7 ≤ dsZ by omega) d_Whole_init_20 (fun H hw hS => ?_)
  rw [← eh20] at hw
  clear eh20
  obtain ⟨nx20, ex20⟩ : ∃ z, z = nx + 1 := ⟨_, rfl⟩
  rw [← ex20] at hw
  try rw [← ex20] at hrun
  replace hcR : (0 + 1) + dn20 = dnZ := by omega
  replace hsR : (0 + 7) + ds20 = dsZ := by omega
  replace hnR : nx20 + dn20 = nxZ + dnZ := by omega
  clear en20 es20 ex20
  refine lv_dup hx hb d_Whole_init_23 rfl ?_
  replace hrun := hbind_some hrun
  obtain ⟨_u24, d24, s24, h24, dn24, ds24, g24, hrun, en24, es24⟩ := hrun
  refine h_cv (h_runI S (As := []) (rest := [.ref nx, .ref a0]) (c_Definition_init l D dA b0 n nx nx20 g24) (cwI 0 S.2.2.2.2 (h_good [] (fun _ q => absurd q List.not_mem_nil) cd_Definition_init) rfl rfl rfl (S.2.2.2.2 _ (hT _ it_Definition)) (S.2.2.2.2 _ (hT _ ml_Whole_25)) (S.2.2.2.2 _ (hT _ im_Definition_init)) rfl (by decide +kernel) ⟨Nat.le_of_ble_eq_true rfl, Nat.le_of_ble_eq_true rfl⟩) hK hN hw rfl hl.1 (lv_room (Nat.le_of_ble_eq_true rfl)) d_Whole_init_24 ⟨show (0 + 1) + d24 ≤ dnZ by omega, show (0 + 7) + s24 ≤ dsZ by omega⟩) hS (fun H locs hw hS => ?_)
  obtain ⟨nx24, ex24⟩ : ∃ z, z = nx20 + d24 := ⟨_, rfl⟩
  rw [← ex24] at hw
  try rw [← ex24] at hrun
  replace hcR : ((0 + 1) + d24) + dn24 = dnZ := by omega
  replace hsR : ((0 + 7) + s24) + ds24 = dsZ := by omega
  replace hnR : nx24 + dn24 = nxZ + dnZ := by omega
  clear en24 es24 ex24
  replace hrun := hb_some hrun
  obtain ⟨h27, g27, hrun⟩ := hrun
  refine h_putF S (fun w q => hT w (i_Whole w q)) t_Whole t_Whole_ok n_Whole hK (ci := 11) rfl 3 (by decide) (hT _ fl_Whole_26) rfl hin rfl rfl rfl hw hS g27 d_Whole_init_27 (fun H locs hw hS => ?_)
  refine lv_aload_n hx hb d_Whole_init_30 rfl (lv_at hl 0 rfl) ?_
  replace hrun := hnew_some hrun
  obtain ⟨h31, dn31, ds31, eh31, hrun, en31, es31⟩ := hrun
  refine h_new S (fun w q => hT w (i_Row w q)) t_Row t_Row_ok (hT _ cl_Whole_30) (hT _ in_Row) (hT _ it_Row) hK (ci := 8) rfl dv_Row hw hS (show ((0 + 1) + d24) + 1 ≤ dnZ by omega) (show ((0 + 7) + s24) + 3 ≤ dsZ by omega) d_Whole_init_31 (fun H hw hS => ?_)
  rw [← eh31] at hw
  clear eh31
  obtain ⟨nx31, ex31⟩ : ∃ z, z = nx24 + 1 := ⟨_, rfl⟩
  rw [← ex31] at hw
  try rw [← ex31] at hrun
  replace hcR : (((0 + 1) + d24) + 1) + dn31 = dnZ := by omega
  replace hsR : (((0 + 7) + s24) + 3) + ds31 = dsZ := by omega
  replace hnR : nx31 + dn31 = nxZ + dnZ := by omega
  clear en31 es31 ex31
  refine lv_dup hx hb d_Whole_init_34 rfl ?_
  refine lv_sipush (v := (3000 : Int32)) hx hb d_Whole_init_35 (by decide) ?_
  replace hrun := hbind_some hrun
  obtain ⟨_u38, d38, s38, h38, dn38, ds38, g38, hrun, en38, es38⟩ := hrun
  refine h_cv (h_runI S (As := [.int (3000 : Int32)]) (rest := [.ref nx24, .ref a0]) (c_Row_init l D dA b0 nx24 (3000 : Int32) nx31 g38) (cwI 1 S.2.2.2.2 (h_good [] (fun _ q => absurd q List.not_mem_nil) cd_Row_init) rfl rfl rfl (S.2.2.2.2 _ (hT _ it_Row)) (S.2.2.2.2 _ (hT _ ml_Whole_32)) (S.2.2.2.2 _ (hT _ im_Row_init)) rfl (by decide +kernel) ⟨Nat.le_of_ble_eq_true rfl, Nat.le_of_ble_eq_true rfl⟩) hK hN hw rfl hl.1 (lv_room (Nat.le_of_ble_eq_true rfl)) d_Whole_init_38 ⟨show (((0 + 1) + d24) + 1) + d38 ≤ dnZ by omega, show (((0 + 7) + s24) + 3) + s38 ≤ dsZ by omega⟩) hS (fun H locs hw hS => ?_)
  obtain ⟨nx38, ex38⟩ : ∃ z, z = nx31 + d38 := ⟨_, rfl⟩
  rw [← ex38] at hw
  try rw [← ex38] at hrun
  replace hcR : ((((0 + 1) + d24) + 1) + d38) + dn38 = dnZ := by omega
  replace hsR : ((((0 + 7) + s24) + 3) + s38) + ds38 = dsZ := by omega
  replace hnR : nx38 + dn38 = nxZ + dnZ := by omega
  clear en38 es38 ex38
  replace hrun := hb_some hrun
  obtain ⟨h41, g41, hrun⟩ := hrun
  refine h_putF S (fun w q => hT w (i_Whole w q)) t_Whole t_Whole_ok n_Whole hK (ci := 11) rfl 4 (by decide) (hT _ fl_Whole_35) rfl hin rfl rfl rfl hw hS g41 d_Whole_init_41 (fun H locs hw hS => ?_)
  refine lv_aload_n hx hb d_Whole_init_44 rfl (lv_at hl 0 rfl) ?_
  refine lv_iconst (v := (0 : Int32)) hx hb d_Whole_init_45 (by decide) ?_
  replace hrun := hb_some hrun
  obtain ⟨h46, g46, hrun⟩ := hrun
  refine h_put S (fun w q => hT w (i_Whole w q)) t_Whole t_Whole_ok n_Whole hK (ci := 11) rfl 5 (by decide) (hT _ fl_Whole_39) rfl rfl rfl hw hS g46 d_Whole_init_46 (fun H locs hw hS => ?_)
  refine lv_aload_n hx hb d_Whole_init_49 rfl (lv_at hl 0 rfl) ?_
  refine lv_iconst (v := (-1 : Int32)) hx hb d_Whole_init_50 (by decide) ?_
  replace hrun := hb_some hrun
  obtain ⟨h51, g51, hrun⟩ := hrun
  refine h_put S (fun w q => hT w (i_Whole w q)) t_Whole t_Whole_ok n_Whole hK (ci := 11) rfl 6 (by decide) (hT _ fl_Whole_43) rfl rfl rfl hw hS g51 d_Whole_init_51 (fun H locs hw hS => ?_)
  cases hrun
  refine W.widen (k := dnZ) (n := dsZ) (by omega) (by omega) ?_
  rw [show nx38 = nxZ + dnZ by omega] at hw
  exact W.vret hx hb hr (fun t ht hW9 => ⟨⟨(), rfl, trivial, by show hW D dA classes b0 _ _ t.heap; rw [ht]; exact hw⟩, hS.F ht⟩) hS.2.2 d_Whole_init_54
set_option maxHeartbeats 4000000 in
set_option maxRecDepth 100000 in
theorem c_MacroExpand_init (l : Launch) (D : va_G) (dA : Nat → ClassId) (b0 : Nat) (n : Nat) (a0 : Nat) (i1 : Int64) (nxZ : Nat) {h h' : hH} {r : Unit} {dnZ dsZ : Nat} (hrun : f_MacroExpand_init n a0 i1 nxZ h = some (r, dnZ, dsZ, h')) : Met l y_MacroExpand_init w_MacroExpand_init ({ frames := 4, cells := dnZ, slots := dsZ, locals := 88 } : Room) (va_Pc [.ref a0, .long i1] (hB D dA b0 nxZ h)) (va_Qv (fun (_ : Unit) => True) (fun (_ : Unit) t => hW D dA classes b0 (nxZ + dnZ) h' t.heap) (hA b0)) dnZ dsZ (hA b0) := by
  refine Met.ofW (cc := b_MacroExpand_init) (maxL := 4) (ret := none) (by decide) rfl ?_
  intro p e s m args below meth c s₁ B hml hv
  obtain ⟨rfl, hw, hK, hN⟩ := hv
  have hx := B.exec
  have hb := B.bytes
  have hr := B.returns
  have hlocks := B.notSynchronized
  have hin : meth.name = "<init>" := (name_of_methodNamed B.named B.method).1
  have S : CallFix p m c b_MacroExpand_init 4 s ([.ref a0, .long i1] : List Value).toArray w_MacroExpand_init R_MacroExpand := ⟨hx, hb, hml, findClass_of_methodNamed B.named, atoms_spec (ws := w_MacroExpand_init) B.pre⟩
  have hT : ∀ w ∈ tbl, w ∈ w_MacroExpand_init := fun _ q => List.mem_cons_of_mem _ q
  have hS : va_S (hA b0) s.heap s.heap [] := va_S.rf
  have hl := lv_entry ([.ref a0, .long i1]) (n := 4) (Nat.le_of_ble_eq_true rfl)
  rw [lg_entry_eq]
  generalize (lg_sl ([.ref a0, .long i1]) ++ List.replicate (4 - (lg_sl ([.ref a0, .long i1])).length) Slot.unset).toArray = ls at hl ⊢
  have hl : lv_has ls 4 [(0, .ref a0), (1, .long i1)] := hl
  obtain ⟨dn, edn⟩ : ∃ z, z = dnZ := ⟨_, rfl⟩
  obtain ⟨ds, eds⟩ : ∃ z, z = dsZ := ⟨_, rfl⟩
  obtain ⟨nx, enx⟩ : ∃ z, z = nxZ := ⟨_, rfl⟩
  rw [← edn, ← eds, ← enx] at hrun
  rw [← enx] at hw
  have hcR : 0 + dn = dnZ := by omega
  have hsR : 0 + ds = dsZ := by omega
  have hnR : nx + dn = nxZ + dnZ := by omega
  clear edn eds enx
  unfold f_MacroExpand_init at hrun
  refine lv_aload_n hx hb d_MacroExpand_init_0 rfl (lv_at hl 0 rfl) ?_
  refine W.objInit hx hb S.2.2.2.1 (S.2.2.2.2 _ (hT _ ml_MacroExpand_1)) (S.2.2.2.2 _ (hT _ k_objinst)) (S.2.2.2.2 _ (hT _ k_objcode)) rfl (by rw [hml]; exact hl.1) rfl d_MacroExpand_init_1 (Nat.le_of_ble_eq_true rfl) (Nat.le_of_ble_eq_true rfl) ?_
  refine W.eq (g2 := F0 m 4 ls []) rfl ?_
  refine lv_lconst (v := (1 : Int64)) hx hb d_MacroExpand_init_4 (by decide) ?_
  refine lv_ldc2 hx hb S.2.2.2.1 (S.2.2.2.2 _ (hT _ ct_MacroExpand_9)) d_MacroExpand_init_5 ?_
  refine lv_lload_n hx hb d_MacroExpand_init_8 rfl (lv_at hl 1 rfl) ?_
  refine va_mmin_long hx hb (by rw [hml]; exact hl.1.symm) S.2.2.2.1 (S.2.2.2.2 _ (hT _ ml_MacroExpand_11)) (S.2.2.2.2 _ (hT _ sm_mmin_long)) (S.2.2.2.2 _ (hT _ it_Math)) (S.2.2.2.2 _ (hT _ cd_mmin_long)) (Nat.le_of_ble_eq_true rfl) (Nat.le_of_ble_eq_true rfl) (show 0 ≤ dnZ by omega) (show 0 ≤ dsZ by omega) d_MacroExpand_init_9 ?_
  refine va_mmax_long hx hb (by rw [hml]; exact hl.1.symm) S.2.2.2.1 (S.2.2.2.2 _ (hT _ ml_MacroExpand_17)) (S.2.2.2.2 _ (hT _ sm_mmax_long)) (S.2.2.2.2 _ (hT _ it_Math)) (S.2.2.2.2 _ (hT _ cd_mmax_long)) (Nat.le_of_ble_eq_true rfl) (Nat.le_of_ble_eq_true rfl) (show 0 ≤ dnZ by omega) (show 0 ≤ dsZ by omega) d_MacroExpand_init_12 ?_
  refine lv_l2i hx hb d_MacroExpand_init_15 rfl ?_
  refine lv_istore_n (lv' := [(3, .int ((if (if i1 < (20000 : Int64) then i1 else (20000 : Int64)) < (1 : Int64) then (1 : Int64) else (if i1 < (20000 : Int64) then i1 else (20000 : Int64))).toInt32)), (0, .ref a0), (1, .long i1)]) hx hb d_MacroExpand_init_16 rfl hl (by decide) rfl (fun ls hl => ?_)
  refine lv_aload_n hx hb d_MacroExpand_init_17 rfl (lv_at hl 1 rfl) ?_
  replace hrun := hnew_some hrun
  obtain ⟨h18, dn18, ds18, eh18, hrun, en18, es18⟩ := hrun
  refine h_new S (fun w q => hT w (i_Book w q)) t_Book t_Book_ok (hT _ cl_MacroExpand_20) (hT _ in_Book) (hT _ it_Book) hK (ci := 3) rfl dv_Book hw hS (show 0 + 1 ≤ dnZ by omega) (show 0 + 5 ≤ dsZ by omega) d_MacroExpand_init_18 (fun H hw hS => ?_)
  rw [← eh18] at hw
  clear eh18
  obtain ⟨nx18, ex18⟩ : ∃ z, z = nx + 1 := ⟨_, rfl⟩
  rw [← ex18] at hw
  try rw [← ex18] at hrun
  replace hcR : (0 + 1) + dn18 = dnZ := by omega
  replace hsR : (0 + 5) + ds18 = dsZ := by omega
  replace hnR : nx18 + dn18 = nxZ + dnZ := by omega
  clear en18 es18 ex18
  refine lv_dup hx hb d_MacroExpand_init_21 rfl ?_
  replace hrun := hbind_some hrun
  obtain ⟨_u22, d22, s22, h22, dn22, ds22, g22, hrun, en22, es22⟩ := hrun
  refine h_cv (h_runI S (As := []) (rest := [.ref nx, .ref a0]) (c_Book_init l D dA b0 n nx nx18 g22) (cwI 0 S.2.2.2.2 (h_good [] (fun _ q => absurd q List.not_mem_nil) cd_Book_init) rfl rfl rfl (S.2.2.2.2 _ (hT _ it_Book)) (S.2.2.2.2 _ (hT _ ml_MacroExpand_22)) (S.2.2.2.2 _ (hT _ im_Book_init)) rfl (by decide +kernel) ⟨Nat.le_of_ble_eq_true rfl, Nat.le_of_ble_eq_true rfl⟩) hK hN hw rfl hl.1 (lv_room (Nat.le_of_ble_eq_true rfl)) d_MacroExpand_init_22 ⟨show (0 + 1) + d22 ≤ dnZ by omega, show (0 + 5) + s22 ≤ dsZ by omega⟩) hS (fun H locs hw hS => ?_)
  obtain ⟨nx22, ex22⟩ : ∃ z, z = nx18 + d22 := ⟨_, rfl⟩
  rw [← ex22] at hw
  try rw [← ex22] at hrun
  replace hcR : ((0 + 1) + d22) + dn22 = dnZ := by omega
  replace hsR : ((0 + 5) + s22) + ds22 = dsZ := by omega
  replace hnR : nx22 + dn22 = nxZ + dnZ := by omega
  clear en22 es22 ex22
  replace hrun := hb_some hrun
  obtain ⟨h25, g25, hrun⟩ := hrun
  refine h_putF S (fun w q => hT w (i_MacroExpand w q)) t_MacroExpand t_MacroExpand_ok n_MacroExpand hK (ci := 0) rfl 0 (by decide) (hT _ fl_MacroExpand_23) rfl hin rfl rfl rfl hw hS g25 d_MacroExpand_init_25 (fun H locs hw hS => ?_)
  refine lv_aload_n hx hb d_MacroExpand_init_28 rfl (lv_at hl 1 rfl) ?_
  replace hrun := hnew_some hrun
  obtain ⟨h29, dn29, ds29, eh29, hrun, en29, es29⟩ := hrun
  refine h_new S (fun w q => hT w (i_Spelling w q)) t_Spelling t_Spelling_ok (hT _ cl_MacroExpand_27) (hT _ in_Spelling) (hT _ it_Spelling) hK (ci := 9) rfl dv_Spelling hw hS (show ((0 + 1) + d22) + 1 ≤ dnZ by omega) (show ((0 + 5) + s22) + 3 ≤ dsZ by omega) d_MacroExpand_init_29 (fun H hw hS => ?_)
  rw [← eh29] at hw
  clear eh29
  obtain ⟨nx29, ex29⟩ : ∃ z, z = nx22 + 1 := ⟨_, rfl⟩
  rw [← ex29] at hw
  try rw [← ex29] at hrun
  replace hcR : (((0 + 1) + d22) + 1) + dn29 = dnZ := by omega
  replace hsR : (((0 + 5) + s22) + 3) + ds29 = dsZ := by omega
  replace hnR : nx29 + dn29 = nxZ + dnZ := by omega
  clear en29 es29 ex29
  refine lv_dup hx hb d_MacroExpand_init_32 rfl ?_
  replace hrun := hbind_some hrun
  obtain ⟨_u33, d33, s33, h33, dn33, ds33, g33, hrun, en33, es33⟩ := hrun
  refine h_cv (h_runI S (As := []) (rest := [.ref nx22, .ref a0]) (c_Spelling_init l D dA b0 nx22 nx29 g33) (cwI 0 S.2.2.2.2 (h_good [] (fun _ q => absurd q List.not_mem_nil) cd_Spelling_init) rfl rfl rfl (S.2.2.2.2 _ (hT _ it_Spelling)) (S.2.2.2.2 _ (hT _ ml_MacroExpand_29)) (S.2.2.2.2 _ (hT _ im_Spelling_init)) rfl (by decide +kernel) ⟨Nat.le_of_ble_eq_true rfl, Nat.le_of_ble_eq_true rfl⟩) hK hN hw rfl hl.1 (lv_room (Nat.le_of_ble_eq_true rfl)) d_MacroExpand_init_33 ⟨show (((0 + 1) + d22) + 1) + d33 ≤ dnZ by omega, show (((0 + 5) + s22) + 3) + s33 ≤ dsZ by omega⟩) hS (fun H locs hw hS => ?_)
  obtain ⟨nx33, ex33⟩ : ∃ z, z = nx29 + d33 := ⟨_, rfl⟩
  rw [← ex33] at hw
  try rw [← ex33] at hrun
  replace hcR : ((((0 + 1) + d22) + 1) + d33) + dn33 = dnZ := by omega
  replace hsR : ((((0 + 5) + s22) + 3) + s33) + ds33 = dsZ := by omega
  replace hnR : nx33 + dn33 = nxZ + dnZ := by omega
  clear en33 es33 ex33
  replace hrun := hb_some hrun
  obtain ⟨h36, g36, hrun⟩ := hrun
  refine h_putF S (fun w q => hT w (i_MacroExpand w q)) t_MacroExpand t_MacroExpand_ok n_MacroExpand hK (ci := 0) rfl 1 (by decide) (hT _ fl_MacroExpand_30) rfl hin rfl rfl rfl hw hS g36 d_MacroExpand_init_36 (fun H locs hw hS => ?_)
  refine lv_aload_n hx hb d_MacroExpand_init_39 rfl (lv_at hl 1 rfl) ?_
  replace hrun := hnew_some hrun
  obtain ⟨h40, dn40, ds40, eh40, hrun, en40, es40⟩ := hrun
  refine h_new S (fun w q => hT w (i_Input w q)) t_Input t_Input_ok (hT _ cl_MacroExpand_34) (hT _ in_Input) (hT _ it_Input) hK (ci := 6) rfl dv_Input hw hS (show ((((0 + 1) + d22) + 1) + d33) + 1 ≤ dnZ by omega) (show ((((0 + 5) + s22) + 3) + s33) + 2 ≤ dsZ by omega) d_MacroExpand_init_40 (fun H hw hS => ?_)
  rw [← eh40] at hw
  clear eh40
  obtain ⟨nx40, ex40⟩ : ∃ z, z = nx33 + 1 := ⟨_, rfl⟩
  rw [← ex40] at hw
  try rw [← ex40] at hrun
  replace hcR : (((((0 + 1) + d22) + 1) + d33) + 1) + dn40 = dnZ := by omega
  replace hsR : (((((0 + 5) + s22) + 3) + s33) + 2) + ds40 = dsZ := by omega
  replace hnR : nx40 + dn40 = nxZ + dnZ := by omega
  clear en40 es40 ex40
  refine lv_dup hx hb d_MacroExpand_init_43 rfl ?_
  replace hrun := hbind_some hrun
  obtain ⟨_u44, d44, s44, h44, dn44, ds44, g44, hrun, en44, es44⟩ := hrun
  refine h_cv (h_runI S (As := []) (rest := [.ref nx33, .ref a0]) (c_Input_init l D dA b0 nx33 nx40 g44) (cwI 0 S.2.2.2.2 (h_good [] (fun _ q => absurd q List.not_mem_nil) cd_Input_init) rfl rfl rfl (S.2.2.2.2 _ (hT _ it_Input)) (S.2.2.2.2 _ (hT _ ml_MacroExpand_36)) (S.2.2.2.2 _ (hT _ im_Input_init)) rfl (by decide +kernel) ⟨Nat.le_of_ble_eq_true rfl, Nat.le_of_ble_eq_true rfl⟩) hK hN hw rfl hl.1 (lv_room (Nat.le_of_ble_eq_true rfl)) d_MacroExpand_init_44 ⟨show (((((0 + 1) + d22) + 1) + d33) + 1) + d44 ≤ dnZ by omega, show (((((0 + 5) + s22) + 3) + s33) + 2) + s44 ≤ dsZ by omega⟩) hS (fun H locs hw hS => ?_)
  obtain ⟨nx44, ex44⟩ : ∃ z, z = nx40 + d44 := ⟨_, rfl⟩
  rw [← ex44] at hw
  try rw [← ex44] at hrun
  replace hcR : ((((((0 + 1) + d22) + 1) + d33) + 1) + d44) + dn44 = dnZ := by omega
  replace hsR : ((((((0 + 5) + s22) + 3) + s33) + 2) + s44) + ds44 = dsZ := by omega
  replace hnR : nx44 + dn44 = nxZ + dnZ := by omega
  clear en44 es44 ex44
  replace hrun := hb_some hrun
  obtain ⟨h47, g47, hrun⟩ := hrun
  refine h_putF S (fun w q => hT w (i_MacroExpand w q)) t_MacroExpand t_MacroExpand_ok n_MacroExpand hK (ci := 0) rfl 2 (by decide) (hT _ fl_MacroExpand_37) rfl hin rfl rfl rfl hw hS g47 d_MacroExpand_init_47 (fun H locs hw hS => ?_)
  refine lv_aload_n hx hb d_MacroExpand_init_50 rfl (lv_at hl 1 rfl) ?_
  replace hrun := hnew_some hrun
  obtain ⟨h51, dn51, ds51, eh51, hrun, en51, es51⟩ := hrun
  refine h_new S (fun w q => hT w (i_Expander w q)) t_Expander t_Expander_ok (hT _ cl_MacroExpand_41) (hT _ in_Expander) (hT _ it_Expander) hK (ci := 5) rfl dv_Expander hw hS (show ((((((0 + 1) + d22) + 1) + d33) + 1) + d44) + 1 ≤ dnZ by omega) (show ((((((0 + 5) + s22) + 3) + s33) + 2) + s44) + 14 ≤ dsZ by omega) d_MacroExpand_init_51 (fun H hw hS => ?_)
  rw [← eh51] at hw
  clear eh51
  obtain ⟨nx51, ex51⟩ : ∃ z, z = nx44 + 1 := ⟨_, rfl⟩
  rw [← ex51] at hw
  try rw [← ex51] at hrun
  replace hcR : (((((((0 + 1) + d22) + 1) + d33) + 1) + d44) + 1) + dn51 = dnZ := by omega
  replace hsR : (((((((0 + 5) + s22) + 3) + s33) + 2) + s44) + 14) + ds51 = dsZ := by omega
  replace hnR : nx51 + dn51 = nxZ + dnZ := by omega
  clear en51 es51 ex51
  refine lv_dup hx hb d_MacroExpand_init_54 rfl ?_
  refine lv_iload_n hx hb d_MacroExpand_init_55 rfl (lv_at hl 0 rfl) ?_
  refine lv_aload_n hx hb d_MacroExpand_init_56 rfl (lv_at hl 1 rfl) ?_
  replace hrun := hb_some hrun
  obtain ⟨v57, g57, hrun⟩ := hrun
  refine h_getR S (fun w q => hT w (i_MacroExpand w q)) hK (ci := 0) rfl 2 (by decide) (hT _ fl_MacroExpand_37) hw g57 d_MacroExpand_init_57 ?_
  refine lv_aload_n hx hb d_MacroExpand_init_60 rfl (lv_at hl 1 rfl) ?_
  replace hrun := hb_some hrun
  obtain ⟨v61, g61, hrun⟩ := hrun
  refine h_getR S (fun w q => hT w (i_MacroExpand w q)) hK (ci := 0) rfl 0 (by decide) (hT _ fl_MacroExpand_23) hw g61 d_MacroExpand_init_61 ?_
  refine lv_aload_n hx hb d_MacroExpand_init_64 rfl (lv_at hl 1 rfl) ?_
  replace hrun := hb_some hrun
  obtain ⟨v65, g65, hrun⟩ := hrun
  refine h_getR S (fun w q => hT w (i_MacroExpand w q)) hK (ci := 0) rfl 1 (by decide) (hT _ fl_MacroExpand_30) hw g65 d_MacroExpand_init_65 ?_
  replace hrun := hb_some hrun
  obtain ⟨p68_1, rfl, hrun⟩ := hrun
  replace hrun := hb_some hrun
  obtain ⟨p68_2, rfl, hrun⟩ := hrun
  replace hrun := hb_some hrun
  obtain ⟨p68_3, rfl, hrun⟩ := hrun
  replace hrun := hbind_some hrun
  obtain ⟨_u68, d68, s68, h68, dn68, ds68, g68, hrun, en68, es68⟩ := hrun
  refine h_cv (h_runI S (As := [.int ((if (if i1 < (20000 : Int64) then i1 else (20000 : Int64)) < (1 : Int64) then (1 : Int64) else (if i1 < (20000 : Int64) then i1 else (20000 : Int64))).toInt32), .ref p68_1, .ref p68_2, .ref p68_3]) (rest := [.ref nx44, .ref a0]) (c_Expander_init l D dA b0 n nx44 ((if (if i1 < (20000 : Int64) then i1 else (20000 : Int64)) < (1 : Int64) then (1 : Int64) else (if i1 < (20000 : Int64) then i1 else (20000 : Int64))).toInt32) p68_1 p68_2 p68_3 nx51 g68) (cwI 4 S.2.2.2.2 (h_good [] (fun _ q => absurd q List.not_mem_nil) cd_Expander_init) rfl rfl rfl (S.2.2.2.2 _ (hT _ it_Expander)) (S.2.2.2.2 _ (hT _ ml_MacroExpand_43)) (S.2.2.2.2 _ (hT _ im_Expander_init)) rfl (by decide +kernel) ⟨Nat.le_of_ble_eq_true rfl, Nat.le_of_ble_eq_true rfl⟩) hK hN hw rfl hl.1 (lv_room (Nat.le_of_ble_eq_true rfl)) d_MacroExpand_init_68 ⟨show (((((((0 + 1) + d22) + 1) + d33) + 1) + d44) + 1) + d68 ≤ dnZ by omega, show (((((((0 + 5) + s22) + 3) + s33) + 2) + s44) + 14) + s68 ≤ dsZ by omega⟩) hS (fun H locs hw hS => ?_)
  obtain ⟨nx68, ex68⟩ : ∃ z, z = nx51 + d68 := ⟨_, rfl⟩
  rw [← ex68] at hw
  try rw [← ex68] at hrun
  replace hcR : ((((((((0 + 1) + d22) + 1) + d33) + 1) + d44) + 1) + d68) + dn68 = dnZ := by omega
  replace hsR : ((((((((0 + 5) + s22) + 3) + s33) + 2) + s44) + 14) + s68) + ds68 = dsZ := by omega
  replace hnR : nx68 + dn68 = nxZ + dnZ := by omega
  clear en68 es68 ex68
  replace hrun := hb_some hrun
  obtain ⟨h71, g71, hrun⟩ := hrun
  refine h_putF S (fun w q => hT w (i_MacroExpand w q)) t_MacroExpand t_MacroExpand_ok n_MacroExpand hK (ci := 0) rfl 3 (by decide) (hT _ fl_MacroExpand_46) rfl hin rfl rfl rfl hw hS g71 d_MacroExpand_init_71 (fun H locs hw hS => ?_)
  refine lv_aload_n hx hb d_MacroExpand_init_74 rfl (lv_at hl 1 rfl) ?_
  replace hrun := hnew_some hrun
  obtain ⟨h75, dn75, ds75, eh75, hrun, en75, es75⟩ := hrun
  refine h_new S (fun w q => hT w (i_Whole w q)) t_Whole t_Whole_ok (hT _ cl_MacroExpand_50) (hT _ in_Whole) (hT _ it_Whole) hK (ci := 11) rfl dv_Whole hw hS (show ((((((((0 + 1) + d22) + 1) + d33) + 1) + d44) + 1) + d68) + 1 ≤ dnZ by omega) (show ((((((((0 + 5) + s22) + 3) + s33) + 2) + s44) + 14) + s68) + 7 ≤ dsZ by omega) d_MacroExpand_init_75 (fun H hw hS => ?_)
  rw [← eh75] at hw
  clear eh75
  obtain ⟨nx75, ex75⟩ : ∃ z, z = nx68 + 1 := ⟨_, rfl⟩
  rw [← ex75] at hw
  try rw [← ex75] at hrun
  replace hcR : (((((((((0 + 1) + d22) + 1) + d33) + 1) + d44) + 1) + d68) + 1) + dn75 = dnZ := by omega
  replace hsR : (((((((((0 + 5) + s22) + 3) + s33) + 2) + s44) + 14) + s68) + 7) + ds75 = dsZ := by omega
  replace hnR : nx75 + dn75 = nxZ + dnZ := by omega
  clear en75 es75 ex75
  refine lv_dup hx hb d_MacroExpand_init_78 rfl ?_
  refine lv_aload_n hx hb d_MacroExpand_init_79 rfl (lv_at hl 1 rfl) ?_
  replace hrun := hb_some hrun
  obtain ⟨v80, g80, hrun⟩ := hrun
  refine h_getR S (fun w q => hT w (i_MacroExpand w q)) hK (ci := 0) rfl 2 (by decide) (hT _ fl_MacroExpand_37) hw g80 d_MacroExpand_init_80 ?_
  refine lv_aload_n hx hb d_MacroExpand_init_83 rfl (lv_at hl 1 rfl) ?_
  replace hrun := hb_some hrun
  obtain ⟨v84, g84, hrun⟩ := hrun
  refine h_getR S (fun w q => hT w (i_MacroExpand w q)) hK (ci := 0) rfl 0 (by decide) (hT _ fl_MacroExpand_23) hw g84 d_MacroExpand_init_84 ?_
  refine lv_aload_n hx hb d_MacroExpand_init_87 rfl (lv_at hl 1 rfl) ?_
  replace hrun := hb_some hrun
  obtain ⟨v88, g88, hrun⟩ := hrun
  refine h_getR S (fun w q => hT w (i_MacroExpand w q)) hK (ci := 0) rfl 3 (by decide) (hT _ fl_MacroExpand_46) hw g88 d_MacroExpand_init_88 ?_
  replace hrun := hb_some hrun
  obtain ⟨p91_0, rfl, hrun⟩ := hrun
  replace hrun := hb_some hrun
  obtain ⟨p91_1, rfl, hrun⟩ := hrun
  replace hrun := hb_some hrun
  obtain ⟨p91_2, rfl, hrun⟩ := hrun
  replace hrun := hbind_some hrun
  obtain ⟨_u91, d91, s91, h91, dn91, ds91, g91, hrun, en91, es91⟩ := hrun
  refine h_cv (h_runI S (As := [.ref p91_0, .ref p91_1, .ref p91_2]) (rest := [.ref nx68, .ref a0]) (c_Whole_init l D dA b0 n nx68 p91_0 p91_1 p91_2 nx75 g91) (cwI 3 S.2.2.2.2 (h_good [] (fun _ q => absurd q List.not_mem_nil) cd_Whole_init) rfl rfl rfl (S.2.2.2.2 _ (hT _ it_Whole)) (S.2.2.2.2 _ (hT _ ml_MacroExpand_52)) (S.2.2.2.2 _ (hT _ im_Whole_init)) rfl (by decide +kernel) ⟨Nat.le_of_ble_eq_true rfl, Nat.le_of_ble_eq_true rfl⟩) hK hN hw rfl hl.1 (lv_room (Nat.le_of_ble_eq_true rfl)) d_MacroExpand_init_91 ⟨show (((((((((0 + 1) + d22) + 1) + d33) + 1) + d44) + 1) + d68) + 1) + d91 ≤ dnZ by omega, show (((((((((0 + 5) + s22) + 3) + s33) + 2) + s44) + 14) + s68) + 7) + s91 ≤ dsZ by omega⟩) hS (fun H locs hw hS => ?_)
  obtain ⟨nx91, ex91⟩ : ∃ z, z = nx75 + d91 := ⟨_, rfl⟩
  rw [← ex91] at hw
  try rw [← ex91] at hrun
  replace hcR : ((((((((((0 + 1) + d22) + 1) + d33) + 1) + d44) + 1) + d68) + 1) + d91) + dn91 = dnZ := by omega
  replace hsR : ((((((((((0 + 5) + s22) + 3) + s33) + 2) + s44) + 14) + s68) + 7) + s91) + ds91 = dsZ := by omega
  replace hnR : nx91 + dn91 = nxZ + dnZ := by omega
  clear en91 es91 ex91
  replace hrun := hb_some hrun
  obtain ⟨h94, g94, hrun⟩ := hrun
  refine h_putF S (fun w q => hT w (i_MacroExpand w q)) t_MacroExpand t_MacroExpand_ok n_MacroExpand hK (ci := 0) rfl 4 (by decide) (hT _ fl_MacroExpand_55) rfl hin rfl rfl rfl hw hS g94 d_MacroExpand_init_94 (fun H locs hw hS => ?_)
  refine lv_aload_n hx hb d_MacroExpand_init_97 rfl (lv_at hl 1 rfl) ?_
  refine lv_iconst (v := (0 : Int32)) hx hb d_MacroExpand_init_98 (by decide) ?_
  replace hrun := hb_some hrun
  obtain ⟨h99, g99, hrun⟩ := hrun
  refine h_put S (fun w q => hT w (i_MacroExpand w q)) t_MacroExpand t_MacroExpand_ok n_MacroExpand hK (ci := 0) rfl 5 (by decide) (hT _ fl_MacroExpand_59) rfl rfl rfl hw hS g99 d_MacroExpand_init_99 (fun H locs hw hS => ?_)
  refine lv_aload_n hx hb d_MacroExpand_init_102 rfl (lv_at hl 1 rfl) ?_
  refine lv_iconst (v := (0 : Int32)) hx hb d_MacroExpand_init_103 (by decide) ?_
  replace hrun := hb_some hrun
  obtain ⟨h104, g104, hrun⟩ := hrun
  refine h_put S (fun w q => hT w (i_MacroExpand w q)) t_MacroExpand t_MacroExpand_ok n_MacroExpand hK (ci := 0) rfl 6 (by decide) (hT _ fl_MacroExpand_63) rfl rfl rfl hw hS g104 d_MacroExpand_init_104 (fun H locs hw hS => ?_)
  cases hrun
  refine W.widen (k := dnZ) (n := dsZ) (by omega) (by omega) ?_
  rw [show nx91 = nxZ + dnZ by omega] at hw
  exact W.vret hx hb hr (fun t ht hW9 => ⟨⟨(), rfl, trivial, by show hW D dA classes b0 _ _ t.heap; rw [ht]; exact hw⟩, hS.F ht⟩) hS.2.2 d_MacroExpand_init_107
set_option maxHeartbeats 4000000 in
set_option maxRecDepth 100000 in
theorem c_Book_isFull (l : Launch) (D : va_G) (dA : Nat → ClassId) (b0 : Nat) (a0 : Nat) (nx : Nat) {h : hH} {r : Int32} (hrun : f_Book_isFull a0 h = some r) : Met l y_Book_isFull w_Book_isFull ({ frames := 0, cells := 0, slots := 0, locals := 0 } : Room) (va_Pc [.ref a0] (hB D dA b0 nx h)) (va_Qi (fun r' (_ : Unit) => r' = r) (fun (_ : Unit) t => hW D dA classes b0 nx h t.heap) (hA b0)) 0 0 (hA b0) := by
  refine Met.ofW (cc := b_Book_isFull) (maxL := 1) (ret := (some .boolean)) (by decide) rfl ?_
  intro p e s m args below meth c s₁ B hml hv
  obtain ⟨rfl, hw, hK, hN⟩ := hv
  have hx := B.exec
  have hb := B.bytes
  have hr := B.returns
  have hlocks := B.notSynchronized
  have S : CallFix p m c b_Book_isFull 1 s ([.ref a0] : List Value).toArray w_Book_isFull R_Book := ⟨hx, hb, hml, findClass_of_methodNamed B.named, atoms_spec (ws := w_Book_isFull) B.pre⟩
  have hT : ∀ w ∈ tbl, w ∈ w_Book_isFull := fun _ q => List.mem_cons_of_mem _ q
  have hS : va_S (hA b0) s.heap s.heap [] := va_S.rf
  have hl := lv_entry ([.ref a0]) (n := 1) (Nat.le_of_ble_eq_true rfl)
  rw [lg_entry_eq]
  generalize (lg_sl ([.ref a0]) ++ List.replicate (1 - (lg_sl ([.ref a0])).length) Slot.unset).toArray = ls at hl ⊢
  have hl : lv_has ls 1 [(0, .ref a0)] := hl
  unfold f_Book_isFull at hrun
  refine lv_aload_n hx hb d_Book_isFull_0 rfl (lv_at hl 0 rfl) ?_
  replace hrun := hb_some hrun
  obtain ⟨v1, g1, hrun⟩ := hrun
  refine h_getI S (fun w q => hT w (i_Book w q)) hK (ci := 3) rfl 3 (by decide) (hT _ fl_Book_32) hw g1 d_Book_isFull_1 ?_
  refine lv_bipush (v := (100 : Int32)) hx hb d_Book_isFull_4 (by decide) ?_
  refine lv_icmp_lt (tgt := 13) hx hb d_Book_isFull_6 (by decide) (fun c6 => ?_) (fun c6 => ?_)
  · rw [if_pos c6] at hrun
    refine lv_iconst (v := (0 : Int32)) hx hb d_Book_isFull_13 (by decide) ?_
    cases hrun
    exact W.zret hx hb hr (by decide) (fun t ht hW9 => ⟨⟨_, (), rfl, rfl, by show hW D dA classes b0 _ _ t.heap; rw [ht]; exact hw⟩, hS.F ht⟩) hS.2.2 d_Book_isFull_14
  · rw [if_neg c6] at hrun
    refine lv_iconst (v := (1 : Int32)) hx hb d_Book_isFull_9 (by decide) ?_
    refine lv_goto (tgt := 14) hx hb d_Book_isFull_10 (by decide) ?_
    cases hrun
    exact W.zret hx hb hr (by decide) (fun t ht hW9 => ⟨⟨_, (), rfl, rfl, by show hW D dA classes b0 _ _ t.heap; rw [ht]; exact hw⟩, hS.F ht⟩) hS.2.2 d_Book_isFull_14
