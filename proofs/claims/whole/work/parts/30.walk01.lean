set_option maxHeartbeats 4000000 in
set_option maxRecDepth 100000 in
theorem c_MacroExpandModel_init (l : Launch) (D : va_G) (dA : Nat → ClassId) (b0 : Nat) (n : Nat) (a0 : Nat) (i1 : Int64) (nxZ : Nat) {h h' : hH} {r : Unit} {dnZ dsZ : Nat} (hrun : f_MacroExpandModel_init n a0 i1 nxZ h = some (r, dnZ, dsZ, h')) : Met l y_MacroExpandModel_init w_MacroExpandModel_init ({ frames := 1, cells := dnZ, slots := dsZ, locals := 20 } : Room) (va_Pc [.ref a0, .long i1] (hB D dA b0 nxZ h)) (va_Qv (fun (_ : Unit) => True) (fun (_ : Unit) t => hW D dA classes b0 (nxZ + dnZ) h' t.heap) (hA b0)) dnZ dsZ (hA b0) := by
  refine Met.ofW (cc := b_MacroExpandModel_init) (maxL := 4) (ret := none) (by decide) rfl ?_
  intro p e s m args below meth c s₁ B hml hv
  obtain ⟨rfl, hw, hK, hN⟩ := hv
  have hx := B.exec
  have hb := B.bytes
  have hr := B.returns
  have hlocks := B.notSynchronized
  have hin : meth.name = "<init>" := (name_of_methodNamed B.named B.method).1
  have S : CallFix p m c b_MacroExpandModel_init 4 s ([.ref a0, .long i1] : List Value).toArray w_MacroExpandModel_init R_MacroExpandModel := ⟨hx, hb, hml, findClass_of_methodNamed B.named, atoms_spec (ws := w_MacroExpandModel_init) B.pre⟩
  have hT : ∀ w ∈ tbl, w ∈ w_MacroExpandModel_init := fun _ q => List.mem_cons_of_mem _ q
  have hS : va_S (hA b0) s.heap s.heap [] := va_S.rf
  have hl := lv_entry ([.ref a0, .long i1]) (n := 4) (Nat.le_of_ble_eq_true rfl)
  rw [lg_entry_eq]
  generalize (lg_sl ([.ref a0, .long i1]) ++ List.replicate (4 - (lg_sl ([.ref a0, .long i1])).length) Slot.unset).toArray = ls at hl ⊢
  have hl : lv_has ls 4 [(0, .ref a0), (1, .long i1)] := hl
  obtain ⟨dn, edn⟩ : ∃ z, z = dnZ := ⟨_, rfl⟩
  obtain ⟨ds, eds⟩ : ∃ z, z = dsZ := ⟨_, rfl⟩
  obtain ⟨nx, enx⟩ : ∃ z, z = nxZ := ⟨_, rfl⟩
  rw [← edn, ← eds, ← enx] at hrun
  rw [← enx] at hw
  have hcR : 0 + dn = dnZ := by omega
  have hsR : 0 + ds = dsZ := by omega
  have hnR : nx + dn = nxZ + dnZ := by omega
  clear edn eds enx
  have l_224 : ∀ (n9 : Nat) (x9 : Int32) (cells slots dn ds nx : Nat) (h : hH) (b9 : (Unit)) (h9 : hH) (H : Heap) (locs : List Loc) (ls : Array Slot), hloopA (f_MacroExpandModel_init_b224 n a0) n9 x9 nx h = some (b9, dn, ds, h9) → cells + dn ≤ dnZ → slots + ds ≤ dsZ → hW D dA classes b0 nx h H → va_S (hA b0) s.heap H locs → lv_has ls 4 (match x9 with | x3 => [(0, .ref a0), (3, .int x3)]) → (b9 = () → ∀ (H : Heap) (locs : List Loc) (ls : Array Slot), hW D dA classes b0 (nx + dn) h9 H → va_S (hA b0) s.heap H locs → lv_has ls 4 [] → W p l e (headSpec w_MacroExpandModel_init ({ frames := 1, cells := dnZ, slots := dsZ, locals := 20 } : Room)).room s m ([.ref a0, .long i1] : List Value).toArray below meth c H locs (cells + dn) (slots + ds) (MQ below (va_Qv (fun (_ : Unit) => True) (fun (_ : Unit) t => hW D dA classes b0 (nxZ + dnZ) h' t.heap) (hA b0)) ([.ref a0, .long i1] : List Value).toArray s dnZ dsZ (hA b0)) (F0 m 244 ls [])) → W p l e (headSpec w_MacroExpandModel_init ({ frames := 1, cells := dnZ, slots := dsZ, locals := 20 } : Room)).room s m ([.ref a0, .long i1] : List Value).toArray below meth c H locs cells slots (MQ below (va_Qv (fun (_ : Unit) => True) (fun (_ : Unit) t => hW D dA classes b0 (nxZ + dnZ) h' t.heap) (hA b0)) ([.ref a0, .long i1] : List Value).toArray s dnZ dsZ (hA b0)) (F0 m 224 ls []) := by
    intro  n9
    induction n9 with
    | zero =>
      intro x9 cells slots dn ds nx h b9 h9 H locs ls hrun
      cases hrun
    | succ n9 ih =>
      rintro x3 cells slots dn ds nx h b9 h9 H locs ls hrun hcB hsB hw hS hl k0
      have hl : lv_has ls 4 [(0, .ref a0), (3, .int x3)] := hl
      unfold hloopA at hrun
      obtain ⟨q9, dnb, dsb, h9b, dnr, dsr, hbody, hrun9, edn, eds⟩ := hbind_some hrun
      have K0 : (∀ (z3 : Int32), q9 = .inl z3 → ∀ (H : Heap) (locs : List Loc) (ls : Array Slot), hW D dA classes b0 (nx + dnb) h9b H → va_S (hA b0) s.heap H locs → lv_has ls 4 [(0, .ref a0), (3, .int z3)] → W p l e (headSpec w_MacroExpandModel_init ({ frames := 1, cells := dnZ, slots := dsZ, locals := 20 } : Room)).room s m ([.ref a0, .long i1] : List Value).toArray below meth c H locs (cells + dnb) (slots + dsb) (MQ below (va_Qv (fun (_ : Unit) => True) (fun (_ : Unit) t => hW D dA classes b0 (nxZ + dnZ) h' t.heap) (hA b0)) ([.ref a0, .long i1] : List Value).toArray s dnZ dsZ (hA b0)) (F0 m 224 ls [])) := by
        intro z3 eq9 H locs ls hw hS hl
        subst eq9
        exact ih z3 (cells + dnb) (slots + dsb) dnr dsr (nx + dnb) h9b b9 h9 H locs ls hrun9 (by omega) (by omega) hw hS hl (by have q := k0; rw [show nx + dn = nx + dnb + dnr by omega, show cells + dn = cells + dnb + dnr by omega, show slots + ds = slots + dsb + dsr by omega] at q; exact q)
      have K1 : (q9 = .inr () → ∀ (H : Heap) (locs : List Loc) (ls : Array Slot), hW D dA classes b0 (nx + dnb) h9b H → va_S (hA b0) s.heap H locs → lv_has ls 4 [] → W p l e (headSpec w_MacroExpandModel_init ({ frames := 1, cells := dnZ, slots := dsZ, locals := 20 } : Room)).room s m ([.ref a0, .long i1] : List Value).toArray below meth c H locs (cells + dnb) (slots + dsb) (MQ below (va_Qv (fun (_ : Unit) => True) (fun (_ : Unit) t => hW D dA classes b0 (nxZ + dnZ) h' t.heap) (hA b0)) ([.ref a0, .long i1] : List Value).toArray s dnZ dsZ (hA b0)) (F0 m 244 ls [])) := by
        intro  eq9 H locs ls hw hS hl
        subst eq9
        cases hrun9
        subst edn; subst eds
        exact k0  rfl H locs ls hw hS hl
      clear hrun hrun9 ih k0
      have hrun := hbody
      clear hbody
      replace hcB : cells + dnb ≤ dnZ := by omega
      replace hsB : slots + dsb ≤ dsZ := by omega
      clear edn eds
      dsimp only [f_MacroExpandModel_init_b224] at hrun
      have hcR : cells + dnb = cells + dnb := rfl
      have hsR : slots + dsb = slots + dsb := rfl
      have hnR : nx + dnb = nx + dnb := rfl
      refine lv_iload_n hx hb d_MacroExpandModel_init_224 rfl (lv_at hl 1 rfl) ?_
      refine lv_sipush (v := (200 : Int32)) hx hb d_MacroExpandModel_init_225 (by decide) ?_
      refine lv_icmp_ge (tgt := 244) hx hb d_MacroExpandModel_init_228 (by decide) (fun c228 => ?_) (fun c228 => ?_)
      · rw [if_pos c228] at hrun
        cases hrun
        exact W.widen (by omega) (by omega) (K1  rfl H locs ls hw hS (lv_sub hl [] rfl))
      · rw [if_neg c228] at hrun
        refine lv_aload_n hx hb d_MacroExpandModel_init_231 rfl (lv_at hl 0 rfl) ?_
        replace hrun := hb_some hrun
        obtain ⟨v232, g232, hrun⟩ := hrun
        refine h_getR S (fun w q => hT w (i_MacroExpandModel w q)) hK (ci := 1) rfl 13 (by decide) (hT _ fl_MacroExpandModel_35) hw g232 d_MacroExpandModel_init_232 ?_
        refine lv_iload_n hx hb d_MacroExpandModel_init_235 rfl (lv_at hl 1 rfl) ?_
        refine lv_iconst (v := (-1 : Int32)) hx hb d_MacroExpandModel_init_236 (by decide) ?_
        replace hrun := hb_some hrun
        obtain ⟨p237, rfl, hrun⟩ := hrun
        replace hrun := hb_some hrun
        obtain ⟨h237, g237, hrun⟩ := hrun
        refine h_iast S hK (kd := 0) rfl hw hS g237 d_MacroExpandModel_init_237 (fun H locs hw hS => ?_)
        refine lv_iinc (v := (x3 + (1 : Int32))) (lv' := [(3, .int (x3 + (1 : Int32))), (0, .ref a0)]) hx hb d_MacroExpandModel_init_238 hl (k := 1) rfl rfl (by decide) rfl (fun ls hl => ?_)
        refine lv_goto (tgt := 224) hx hb d_MacroExpandModel_init_241 (by decide) ?_
        cases hrun
        exact W.widen (by omega) (by omega) (K0 (x3 + (1 : Int32)) rfl H locs ls hw hS (lv_sub hl [1, 0] rfl))
  have j_219 : ∀  (y0 : Option Nat) (y1 : Int32) (cells slots dn ds nx : Nat) (h : hH) (H : Heap) (locs : List Loc) (ls : Array Slot), f_MacroExpandModel_init_j219 n a0 y0 y1 nx h = some (r, dn, ds, h') → cells + dn = dnZ → slots + ds = dsZ → nx + dn = nxZ + dnZ → hW D dA classes b0 nx h H → va_S (hA b0) s.heap H locs → lv_has ls 4 [(0, .ref a0)] → W p l e (headSpec w_MacroExpandModel_init ({ frames := 1, cells := dnZ, slots := dsZ, locals := 20 } : Room)).room s m ([.ref a0, .long i1] : List Value).toArray below meth c H locs cells slots (MQ below (va_Qv (fun (_ : Unit) => True) (fun (_ : Unit) t => hW D dA classes b0 (nxZ + dnZ) h' t.heap) (hA b0)) ([.ref a0, .long i1] : List Value).toArray s dnZ dsZ (hA b0)) (F0 m 219 ls [.int y1, va_rf y0]) := by
    intro y0 y1 cells slots dn ds nx h H locs ls hrun hcR hsR hnR hw hS hl
    unfold f_MacroExpandModel_init_j219 at hrun
    replace hrun := hb_some hrun
    obtain ⟨p219, rfl, hrun⟩ := hrun
    replace hrun := hb_some hrun
    obtain ⟨h219, g219, hrun⟩ := hrun
    refine h_putF S (fun w q => hT w (i_MacroExpandModel w q)) t_MacroExpandModel t_MacroExpandModel_ok n_MacroExpandModel hK (ci := 1) rfl 0 (by decide) (hT _ fl_MacroExpandModel_79) rfl hin rfl rfl rfl hw hS g219 d_MacroExpandModel_init_219 (fun H locs hw hS => ?_)
    refine lv_iconst (v := (0 : Int32)) hx hb d_MacroExpandModel_init_222 (by decide) ?_
    refine lv_istore_n (lv' := [(3, .int (0 : Int32)), (0, .ref a0)]) hx hb d_MacroExpandModel_init_223 rfl hl (by decide) rfl (fun ls hl => ?_)
    replace hrun := hbind_some hrun
    obtain ⟨b224, d224, s224, h224l, dn224, ds224, g224, hrun, en224, es224⟩ := hrun
    refine l_224 n (0 : Int32) cells slots _ _ nx h219 _ _ _ _ _ g224 (by omega) (by omega) hw hS (lv_sub hl [1, 0] rfl) ?_
    · rintro  eq9 H locs ls hw hS hl
      obtain rfl := eq9.symm
      obtain ⟨nx224l, ex224⟩ : ∃ z, z = nx + d224 := ⟨_, rfl⟩
      rw [← ex224] at hw
      try rw [← ex224] at hrun
      replace hcR : (cells + d224) + dn224 = dnZ := by omega
      replace hsR : (slots + s224) + ds224 = dsZ := by omega
      replace hnR : nx224l + dn224 = nxZ + dnZ := by omega
      clear en224 es224 ex224
      try dsimp only at hrun
      cases hrun
      refine W.widen (k := dnZ) (n := dsZ) (by omega) (by omega) ?_
      rw [show nx224l = nxZ + dnZ by omega] at hw
      exact W.vret hx hb hr (fun t ht hW9 => ⟨⟨(), rfl, trivial, by show hW D dA classes b0 _ _ t.heap; rw [ht]; exact hw⟩, hS.F ht⟩) hS.2.2 d_MacroExpandModel_init_244
  unfold f_MacroExpandModel_init at hrun
  refine lv_aload_n hx hb d_MacroExpandModel_init_0 rfl (lv_at hl 0 rfl) ?_
  refine W.objInit hx hb S.2.2.2.1 (S.2.2.2.2 _ (hT _ ml_MacroExpandModel_1)) (S.2.2.2.2 _ (hT _ k_objinst)) (S.2.2.2.2 _ (hT _ k_objcode)) rfl (by rw [hml]; exact hl.1) rfl d_MacroExpandModel_init_1 (Nat.le_of_ble_eq_true rfl) (Nat.le_of_ble_eq_true rfl) ?_
  refine W.eq (g2 := F0 m 4 ls []) rfl ?_
  refine lv_aload_n hx hb d_MacroExpandModel_init_4 rfl (lv_at hl 0 rfl) ?_
  refine lv_sipush (v := (4096 : Int32)) hx hb d_MacroExpandModel_init_5 (by decide) ?_
  replace hrun := hnew_some hrun
  obtain ⟨h8, dn8, ds8, eh8, hrun, en8, es8⟩ := hrun
  refine h_newic S (hT _ ac_int) hK (kd := 0) rfl hw hS (N := 4096) (by decide) (by decide) (by decide) (show 0 + 1 ≤ dnZ by omega) (show 0 + 4096 ≤ dsZ by omega) d_MacroExpandModel_init_8 (fun H hw hS => ?_)
  rw [← eh8] at hw
  clear eh8
  obtain ⟨nx8, ex8⟩ : ∃ z, z = nx + 1 := ⟨_, rfl⟩
  rw [← ex8] at hw
  try rw [← ex8] at hrun
  replace hcR : (0 + 1) + dn8 = dnZ := by omega
  replace hsR : (0 + 4096) + ds8 = dsZ := by omega
  replace hnR : nx8 + dn8 = nxZ + dnZ := by omega
  clear en8 es8 ex8
  replace hrun := hb_some hrun
  obtain ⟨h10, g10, hrun⟩ := hrun
  refine h_putF S (fun w q => hT w (i_MacroExpandModel w q)) t_MacroExpandModel t_MacroExpandModel_ok n_MacroExpandModel hK (ci := 1) rfl 1 (by decide) (hT _ fl_MacroExpandModel_7) rfl hin rfl rfl rfl hw hS g10 d_MacroExpandModel_init_10 (fun H locs hw hS => ?_)
  refine lv_aload_n hx hb d_MacroExpandModel_init_13 rfl (lv_at hl 0 rfl) ?_
  refine lv_sipush (v := (3000 : Int32)) hx hb d_MacroExpandModel_init_14 (by decide) ?_
  replace hrun := hnew_some hrun
  obtain ⟨h17, dn17, ds17, eh17, hrun, en17, es17⟩ := hrun
  refine h_newic S (hT _ ac_int) hK (kd := 0) rfl hw hS (N := 3000) (by decide) (by decide) (by decide) (show (0 + 1) + 1 ≤ dnZ by omega) (show (0 + 4096) + 3000 ≤ dsZ by omega) d_MacroExpandModel_init_17 (fun H hw hS => ?_)
  rw [← eh17] at hw
  clear eh17
  obtain ⟨nx17, ex17⟩ : ∃ z, z = nx8 + 1 := ⟨_, rfl⟩
  rw [← ex17] at hw
  try rw [← ex17] at hrun
  replace hcR : ((0 + 1) + 1) + dn17 = dnZ := by omega
  replace hsR : ((0 + 4096) + 3000) + ds17 = dsZ := by omega
  replace hnR : nx17 + dn17 = nxZ + dnZ := by omega
  clear en17 es17 ex17
  replace hrun := hb_some hrun
  obtain ⟨h19, g19, hrun⟩ := hrun
  refine h_putF S (fun w q => hT w (i_MacroExpandModel w q)) t_MacroExpandModel t_MacroExpandModel_ok n_MacroExpandModel hK (ci := 1) rfl 5 (by decide) (hT _ fl_MacroExpandModel_13) rfl hin rfl rfl rfl hw hS g19 d_MacroExpandModel_init_19 (fun H locs hw hS => ?_)
  refine lv_aload_n hx hb d_MacroExpandModel_init_22 rfl (lv_at hl 0 rfl) ?_
  refine lv_bipush (v := (100 : Int32)) hx hb d_MacroExpandModel_init_23 (by decide) ?_
  replace hrun := hnew_some hrun
  obtain ⟨h25, dn25, ds25, eh25, hrun, en25, es25⟩ := hrun
  refine h_newic S (hT _ ac_int) hK (kd := 0) rfl hw hS (N := 100) (by decide) (by decide) (by decide) (show ((0 + 1) + 1) + 1 ≤ dnZ by omega) (show ((0 + 4096) + 3000) + 100 ≤ dsZ by omega) d_MacroExpandModel_init_25 (fun H hw hS => ?_)
  rw [← eh25] at hw
  clear eh25
  obtain ⟨nx25, ex25⟩ : ∃ z, z = nx17 + 1 := ⟨_, rfl⟩
  rw [← ex25] at hw
  try rw [← ex25] at hrun
  replace hcR : (((0 + 1) + 1) + 1) + dn25 = dnZ := by omega
  replace hsR : (((0 + 4096) + 3000) + 100) + ds25 = dsZ := by omega
  replace hnR : nx25 + dn25 = nxZ + dnZ := by omega
  clear en25 es25 ex25
  replace hrun := hb_some hrun
  obtain ⟨h27, g27, hrun⟩ := hrun
  refine h_putF S (fun w q => hT w (i_MacroExpandModel w q)) t_MacroExpandModel t_MacroExpandModel_ok n_MacroExpandModel hK (ci := 1) rfl 7 (by decide) (hT _ fl_MacroExpandModel_16) rfl hin rfl rfl rfl hw hS g27 d_MacroExpandModel_init_27 (fun H locs hw hS => ?_)
  refine lv_aload_n hx hb d_MacroExpandModel_init_30 rfl (lv_at hl 0 rfl) ?_
  refine lv_bipush (v := (100 : Int32)) hx hb d_MacroExpandModel_init_31 (by decide) ?_
  replace hrun := hnew_some hrun
  obtain ⟨h33, dn33, ds33, eh33, hrun, en33, es33⟩ := hrun
  refine h_newic S (hT _ ac_int) hK (kd := 0) rfl hw hS (N := 100) (by decide) (by decide) (by decide) (show (((0 + 1) + 1) + 1) + 1 ≤ dnZ by omega) (show (((0 + 4096) + 3000) + 100) + 100 ≤ dsZ by omega) d_MacroExpandModel_init_33 (fun H hw hS => ?_)
  rw [← eh33] at hw
  clear eh33
  obtain ⟨nx33, ex33⟩ : ∃ z, z = nx25 + 1 := ⟨_, rfl⟩
  rw [← ex33] at hw
  try rw [← ex33] at hrun
  replace hcR : ((((0 + 1) + 1) + 1) + 1) + dn33 = dnZ := by omega
  replace hsR : ((((0 + 4096) + 3000) + 100) + 100) + ds33 = dsZ := by omega
  replace hnR : nx33 + dn33 = nxZ + dnZ := by omega
  clear en33 es33 ex33
  replace hrun := hb_some hrun
  obtain ⟨h35, g35, hrun⟩ := hrun
  refine h_putF S (fun w q => hT w (i_MacroExpandModel w q)) t_MacroExpandModel t_MacroExpandModel_ok n_MacroExpandModel hK (ci := 1) rfl 8 (by decide) (hT _ fl_MacroExpandModel_19) rfl hin rfl rfl rfl hw hS g35 d_MacroExpandModel_init_35 (fun H locs hw hS => ?_)
  refine lv_aload_n hx hb d_MacroExpandModel_init_38 rfl (lv_at hl 0 rfl) ?_
  refine lv_bipush (v := (100 : Int32)) hx hb d_MacroExpandModel_init_39 (by decide) ?_
  replace hrun := hnew_some hrun
  obtain ⟨h41, dn41, ds41, eh41, hrun, en41, es41⟩ := hrun
  refine h_newic S (hT _ ac_int) hK (kd := 0) rfl hw hS (N := 100) (by decide) (by decide) (by decide) (show ((((0 + 1) + 1) + 1) + 1) + 1 ≤ dnZ by omega) (show ((((0 + 4096) + 3000) + 100) + 100) + 100 ≤ dsZ by omega) d_MacroExpandModel_init_41 (fun H hw hS => ?_)
  rw [← eh41] at hw
  clear eh41
  obtain ⟨nx41, ex41⟩ : ∃ z, z = nx33 + 1 := ⟨_, rfl⟩
  rw [← ex41] at hw
  try rw [← ex41] at hrun
  replace hcR : (((((0 + 1) + 1) + 1) + 1) + 1) + dn41 = dnZ := by omega
  replace hsR : (((((0 + 4096) + 3000) + 100) + 100) + 100) + ds41 = dsZ := by omega
  replace hnR : nx41 + dn41 = nxZ + dnZ := by omega
  clear en41 es41 ex41
  replace hrun := hb_some hrun
  obtain ⟨h43, g43, hrun⟩ := hrun
  refine h_putF S (fun w q => hT w (i_MacroExpandModel w q)) t_MacroExpandModel t_MacroExpandModel_ok n_MacroExpandModel hK (ci := 1) rfl 9 (by decide) (hT _ fl_MacroExpandModel_22) rfl hin rfl rfl rfl hw hS g43 d_MacroExpandModel_init_43 (fun H locs hw hS => ?_)
  refine lv_aload_n hx hb d_MacroExpandModel_init_46 rfl (lv_at hl 0 rfl) ?_
  refine lv_sipush (v := (20000 : Int32)) hx hb d_MacroExpandModel_init_47 (by decide) ?_
  replace hrun := hnew_some hrun
  obtain ⟨h50, dn50, ds50, eh50, hrun, en50, es50⟩ := hrun
  refine h_newic S (hT _ ac_int) hK (kd := 0) rfl hw hS (N := 20000) (by decide) (by decide) (by decide) (show (((((0 + 1) + 1) + 1) + 1) + 1) + 1 ≤ dnZ by omega) (show (((((0 + 4096) + 3000) + 100) + 100) + 100) + 20000 ≤ dsZ by omega) d_MacroExpandModel_init_50 (fun H hw hS => ?_)
  rw [← eh50] at hw
  clear eh50
  obtain ⟨nx50, ex50⟩ : ∃ z, z = nx41 + 1 := ⟨_, rfl⟩
  rw [← ex50] at hw
  try rw [← ex50] at hrun
  replace hcR : ((((((0 + 1) + 1) + 1) + 1) + 1) + 1) + dn50 = dnZ := by omega
  replace hsR : ((((((0 + 4096) + 3000) + 100) + 100) + 100) + 20000) + ds50 = dsZ := by omega
  replace hnR : nx50 + dn50 = nxZ + dnZ := by omega
  clear en50 es50 ex50
  replace hrun := hb_some hrun
  obtain ⟨h52, g52, hrun⟩ := hrun
  refine h_putF S (fun w q => hT w (i_MacroExpandModel w q)) t_MacroExpandModel t_MacroExpandModel_ok n_MacroExpandModel hK (ci := 1) rfl 10 (by decide) (hT _ fl_MacroExpandModel_25) rfl hin rfl rfl rfl hw hS g52 d_MacroExpandModel_init_52 (fun H locs hw hS => ?_)
  refine lv_aload_n hx hb d_MacroExpandModel_init_55 rfl (lv_at hl 0 rfl) ?_
  refine lv_sipush (v := (1000 : Int32)) hx hb d_MacroExpandModel_init_56 (by decide) ?_
  replace hrun := hnew_some hrun
  obtain ⟨h59, dn59, ds59, eh59, hrun, en59, es59⟩ := hrun
  refine h_newic S (hT _ ac_int) hK (kd := 0) rfl hw hS (N := 1000) (by decide) (by decide) (by decide) (show ((((((0 + 1) + 1) + 1) + 1) + 1) + 1) + 1 ≤ dnZ by omega) (show ((((((0 + 4096) + 3000) + 100) + 100) + 100) + 20000) + 1000 ≤ dsZ by omega) d_MacroExpandModel_init_59 (fun H hw hS => ?_)
  rw [← eh59] at hw
  clear eh59
  obtain ⟨nx59, ex59⟩ : ∃ z, z = nx50 + 1 := ⟨_, rfl⟩
  rw [← ex59] at hw
  try rw [← ex59] at hrun
  replace hcR : (((((((0 + 1) + 1) + 1) + 1) + 1) + 1) + 1) + dn59 = dnZ := by omega
  replace hsR : (((((((0 + 4096) + 3000) + 100) + 100) + 100) + 20000) + 1000) + ds59 = dsZ := by omega
  replace hnR : nx59 + dn59 = nxZ + dnZ := by omega
  clear en59 es59 ex59
  replace hrun := hb_some hrun
  obtain ⟨h61, g61, hrun⟩ := hrun
  refine h_putF S (fun w q => hT w (i_MacroExpandModel w q)) t_MacroExpandModel t_MacroExpandModel_ok n_MacroExpandModel hK (ci := 1) rfl 11 (by decide) (hT _ fl_MacroExpandModel_28) rfl hin rfl rfl rfl hw hS g61 d_MacroExpandModel_init_61 (fun H locs hw hS => ?_)
  refine lv_aload_n hx hb d_MacroExpandModel_init_64 rfl (lv_at hl 0 rfl) ?_
  refine lv_ldc hx hb S.2.2.2.1 (S.2.2.2.2 _ (hT _ ct_MacroExpandModel_31)) d_MacroExpandModel_init_65 ?_
  replace hrun := hnew_some hrun
  obtain ⟨h67, dn67, ds67, eh67, hrun, en67, es67⟩ := hrun
  refine h_newic S (hT _ ac_int) hK (kd := 0) rfl hw hS (N := 200000) (by decide) (by decide) (by decide) (show (((((((0 + 1) + 1) + 1) + 1) + 1) + 1) + 1) + 1 ≤ dnZ by omega) (show (((((((0 + 4096) + 3000) + 100) + 100) + 100) + 20000) + 1000) + 200000 ≤ dsZ by omega) d_MacroExpandModel_init_67 (fun H hw hS => ?_)
  rw [← eh67] at hw
  clear eh67
  obtain ⟨nx67, ex67⟩ : ∃ z, z = nx59 + 1 := ⟨_, rfl⟩
  rw [← ex67] at hw
  try rw [← ex67] at hrun
  replace hcR : ((((((((0 + 1) + 1) + 1) + 1) + 1) + 1) + 1) + 1) + dn67 = dnZ := by omega
  replace hsR : ((((((((0 + 4096) + 3000) + 100) + 100) + 100) + 20000) + 1000) + 200000) + ds67 = dsZ := by omega
  replace hnR : nx67 + dn67 = nxZ + dnZ := by omega
  clear en67 es67 ex67
  replace hrun := hb_some hrun
  obtain ⟨h69, g69, hrun⟩ := hrun
  refine h_putF S (fun w q => hT w (i_MacroExpandModel w q)) t_MacroExpandModel t_MacroExpandModel_ok n_MacroExpandModel hK (ci := 1) rfl 12 (by decide) (hT _ fl_MacroExpandModel_32) rfl hin rfl rfl rfl hw hS g69 d_MacroExpandModel_init_69 (fun H locs hw hS => ?_)
  refine lv_aload_n hx hb d_MacroExpandModel_init_72 rfl (lv_at hl 0 rfl) ?_
  refine lv_sipush (v := (200 : Int32)) hx hb d_MacroExpandModel_init_73 (by decide) ?_
  replace hrun := hnew_some hrun
  obtain ⟨h76, dn76, ds76, eh76, hrun, en76, es76⟩ := hrun
  refine h_newic S (hT _ ac_int) hK (kd := 0) rfl hw hS (N := 200) (by decide) (by decide) (by decide) (show ((((((((0 + 1) + 1) + 1) + 1) + 1) + 1) + 1) + 1) + 1 ≤ dnZ by omega) (show ((((((((0 + 4096) + 3000) + 100) + 100) + 100) + 20000) + 1000) + 200000) + 200 ≤ dsZ by omega) d_MacroExpandModel_init_76 (fun H hw hS => ?_)
  rw [← eh76] at hw
  clear eh76
  obtain ⟨nx76, ex76⟩ : ∃ z, z = nx67 + 1 := ⟨_, rfl⟩
  rw [← ex76] at hw
  try rw [← ex76] at hrun
  replace hcR : (((((((((0 + 1) + 1) + 1) + 1) + 1) + 1) + 1) + 1) + 1) + dn76 = dnZ := by omega
  replace hsR : (((((((((0 + 4096) + 3000) + 100) + 100) + 100) + 20000) + 1000) + 200000) + 200) + ds76 = dsZ := by omega
  replace hnR : nx76 + dn76 = nxZ + dnZ := by omega
  clear en76 es76 ex76
  replace hrun := hb_some hrun
  obtain ⟨h78, g78, hrun⟩ := hrun
  refine h_putF S (fun w q => hT w (i_MacroExpandModel w q)) t_MacroExpandModel t_MacroExpandModel_ok n_MacroExpandModel hK (ci := 1) rfl 13 (by decide) (hT _ fl_MacroExpandModel_35) rfl hin rfl rfl rfl hw hS g78 d_MacroExpandModel_init_78 (fun H locs hw hS => ?_)
  refine lv_aload_n hx hb d_MacroExpandModel_init_81 rfl (lv_at hl 0 rfl) ?_
  refine lv_sipush (v := (4000 : Int32)) hx hb d_MacroExpandModel_init_82 (by decide) ?_
  replace hrun := hnew_some hrun
  obtain ⟨h85, dn85, ds85, eh85, hrun, en85, es85⟩ := hrun
  refine h_newic S (hT _ ac_int) hK (kd := 0) rfl hw hS (N := 4000) (by decide) (by decide) (by decide) (show (((((((((0 + 1) + 1) + 1) + 1) + 1) + 1) + 1) + 1) + 1) + 1 ≤ dnZ by omega) (show (((((((((0 + 4096) + 3000) + 100) + 100) + 100) + 20000) + 1000) + 200000) + 200) + 4000 ≤ dsZ by omega) d_MacroExpandModel_init_85 (fun H hw hS => ?_)
  rw [← eh85] at hw
  clear eh85
  obtain ⟨nx85, ex85⟩ : ∃ z, z = nx76 + 1 := ⟨_, rfl⟩
  rw [← ex85] at hw
  try rw [← ex85] at hrun
  replace hcR : ((((((((((0 + 1) + 1) + 1) + 1) + 1) + 1) + 1) + 1) + 1) + 1) + dn85 = dnZ := by omega
  replace hsR : ((((((((((0 + 4096) + 3000) + 100) + 100) + 100) + 20000) + 1000) + 200000) + 200) + 4000) + ds85 = dsZ := by omega
  replace hnR : nx85 + dn85 = nxZ + dnZ := by omega
  clear en85 es85 ex85
  replace hrun := hb_some hrun
  obtain ⟨h87, g87, hrun⟩ := hrun
  refine h_putF S (fun w q => hT w (i_MacroExpandModel w q)) t_MacroExpandModel t_MacroExpandModel_ok n_MacroExpandModel hK (ci := 1) rfl 15 (by decide) (hT _ fl_MacroExpandModel_38) rfl hin rfl rfl rfl hw hS g87 d_MacroExpandModel_init_87 (fun H locs hw hS => ?_)
  refine lv_aload_n hx hb d_MacroExpandModel_init_90 rfl (lv_at hl 0 rfl) ?_
  refine lv_bipush (v := (100 : Int32)) hx hb d_MacroExpandModel_init_91 (by decide) ?_
  replace hrun := hnew_some hrun
  obtain ⟨h93, dn93, ds93, eh93, hrun, en93, es93⟩ := hrun
  refine h_newic S (hT _ ac_int) hK (kd := 0) rfl hw hS (N := 100) (by decide) (by decide) (by decide) (show ((((((((((0 + 1) + 1) + 1) + 1) + 1) + 1) + 1) + 1) + 1) + 1) + 1 ≤ dnZ by omega) (show ((((((((((0 + 4096) + 3000) + 100) + 100) + 100) + 20000) + 1000) + 200000) + 200) + 4000) + 100 ≤ dsZ by omega) d_MacroExpandModel_init_93 (fun H hw hS => ?_)
  rw [← eh93] at hw
  clear eh93
  obtain ⟨nx93, ex93⟩ : ∃ z, z = nx85 + 1 := ⟨_, rfl⟩
  rw [← ex93] at hw
  try rw [← ex93] at hrun
  replace hcR : (((((((((((0 + 1) + 1) + 1) + 1) + 1) + 1) + 1) + 1) + 1) + 1) + 1) + dn93 = dnZ := by omega
  replace hsR : (((((((((((0 + 4096) + 3000) + 100) + 100) + 100) + 20000) + 1000) + 200000) + 200) + 4000) + 100) + ds93 = dsZ := by omega
  replace hnR : nx93 + dn93 = nxZ + dnZ := by omega
  clear en93 es93 ex93
  replace hrun := hb_some hrun
  obtain ⟨h95, g95, hrun⟩ := hrun
  refine h_putF S (fun w q => hT w (i_MacroExpandModel w q)) t_MacroExpandModel t_MacroExpandModel_ok n_MacroExpandModel hK (ci := 1) rfl 17 (by decide) (hT _ fl_MacroExpandModel_41) rfl hin rfl rfl rfl hw hS g95 d_MacroExpandModel_init_95 (fun H locs hw hS => ?_)
  refine lv_aload_n hx hb d_MacroExpandModel_init_98 rfl (lv_at hl 0 rfl) ?_
  refine lv_sipush (v := (800 : Int32)) hx hb d_MacroExpandModel_init_99 (by decide) ?_
  replace hrun := hnew_some hrun
  obtain ⟨h102, dn102, ds102, eh102, hrun, en102, es102⟩ := hrun
  refine h_newic S (hT _ ac_int) hK (kd := 0) rfl hw hS (N := 800) (by decide) (by decide) (by decide) (show (((((((((((0 + 1) + 1) + 1) + 1) + 1) + 1) + 1) + 1) + 1) + 1) + 1) + 1 ≤ dnZ by omega) (show (((((((((((0 + 4096) + 3000) + 100) + 100) + 100) + 20000) + 1000) + 200000) + 200) + 4000) + 100) + 800 ≤ dsZ by omega) d_MacroExpandModel_init_102 (fun H hw hS => ?_)
  rw [← eh102] at hw
  clear eh102
  obtain ⟨nx102, ex102⟩ : ∃ z, z = nx93 + 1 := ⟨_, rfl⟩
  rw [← ex102] at hw
  try rw [← ex102] at hrun
  replace hcR : ((((((((((((0 + 1) + 1) + 1) + 1) + 1) + 1) + 1) + 1) + 1) + 1) + 1) + 1) + dn102 = dnZ := by omega
  replace hsR : ((((((((((((0 + 4096) + 3000) + 100) + 100) + 100) + 20000) + 1000) + 200000) + 200) + 4000) + 100) + 800) + ds102 = dsZ := by omega
  replace hnR : nx102 + dn102 = nxZ + dnZ := by omega
  clear en102 es102 ex102
  replace hrun := hb_some hrun
  obtain ⟨h104, g104, hrun⟩ := hrun
  refine h_putF S (fun w q => hT w (i_MacroExpandModel w q)) t_MacroExpandModel t_MacroExpandModel_ok n_MacroExpandModel hK (ci := 1) rfl 18 (by decide) (hT _ fl_MacroExpandModel_44) rfl hin rfl rfl rfl hw hS g104 d_MacroExpandModel_init_104 (fun H locs hw hS => ?_)
  refine lv_aload_n hx hb d_MacroExpandModel_init_107 rfl (lv_at hl 0 rfl) ?_
  refine lv_bipush (v := (10 : Int32)) hx hb d_MacroExpandModel_init_108 (by decide) ?_
  replace hrun := hnew_some hrun
  obtain ⟨h110, dn110, ds110, eh110, hrun, en110, es110⟩ := hrun
  refine h_newic S (hT _ ac_int) hK (kd := 0) rfl hw hS (N := 10) (by decide) (by decide) (by decide) (show ((((((((((((0 + 1) + 1) + 1) + 1) + 1) + 1) + 1) + 1) + 1) + 1) + 1) + 1) + 1 ≤ dnZ by omega) (show ((((((((((((0 + 4096) + 3000) + 100) + 100) + 100) + 20000) + 1000) + 200000) + 200) + 4000) + 100) + 800) + 10 ≤ dsZ by omega) d_MacroExpandModel_init_110 (fun H hw hS => ?_)
  rw [← eh110] at hw
  clear eh110
  obtain ⟨nx110, ex110⟩ : ∃ z, z = nx102 + 1 := ⟨_, rfl⟩
  rw [← ex110] at hw
  try rw [← ex110] at hrun
  replace hcR : (((((((((((((0 + 1) + 1) + 1) + 1) + 1) + 1) + 1) + 1) + 1) + 1) + 1) + 1) + 1) + dn110 = dnZ := by omega
  replace hsR : (((((((((((((0 + 4096) + 3000) + 100) + 100) + 100) + 20000) + 1000) + 200000) + 200) + 4000) + 100) + 800) + 10) + ds110 = dsZ := by omega
  replace hnR : nx110 + dn110 = nxZ + dnZ := by omega
  clear en110 es110 ex110
  replace hrun := hb_some hrun
  obtain ⟨h112, g112, hrun⟩ := hrun
  refine h_putF S (fun w q => hT w (i_MacroExpandModel w q)) t_MacroExpandModel t_MacroExpandModel_ok n_MacroExpandModel hK (ci := 1) rfl 19 (by decide) (hT _ fl_MacroExpandModel_47) rfl hin rfl rfl rfl hw hS g112 d_MacroExpandModel_init_112 (fun H locs hw hS => ?_)
  refine lv_aload_n hx hb d_MacroExpandModel_init_115 rfl (lv_at hl 0 rfl) ?_
  refine lv_sipush (v := (4000 : Int32)) hx hb d_MacroExpandModel_init_116 (by decide) ?_
  replace hrun := hnew_some hrun
  obtain ⟨h119, dn119, ds119, eh119, hrun, en119, es119⟩ := hrun
  refine h_newic S (hT _ ac_int) hK (kd := 0) rfl hw hS (N := 4000) (by decide) (by decide) (by decide) (show (((((((((((((0 + 1) + 1) + 1) + 1) + 1) + 1) + 1) + 1) + 1) + 1) + 1) + 1) + 1) + 1 ≤ dnZ by omega) (show (((((((((((((0 + 4096) + 3000) + 100) + 100) + 100) + 20000) + 1000) + 200000) + 200) + 4000) + 100) + 800) + 10) + 4000 ≤ dsZ by omega) d_MacroExpandModel_init_119 (fun H hw hS => ?_)
  rw [← eh119] at hw
  clear eh119
  obtain ⟨nx119, ex119⟩ : ∃ z, z = nx110 + 1 := ⟨_, rfl⟩
  rw [← ex119] at hw
  try rw [← ex119] at hrun
  replace hcR : ((((((((((((((0 + 1) + 1) + 1) + 1) + 1) + 1) + 1) + 1) + 1) + 1) + 1) + 1) + 1) + 1) + dn119 = dnZ := by omega
  replace hsR : ((((((((((((((0 + 4096) + 3000) + 100) + 100) + 100) + 20000) + 1000) + 200000) + 200) + 4000) + 100) + 800) + 10) + 4000) + ds119 = dsZ := by omega
  replace hnR : nx119 + dn119 = nxZ + dnZ := by omega
  clear en119 es119 ex119
  replace hrun := hb_some hrun
  obtain ⟨h121, g121, hrun⟩ := hrun
  refine h_putF S (fun w q => hT w (i_MacroExpandModel w q)) t_MacroExpandModel t_MacroExpandModel_ok n_MacroExpandModel hK (ci := 1) rfl 20 (by decide) (hT _ fl_MacroExpandModel_50) rfl hin rfl rfl rfl hw hS g121 d_MacroExpandModel_init_121 (fun H locs hw hS => ?_)
  refine lv_aload_n hx hb d_MacroExpandModel_init_124 rfl (lv_at hl 0 rfl) ?_
  refine lv_sipush (v := (300 : Int32)) hx hb d_MacroExpandModel_init_125 (by decide) ?_
  replace hrun := hnew_some hrun
  obtain ⟨h128, dn128, ds128, eh128, hrun, en128, es128⟩ := hrun
  refine h_newic S (hT _ ac_int) hK (kd := 0) rfl hw hS (N := 300) (by decide) (by decide) (by decide) (show ((((((((((((((0 + 1) + 1) + 1) + 1) + 1) + 1) + 1) + 1) + 1) + 1) + 1) + 1) + 1) + 1) + 1 ≤ dnZ by omega) (show ((((((((((((((0 + 4096) + 3000) + 100) + 100) + 100) + 20000) + 1000) + 200000) + 200) + 4000) + 100) + 800) + 10) + 4000) + 300 ≤ dsZ by omega) d_MacroExpandModel_init_128 (fun H hw hS => ?_)
  rw [← eh128] at hw
  clear eh128
  obtain ⟨nx128, ex128⟩ : ∃ z, z = nx119 + 1 := ⟨_, rfl⟩
  rw [← ex128] at hw
  try rw [← ex128] at hrun
  replace hcR : (((((((((((((((0 + 1) + 1) + 1) + 1) + 1) + 1) + 1) + 1) + 1) + 1) + 1) + 1) + 1) + 1) + 1) + dn128 = dnZ := by omega
  replace hsR : (((((((((((((((0 + 4096) + 3000) + 100) + 100) + 100) + 20000) + 1000) + 200000) + 200) + 4000) + 100) + 800) + 10) + 4000) + 300) + ds128 = dsZ := by omega
  replace hnR : nx128 + dn128 = nxZ + dnZ := by omega
  clear en128 es128 ex128
  replace hrun := hb_some hrun
  obtain ⟨h130, g130, hrun⟩ := hrun
  refine h_putF S (fun w q => hT w (i_MacroExpandModel w q)) t_MacroExpandModel t_MacroExpandModel_ok n_MacroExpandModel hK (ci := 1) rfl 26 (by decide) (hT _ fl_MacroExpandModel_53) rfl hin rfl rfl rfl hw hS g130 d_MacroExpandModel_init_130 (fun H locs hw hS => ?_)
  refine lv_aload_n hx hb d_MacroExpandModel_init_133 rfl (lv_at hl 0 rfl) ?_
  refine lv_sipush (v := (512 : Int32)) hx hb d_MacroExpandModel_init_134 (by decide) ?_
  replace hrun := hnew_some hrun
  obtain ⟨h137, dn137, ds137, eh137, hrun, en137, es137⟩ := hrun
  refine h_newic S (hT _ ac_int) hK (kd := 0) rfl hw hS (N := 512) (by decide) (by decide) (by decide) (show (((((((((((((((0 + 1) + 1) + 1) + 1) + 1) + 1) + 1) + 1) + 1) + 1) + 1) + 1) + 1) + 1) + 1) + 1 ≤ dnZ by omega) (show (((((((((((((((0 + 4096) + 3000) + 100) + 100) + 100) + 20000) + 1000) + 200000) + 200) + 4000) + 100) + 800) + 10) + 4000) + 300) + 512 ≤ dsZ by omega) d_MacroExpandModel_init_137 (fun H hw hS => ?_)
  rw [← eh137] at hw
  clear eh137
  obtain ⟨nx137, ex137⟩ : ∃ z, z = nx128 + 1 := ⟨_, rfl⟩
  rw [← ex137] at hw
  try rw [← ex137] at hrun
  replace hcR : ((((((((((((((((0 + 1) + 1) + 1) + 1) + 1) + 1) + 1) + 1) + 1) + 1) + 1) + 1) + 1) + 1) + 1) + 1) + dn137 = dnZ := by omega
  replace hsR : ((((((((((((((((0 + 4096) + 3000) + 100) + 100) + 100) + 20000) + 1000) + 200000) + 200) + 4000) + 100) + 800) + 10) + 4000) + 300) + 512) + ds137 = dsZ := by omega
  replace hnR : nx137 + dn137 = nxZ + dnZ := by omega
  clear en137 es137 ex137
  replace hrun := hb_some hrun
  obtain ⟨h139, g139, hrun⟩ := hrun
  refine h_putF S (fun w q => hT w (i_MacroExpandModel w q)) t_MacroExpandModel t_MacroExpandModel_ok n_MacroExpandModel hK (ci := 1) rfl 27 (by decide) (hT _ fl_MacroExpandModel_56) rfl hin rfl rfl rfl hw hS g139 d_MacroExpandModel_init_139 (fun H locs hw hS => ?_)
  refine lv_aload_n hx hb d_MacroExpandModel_init_142 rfl (lv_at hl 0 rfl) ?_
  refine lv_bipush (v := (51 : Int32)) hx hb d_MacroExpandModel_init_143 (by decide) ?_
  replace hrun := hnew_some hrun
  obtain ⟨h145, dn145, ds145, eh145, hrun, en145, es145⟩ := hrun
  refine h_newic S (hT _ ac_int) hK (kd := 0) rfl hw hS (N := 51) (by decide) (by decide) (by decide) (show ((((((((((((((((0 + 1) + 1) + 1) + 1) + 1) + 1) + 1) + 1) + 1) + 1) + 1) + 1) + 1) + 1) + 1) + 1) + 1 ≤ dnZ by omega) (show ((((((((((((((((0 + 4096) + 3000) + 100) + 100) + 100) + 20000) + 1000) + 200000) + 200) + 4000) + 100) + 800) + 10) + 4000) + 300) + 512) + 51 ≤ dsZ by omega) d_MacroExpandModel_init_145 (fun H hw hS => ?_)
  rw [← eh145] at hw
  clear eh145
  obtain ⟨nx145, ex145⟩ : ∃ z, z = nx137 + 1 := ⟨_, rfl⟩
  rw [← ex145] at hw
  try rw [← ex145] at hrun
  replace hcR : (((((((((((((((((0 + 1) + 1) + 1) + 1) + 1) + 1) + 1) + 1) + 1) + 1) + 1) + 1) + 1) + 1) + 1) + 1) + 1) + dn145 = dnZ := by omega
  replace hsR : (((((((((((((((((0 + 4096) + 3000) + 100) + 100) + 100) + 20000) + 1000) + 200000) + 200) + 4000) + 100) + 800) + 10) + 4000) + 300) + 512) + 51) + ds145 = dsZ := by omega
  replace hnR : nx145 + dn145 = nxZ + dnZ := by omega
  clear en145 es145 ex145
  replace hrun := hb_some hrun
  obtain ⟨h147, g147, hrun⟩ := hrun
  refine h_putF S (fun w q => hT w (i_MacroExpandModel w q)) t_MacroExpandModel t_MacroExpandModel_ok n_MacroExpandModel hK (ci := 1) rfl 29 (by decide) (hT _ fl_MacroExpandModel_59) rfl hin rfl rfl rfl hw hS g147 d_MacroExpandModel_init_147 (fun H locs hw hS => ?_)
  refine lv_aload_n hx hb d_MacroExpandModel_init_150 rfl (lv_at hl 0 rfl) ?_
  refine lv_bipush (v := (51 : Int32)) hx hb d_MacroExpandModel_init_151 (by decide) ?_
  replace hrun := hnew_some hrun
  obtain ⟨h153, dn153, ds153, eh153, hrun, en153, es153⟩ := hrun
  refine h_newic S (hT _ ac_int) hK (kd := 0) rfl hw hS (N := 51) (by decide) (by decide) (by decide) (show (((((((((((((((((0 + 1) + 1) + 1) + 1) + 1) + 1) + 1) + 1) + 1) + 1) + 1) + 1) + 1) + 1) + 1) + 1) + 1) + 1 ≤ dnZ by omega) (show (((((((((((((((((0 + 4096) + 3000) + 100) + 100) + 100) + 20000) + 1000) + 200000) + 200) + 4000) + 100) + 800) + 10) + 4000) + 300) + 512) + 51) + 51 ≤ dsZ by omega) d_MacroExpandModel_init_153 (fun H hw hS => ?_)
  rw [← eh153] at hw
  clear eh153
  obtain ⟨nx153, ex153⟩ : ∃ z, z = nx145 + 1 := ⟨_, rfl⟩
  rw [← ex153] at hw
  try rw [← ex153] at hrun
  replace hcR : ((((((((((((((((((0 + 1) + 1) + 1) + 1) + 1) + 1) + 1) + 1) + 1) + 1) + 1) + 1) + 1) + 1) + 1) + 1) + 1) + 1) + dn153 = dnZ := by omega
  replace hsR : ((((((((((((((((((0 + 4096) + 3000) + 100) + 100) + 100) + 20000) + 1000) + 200000) + 200) + 4000) + 100) + 800) + 10) + 4000) + 300) + 512) + 51) + 51) + ds153 = dsZ := by omega
  replace hnR : nx153 + dn153 = nxZ + dnZ := by omega
  clear en153 es153 ex153
  replace hrun := hb_some hrun
  obtain ⟨h155, g155, hrun⟩ := hrun
  refine h_putF S (fun w q => hT w (i_MacroExpandModel w q)) t_MacroExpandModel t_MacroExpandModel_ok n_MacroExpandModel hK (ci := 1) rfl 30 (by decide) (hT _ fl_MacroExpandModel_62) rfl hin rfl rfl rfl hw hS g155 d_MacroExpandModel_init_155 (fun H locs hw hS => ?_)
  refine lv_aload_n hx hb d_MacroExpandModel_init_158 rfl (lv_at hl 0 rfl) ?_
  refine lv_bipush (v := (51 : Int32)) hx hb d_MacroExpandModel_init_159 (by decide) ?_
  replace hrun := hnew_some hrun
  obtain ⟨h161, dn161, ds161, eh161, hrun, en161, es161⟩ := hrun
  refine h_newic S (hT _ ac_int) hK (kd := 0) rfl hw hS (N := 51) (by decide) (by decide) (by decide) (show ((((((((((((((((((0 + 1) + 1) + 1) + 1) + 1) + 1) + 1) + 1) + 1) + 1) + 1) + 1) + 1) + 1) + 1) + 1) + 1) + 1) + 1 ≤ dnZ by omega) (show ((((((((((((((((((0 + 4096) + 3000) + 100) + 100) + 100) + 20000) + 1000) + 200000) + 200) + 4000) + 100) + 800) + 10) + 4000) + 300) + 512) + 51) + 51) + 51 ≤ dsZ by omega) d_MacroExpandModel_init_161 (fun H hw hS => ?_)
  rw [← eh161] at hw
  clear eh161
  obtain ⟨nx161, ex161⟩ : ∃ z, z = nx153 + 1 := ⟨_, rfl⟩
  rw [← ex161] at hw
  try rw [← ex161] at hrun
  replace hcR : (((((((((((((((((((0 + 1) + 1) + 1) + 1) + 1) + 1) + 1) + 1) + 1) + 1) + 1) + 1) + 1) + 1) + 1) + 1) + 1) + 1) + 1) + dn161 = dnZ := by omega
  replace hsR : (((((((((((((((((((0 + 4096) + 3000) + 100) + 100) + 100) + 20000) + 1000) + 200000) + 200) + 4000) + 100) + 800) + 10) + 4000) + 300) + 512) + 51) + 51) + 51) + ds161 = dsZ := by omega
  replace hnR : nx161 + dn161 = nxZ + dnZ := by omega
  clear en161 es161 ex161
  replace hrun := hb_some hrun
  obtain ⟨h163, g163, hrun⟩ := hrun
  refine h_putF S (fun w q => hT w (i_MacroExpandModel w q)) t_MacroExpandModel t_MacroExpandModel_ok n_MacroExpandModel hK (ci := 1) rfl 31 (by decide) (hT _ fl_MacroExpandModel_65) rfl hin rfl rfl rfl hw hS g163 d_MacroExpandModel_init_163 (fun H locs hw hS => ?_)
  refine lv_aload_n hx hb d_MacroExpandModel_init_166 rfl (lv_at hl 0 rfl) ?_
  refine lv_sipush (v := (2000 : Int32)) hx hb d_MacroExpandModel_init_167 (by decide) ?_
  replace hrun := hnew_some hrun
  obtain ⟨h170, dn170, ds170, eh170, hrun, en170, es170⟩ := hrun
  refine h_newic S (hT _ ac_int) hK (kd := 0) rfl hw hS (N := 2000) (by decide) (by decide) (by decide) (show (((((((((((((((((((0 + 1) + 1) + 1) + 1) + 1) + 1) + 1) + 1) + 1) + 1) + 1) + 1) + 1) + 1) + 1) + 1) + 1) + 1) + 1) + 1 ≤ dnZ by omega) (show (((((((((((((((((((0 + 4096) + 3000) + 100) + 100) + 100) + 20000) + 1000) + 200000) + 200) + 4000) + 100) + 800) + 10) + 4000) + 300) + 512) + 51) + 51) + 51) + 2000 ≤ dsZ by omega) d_MacroExpandModel_init_170 (fun H hw hS => ?_)
  rw [← eh170] at hw
  clear eh170
  obtain ⟨nx170, ex170⟩ : ∃ z, z = nx161 + 1 := ⟨_, rfl⟩
  rw [← ex170] at hw
  try rw [← ex170] at hrun
  replace hcR : ((((((((((((((((((((0 + 1) + 1) + 1) + 1) + 1) + 1) + 1) + 1) + 1) + 1) + 1) + 1) + 1) + 1) + 1) + 1) + 1) + 1) + 1) + 1) + dn170 = dnZ := by omega
  replace hsR : ((((((((((((((((((((0 + 4096) + 3000) + 100) + 100) + 100) + 20000) + 1000) + 200000) + 200) + 4000) + 100) + 800) + 10) + 4000) + 300) + 512) + 51) + 51) + 51) + 2000) + ds170 = dsZ := by omega
  replace hnR : nx170 + dn170 = nxZ + dnZ := by omega
  clear en170 es170 ex170
  replace hrun := hb_some hrun
  obtain ⟨h172, g172, hrun⟩ := hrun
  refine h_putF S (fun w q => hT w (i_MacroExpandModel w q)) t_MacroExpandModel t_MacroExpandModel_ok n_MacroExpandModel hK (ci := 1) rfl 34 (by decide) (hT _ fl_MacroExpandModel_68) rfl hin rfl rfl rfl hw hS g172 d_MacroExpandModel_init_172 (fun H locs hw hS => ?_)
  refine lv_aload_n hx hb d_MacroExpandModel_init_175 rfl (lv_at hl 0 rfl) ?_
  refine lv_bipush (v := (10 : Int32)) hx hb d_MacroExpandModel_init_176 (by decide) ?_
  replace hrun := hnew_some hrun
  obtain ⟨h178, dn178, ds178, eh178, hrun, en178, es178⟩ := hrun
  refine h_newic S (hT _ ac_int) hK (kd := 0) rfl hw hS (N := 10) (by decide) (by decide) (by decide) (show ((((((((((((((((((((0 + 1) + 1) + 1) + 1) + 1) + 1) + 1) + 1) + 1) + 1) + 1) + 1) + 1) + 1) + 1) + 1) + 1) + 1) + 1) + 1) + 1 ≤ dnZ by omega) (show ((((((((((((((((((((0 + 4096) + 3000) + 100) + 100) + 100) + 20000) + 1000) + 200000) + 200) + 4000) + 100) + 800) + 10) + 4000) + 300) + 512) + 51) + 51) + 51) + 2000) + 10 ≤ dsZ by omega) d_MacroExpandModel_init_178 (fun H hw hS => ?_)
  rw [← eh178] at hw
  clear eh178
  obtain ⟨nx178, ex178⟩ : ∃ z, z = nx170 + 1 := ⟨_, rfl⟩
  rw [← ex178] at hw
  try rw [← ex178] at hrun
  replace hcR : (((((((((((((((((((((0 + 1) + 1) + 1) + 1) + 1) + 1) + 1) + 1) + 1) + 1) + 1) + 1) + 1) + 1) + 1) + 1) + 1) + 1) + 1) + 1) + 1) + dn178 = dnZ := by omega
  replace hsR : (((((((((((((((((((((0 + 4096) + 3000) + 100) + 100) + 100) + 20000) + 1000) + 200000) + 200) + 4000) + 100) + 800) + 10) + 4000) + 300) + 512) + 51) + 51) + 51) + 2000) + 10) + ds178 = dsZ := by omega
  replace hnR : nx178 + dn178 = nxZ + dnZ := by omega
  clear en178 es178 ex178
  replace hrun := hb_some hrun
  obtain ⟨h180, g180, hrun⟩ := hrun
  refine h_putF S (fun w q => hT w (i_MacroExpandModel w q)) t_MacroExpandModel t_MacroExpandModel_ok n_MacroExpandModel hK (ci := 1) rfl 35 (by decide) (hT _ fl_MacroExpandModel_71) rfl hin rfl rfl rfl hw hS g180 d_MacroExpandModel_init_180 (fun H locs hw hS => ?_)
  refine lv_aload_n hx hb d_MacroExpandModel_init_183 rfl (lv_at hl 0 rfl) ?_
  refine lv_sipush (v := (200 : Int32)) hx hb d_MacroExpandModel_init_184 (by decide) ?_
  replace hrun := hnew_some hrun
  obtain ⟨h187, dn187, ds187, eh187, hrun, en187, es187⟩ := hrun
  refine h_newic S (hT _ ac_int) hK (kd := 0) rfl hw hS (N := 200) (by decide) (by decide) (by decide) (show (((((((((((((((((((((0 + 1) + 1) + 1) + 1) + 1) + 1) + 1) + 1) + 1) + 1) + 1) + 1) + 1) + 1) + 1) + 1) + 1) + 1) + 1) + 1) + 1) + 1 ≤ dnZ by omega) (show (((((((((((((((((((((0 + 4096) + 3000) + 100) + 100) + 100) + 20000) + 1000) + 200000) + 200) + 4000) + 100) + 800) + 10) + 4000) + 300) + 512) + 51) + 51) + 51) + 2000) + 10) + 200 ≤ dsZ by omega) d_MacroExpandModel_init_187 (fun H hw hS => ?_)
  rw [← eh187] at hw
  clear eh187
  obtain ⟨nx187, ex187⟩ : ∃ z, z = nx178 + 1 := ⟨_, rfl⟩
  rw [← ex187] at hw
  try rw [← ex187] at hrun
  replace hcR : ((((((((((((((((((((((0 + 1) + 1) + 1) + 1) + 1) + 1) + 1) + 1) + 1) + 1) + 1) + 1) + 1) + 1) + 1) + 1) + 1) + 1) + 1) + 1) + 1) + 1) + dn187 = dnZ := by omega
  replace hsR : ((((((((((((((((((((((0 + 4096) + 3000) + 100) + 100) + 100) + 20000) + 1000) + 200000) + 200) + 4000) + 100) + 800) + 10) + 4000) + 300) + 512) + 51) + 51) + 51) + 2000) + 10) + 200) + ds187 = dsZ := by omega
  replace hnR : nx187 + dn187 = nxZ + dnZ := by omega
  clear en187 es187 ex187
  replace hrun := hb_some hrun
  obtain ⟨h189, g189, hrun⟩ := hrun
  refine h_putF S (fun w q => hT w (i_MacroExpandModel w q)) t_MacroExpandModel t_MacroExpandModel_ok n_MacroExpandModel hK (ci := 1) rfl 36 (by decide) (hT _ fl_MacroExpandModel_74) rfl hin rfl rfl rfl hw hS g189 d_MacroExpandModel_init_189 (fun H locs hw hS => ?_)
  refine lv_aload_n hx hb d_MacroExpandModel_init_192 rfl (lv_at hl 0 rfl) ?_
  refine lv_lload_n hx hb d_MacroExpandModel_init_193 rfl (lv_at hl 1 rfl) ?_
  refine lv_lconst (v := (1 : Int64)) hx hb d_MacroExpandModel_init_194 (by decide) ?_
  refine W.lcmp hx hb d_MacroExpandModel_init_195 ?_
  refine lv_if_ge (tgt := 203) hx hb d_MacroExpandModel_init_196 (by decide) (fun c196 => ?_) (fun c196 => ?_)
  · rw [if_pos c196] at hrun
    refine lv_lload_n hx hb d_MacroExpandModel_init_203 rfl (lv_at hl 1 rfl) ?_
    refine lv_ldc2 hx hb S.2.2.2.1 (S.2.2.2.2 _ (hT _ ct_MacroExpandModel_77)) d_MacroExpandModel_init_204 ?_
    refine W.lcmp hx hb d_MacroExpandModel_init_207 ?_
    refine lv_if_le (tgt := 217) hx hb d_MacroExpandModel_init_208 (by decide) (fun c208 => ?_) (fun c208 => ?_)
    · rw [if_pos c208] at hrun
      refine lv_lload_n hx hb d_MacroExpandModel_init_217 rfl (lv_at hl 1 rfl) ?_
      refine lv_l2i hx hb d_MacroExpandModel_init_218 rfl ?_
      exact j_219 (some a0) i1.toInt32 ((((((((((((((((((((((0 + 1) + 1) + 1) + 1) + 1) + 1) + 1) + 1) + 1) + 1) + 1) + 1) + 1) + 1) + 1) + 1) + 1) + 1) + 1) + 1) + 1) + 1) ((((((((((((((((((((((0 + 4096) + 3000) + 100) + 100) + 100) + 20000) + 1000) + 200000) + 200) + 4000) + 100) + 800) + 10) + 4000) + 300) + 512) + 51) + 51) + 51) + 2000) + 10) + 200) _ _ nx187 h189 _ _ _ hrun hcR hsR hnR hw hS (lv_sub hl [0] rfl)
    · rw [if_neg c208] at hrun
      refine lv_sipush (v := (20000 : Int32)) hx hb d_MacroExpandModel_init_211 (by decide) ?_
      refine lv_goto (tgt := 219) hx hb d_MacroExpandModel_init_214 (by decide) ?_
      exact j_219 (some a0) (20000 : Int32) ((((((((((((((((((((((0 + 1) + 1) + 1) + 1) + 1) + 1) + 1) + 1) + 1) + 1) + 1) + 1) + 1) + 1) + 1) + 1) + 1) + 1) + 1) + 1) + 1) + 1) ((((((((((((((((((((((0 + 4096) + 3000) + 100) + 100) + 100) + 20000) + 1000) + 200000) + 200) + 4000) + 100) + 800) + 10) + 4000) + 300) + 512) + 51) + 51) + 51) + 2000) + 10) + 200) _ _ nx187 h189 _ _ _ hrun hcR hsR hnR hw hS (lv_sub hl [0] rfl)
  · rw [if_neg c196] at hrun
    refine lv_iconst (v := (1 : Int32)) hx hb d_MacroExpandModel_init_199 (by decide) ?_
    refine lv_goto (tgt := 219) hx hb d_MacroExpandModel_init_200 (by decide) ?_
    exact j_219 (some a0) (1 : Int32) ((((((((((((((((((((((0 + 1) + 1) + 1) + 1) + 1) + 1) + 1) + 1) + 1) + 1) + 1) + 1) + 1) + 1) + 1) + 1) + 1) + 1) + 1) + 1) + 1) + 1) ((((((((((((((((((((((0 + 4096) + 3000) + 100) + 100) + 100) + 20000) + 1000) + 200000) + 200) + 4000) + 100) + 800) + 10) + 4000) + 300) + 512) + 51) + 51) + 51) + 2000) + 10) + 200) _ _ nx187 h189 _ _ _ hrun hcR hsR hnR hw hS (lv_sub hl [0] rfl)
set_option maxHeartbeats 4000000 in
set_option maxRecDepth 100000 in
theorem c_MacroExpandModel_in (l : Launch) (D : va_G) (dA : Nat → ClassId) (b0 : Nat) (i0 : Int32) (i1 : Int32) (i2 : Int32) (nx : Nat) {h : hH} {r : Int32} (hrun : f_MacroExpandModel_in i0 i1 i2 h = some r) : Met l y_MacroExpandModel_in w_MacroExpandModel_in ({ frames := 0, cells := 0, slots := 0, locals := 0 } : Room) (va_Pc [.int i0, .int i1, .int i2] (hB D dA b0 nx h)) (va_Qi (fun r' (_ : Unit) => r' = r) (fun (_ : Unit) t => hW D dA classes b0 nx h t.heap) (hA b0)) 0 0 (hA b0) := by
  refine Met.ofW (cc := b_MacroExpandModel_in) (maxL := 3) (ret := (some .boolean)) (by decide) rfl ?_
  intro p e s m args below meth c s₁ B hml hv
  obtain ⟨rfl, hw, hK, hN⟩ := hv
  have hx := B.exec
  have hb := B.bytes
  have hr := B.returns
  have hlocks := B.notSynchronized
  have S : CallFix p m c b_MacroExpandModel_in 3 s ([.int i0, .int i1, .int i2] : List Value).toArray w_MacroExpandModel_in R_MacroExpandModel := ⟨hx, hb, hml, findClass_of_methodNamed B.named, atoms_spec (ws := w_MacroExpandModel_in) B.pre⟩
  have hT : ∀ w ∈ tbl, w ∈ w_MacroExpandModel_in := fun _ q => List.mem_cons_of_mem _ q
  have hS : va_S (hA b0) s.heap s.heap [] := va_S.rf
  have hl := lv_entry ([.int i0, .int i1, .int i2]) (n := 3) (Nat.le_of_ble_eq_true rfl)
  rw [lg_entry_eq]
  generalize (lg_sl ([.int i0, .int i1, .int i2]) ++ List.replicate (3 - (lg_sl ([.int i0, .int i1, .int i2])).length) Slot.unset).toArray = ls at hl ⊢
  have hl : lv_has ls 3 [(0, .int i0), (1, .int i1), (2, .int i2)] := hl
  unfold f_MacroExpandModel_in at hrun
  refine lv_iload_n hx hb d_MacroExpandModel_in_0 rfl (lv_at hl 0 rfl) ?_
  refine lv_iload_n hx hb d_MacroExpandModel_in_1 rfl (lv_at hl 1 rfl) ?_
  refine lv_icmp_lt (tgt := 14) hx hb d_MacroExpandModel_in_2 (by decide) (fun c2 => ?_) (fun c2 => ?_)
  · rw [if_pos c2] at hrun
    refine lv_iconst (v := (0 : Int32)) hx hb d_MacroExpandModel_in_14 (by decide) ?_
    cases hrun
    exact W.zret hx hb hr (by decide) (fun t ht hW9 => ⟨⟨_, (), rfl, rfl, by show hW D dA classes b0 _ _ t.heap; rw [ht]; exact hw⟩, hS.F ht⟩) hS.2.2 d_MacroExpandModel_in_15
  · rw [if_neg c2] at hrun
    refine lv_iload_n hx hb d_MacroExpandModel_in_5 rfl (lv_at hl 0 rfl) ?_
    refine lv_iload_n hx hb d_MacroExpandModel_in_6 rfl (lv_at hl 2 rfl) ?_
    refine lv_icmp_gt (tgt := 14) hx hb d_MacroExpandModel_in_7 (by decide) (fun c7 => ?_) (fun c7 => ?_)
    · rw [if_pos c7] at hrun
      refine lv_iconst (v := (0 : Int32)) hx hb d_MacroExpandModel_in_14 (by decide) ?_
      cases hrun
      exact W.zret hx hb hr (by decide) (fun t ht hW9 => ⟨⟨_, (), rfl, rfl, by show hW D dA classes b0 _ _ t.heap; rw [ht]; exact hw⟩, hS.F ht⟩) hS.2.2 d_MacroExpandModel_in_15
    · rw [if_neg c7] at hrun
      refine lv_iconst (v := (1 : Int32)) hx hb d_MacroExpandModel_in_10 (by decide) ?_
      refine lv_goto (tgt := 15) hx hb d_MacroExpandModel_in_11 (by decide) ?_
      cases hrun
      exact W.zret hx hb hr (by decide) (fun t ht hW9 => ⟨⟨_, (), rfl, rfl, by show hW D dA classes b0 _ _ t.heap; rw [ht]; exact hw⟩, hS.F ht⟩) hS.2.2 d_MacroExpandModel_in_15
set_option maxHeartbeats 4000000 in
set_option maxRecDepth 100000 in
theorem c_MacroExpandModel_isName (l : Launch) (D : va_G) (dA : Nat → ClassId) (b0 : Nat) (i0 : Int32) (nx : Nat) {h : hH} {r : Int32} (hrun : f_MacroExpandModel_isName i0 h = some r) : Met l y_MacroExpandModel_isName w_MacroExpandModel_isName ({ frames := 1, cells := 0, slots := 0, locals := 22 } : Room) (va_Pc [.int i0] (hB D dA b0 nx h)) (va_Qi (fun r' (_ : Unit) => r' = r) (fun (_ : Unit) t => hW D dA classes b0 nx h t.heap) (hA b0)) 0 0 (hA b0) := by
  refine Met.ofW (cc := b_MacroExpandModel_isName) (maxL := 1) (ret := (some .boolean)) (by decide) rfl ?_
  intro p e s m args below meth c s₁ B hml hv
  obtain ⟨rfl, hw, hK, hN⟩ := hv
  have hx := B.exec
  have hb := B.bytes
  have hr := B.returns
  have hlocks := B.notSynchronized
  have S : CallFix p m c b_MacroExpandModel_isName 1 s ([.int i0] : List Value).toArray w_MacroExpandModel_isName R_MacroExpandModel := ⟨hx, hb, hml, findClass_of_methodNamed B.named, atoms_spec (ws := w_MacroExpandModel_isName) B.pre⟩
  have hT : ∀ w ∈ tbl, w ∈ w_MacroExpandModel_isName := fun _ q => List.mem_cons_of_mem _ q
  have hS : va_S (hA b0) s.heap s.heap [] := va_S.rf
  have hl := lv_entry ([.int i0]) (n := 1) (Nat.le_of_ble_eq_true rfl)
  rw [lg_entry_eq]
  generalize (lg_sl ([.int i0]) ++ List.replicate (1 - (lg_sl ([.int i0])).length) Slot.unset).toArray = ls at hl ⊢
  have hl : lv_has ls 1 [(0, .int i0)] := hl
  unfold f_MacroExpandModel_isName at hrun
  refine lv_iload_n hx hb d_MacroExpandModel_isName_0 rfl (lv_at hl 0 rfl) ?_
  refine lv_sipush (v := (1000 : Int32)) hx hb d_MacroExpandModel_isName_1 (by decide) ?_
  refine lv_sipush (v := (1199 : Int32)) hx hb d_MacroExpandModel_isName_4 (by decide) ?_
  replace hrun := hb_some hrun
  obtain ⟨v7, g7, hrun⟩ := hrun
  refine h_ci (h_runS S (As := [.int i0, .int (1000 : Int32), .int (1199 : Int32)]) (rest := []) (c_MacroExpandModel_in l D dA b0 i0 (1000 : Int32) (1199 : Int32) nx g7) (va_cwS 3 S.2.2.2.2 (h_good _ (h_in3 ml_MacroExpandModel_83 sm_MacroExpandModel_in it_MacroExpandModel) cd_MacroExpandModel_in) rfl rfl rfl (by decide +kernel) ⟨Nat.le_of_ble_eq_true rfl, Nat.le_of_ble_eq_true rfl⟩) hK hN hw rfl hl.1 (lv_room (Nat.le_of_ble_eq_true rfl)) d_MacroExpandModel_isName_7 ⟨Nat.le_refl _, Nat.le_refl _⟩) hS (fun H locs hw hS => ?_)
  have zz : v7 = 0 ∨ v7 = 1 := Classical.byContradiction fun q => by rw [if_neg q] at hrun; cases hrun
  rw [if_pos zz] at hrun
  cases hrun
  exact W.zret hx hb hr (h_narZ zz) (fun t ht hW9 => ⟨⟨_, (), rfl, rfl, by show hW D dA classes b0 _ _ t.heap; rw [ht]; exact hw⟩, hS.F ht⟩) hS.2.2 d_MacroExpandModel_isName_10
set_option maxHeartbeats 4000000 in
set_option maxRecDepth 100000 in
theorem c_MacroExpandModel_isParameter (l : Launch) (D : va_G) (dA : Nat → ClassId) (b0 : Nat) (i0 : Int32) (nx : Nat) {h : hH} {r : Int32} (hrun : f_MacroExpandModel_isParameter i0 h = some r) : Met l y_MacroExpandModel_isParameter w_MacroExpandModel_isParameter ({ frames := 1, cells := 0, slots := 0, locals := 22 } : Room) (va_Pc [.int i0] (hB D dA b0 nx h)) (va_Qi (fun r' (_ : Unit) => r' = r) (fun (_ : Unit) t => hW D dA classes b0 nx h t.heap) (hA b0)) 0 0 (hA b0) := by
  refine Met.ofW (cc := b_MacroExpandModel_isParameter) (maxL := 1) (ret := (some .boolean)) (by decide) rfl ?_
  intro p e s m args below meth c s₁ B hml hv
  obtain ⟨rfl, hw, hK, hN⟩ := hv
  have hx := B.exec
  have hb := B.bytes
  have hr := B.returns
  have hlocks := B.notSynchronized
  have S : CallFix p m c b_MacroExpandModel_isParameter 1 s ([.int i0] : List Value).toArray w_MacroExpandModel_isParameter R_MacroExpandModel := ⟨hx, hb, hml, findClass_of_methodNamed B.named, atoms_spec (ws := w_MacroExpandModel_isParameter) B.pre⟩
  have hT : ∀ w ∈ tbl, w ∈ w_MacroExpandModel_isParameter := fun _ q => List.mem_cons_of_mem _ q
  have hS : va_S (hA b0) s.heap s.heap [] := va_S.rf
  have hl := lv_entry ([.int i0]) (n := 1) (Nat.le_of_ble_eq_true rfl)
  rw [lg_entry_eq]
  generalize (lg_sl ([.int i0]) ++ List.replicate (1 - (lg_sl ([.int i0])).length) Slot.unset).toArray = ls at hl ⊢
  have hl : lv_has ls 1 [(0, .int i0)] := hl
  unfold f_MacroExpandModel_isParameter at hrun
  refine lv_iload_n hx hb d_MacroExpandModel_isParameter_0 rfl (lv_at hl 0 rfl) ?_
  refine lv_sipush (v := (311 : Int32)) hx hb d_MacroExpandModel_isParameter_1 (by decide) ?_
  refine lv_sipush (v := (399 : Int32)) hx hb d_MacroExpandModel_isParameter_4 (by decide) ?_
  replace hrun := hb_some hrun
  obtain ⟨v7, g7, hrun⟩ := hrun
  refine h_ci (h_runS S (As := [.int i0, .int (311 : Int32), .int (399 : Int32)]) (rest := []) (c_MacroExpandModel_in l D dA b0 i0 (311 : Int32) (399 : Int32) nx g7) (va_cwS 3 S.2.2.2.2 (h_good _ (h_in3 ml_MacroExpandModel_83 sm_MacroExpandModel_in it_MacroExpandModel) cd_MacroExpandModel_in) rfl rfl rfl (by decide +kernel) ⟨Nat.le_of_ble_eq_true rfl, Nat.le_of_ble_eq_true rfl⟩) hK hN hw rfl hl.1 (lv_room (Nat.le_of_ble_eq_true rfl)) d_MacroExpandModel_isParameter_7 ⟨Nat.le_refl _, Nat.le_refl _⟩) hS (fun H locs hw hS => ?_)
  refine lv_if_eq (tgt := 24) hx hb d_MacroExpandModel_isParameter_10 (by decide) (fun c10 => ?_) (fun c10 => ?_)
  · rw [if_pos c10] at hrun
    refine lv_iconst (v := (0 : Int32)) hx hb d_MacroExpandModel_isParameter_24 (by decide) ?_
    cases hrun
    exact W.zret hx hb hr (by decide) (fun t ht hW9 => ⟨⟨_, (), rfl, rfl, by show hW D dA classes b0 _ _ t.heap; rw [ht]; exact hw⟩, hS.F ht⟩) hS.2.2 d_MacroExpandModel_isParameter_25
  · rw [if_neg c10] at hrun
    refine lv_iload_n hx hb d_MacroExpandModel_isParameter_13 rfl (lv_at hl 0 rfl) ?_
    refine lv_bipush (v := (10 : Int32)) hx hb d_MacroExpandModel_isParameter_14 (by decide) ?_
    have z16 : ¬ (10 : Int32) = 0 := fun q => by rw [if_pos q] at hrun; cases hrun
    rw [if_neg z16] at hrun
    refine lv_irem hx hb d_MacroExpandModel_isParameter_16 z16 ?_
    refine lv_if_eq (tgt := 24) hx hb d_MacroExpandModel_isParameter_17 (by decide) (fun c17 => ?_) (fun c17 => ?_)
    · rw [if_pos c17] at hrun
      refine lv_iconst (v := (0 : Int32)) hx hb d_MacroExpandModel_isParameter_24 (by decide) ?_
      cases hrun
      exact W.zret hx hb hr (by decide) (fun t ht hW9 => ⟨⟨_, (), rfl, rfl, by show hW D dA classes b0 _ _ t.heap; rw [ht]; exact hw⟩, hS.F ht⟩) hS.2.2 d_MacroExpandModel_isParameter_25
    · rw [if_neg c17] at hrun
      refine lv_iconst (v := (1 : Int32)) hx hb d_MacroExpandModel_isParameter_20 (by decide) ?_
      refine lv_goto (tgt := 25) hx hb d_MacroExpandModel_isParameter_21 (by decide) ?_
      cases hrun
      exact W.zret hx hb hr (by decide) (fun t ht hW9 => ⟨⟨_, (), rfl, rfl, by show hW D dA classes b0 _ _ t.heap; rw [ht]; exact hw⟩, hS.F ht⟩) hS.2.2 d_MacroExpandModel_isParameter_25
set_option maxHeartbeats 4000000 in
set_option maxRecDepth 100000 in
theorem c_MacroExpandModel_isToken (l : Launch) (D : va_G) (dA : Nat → ClassId) (b0 : Nat) (i0 : Int32) (nx : Nat) {h : hH} {r : Int32} (hrun : f_MacroExpandModel_isToken i0 h = some r) : Met l y_MacroExpandModel_isToken w_MacroExpandModel_isToken ({ frames := 2, cells := 0, slots := 0, locals := 42 } : Room) (va_Pc [.int i0] (hB D dA b0 nx h)) (va_Qi (fun r' (_ : Unit) => r' = r) (fun (_ : Unit) t => hW D dA classes b0 nx h t.heap) (hA b0)) 0 0 (hA b0) := by
  refine Met.ofW (cc := b_MacroExpandModel_isToken) (maxL := 1) (ret := (some .boolean)) (by decide) rfl ?_
  intro p e s m args below meth c s₁ B hml hv
  obtain ⟨rfl, hw, hK, hN⟩ := hv
  have hx := B.exec
  have hb := B.bytes
  have hr := B.returns
  have hlocks := B.notSynchronized
  have S : CallFix p m c b_MacroExpandModel_isToken 1 s ([.int i0] : List Value).toArray w_MacroExpandModel_isToken R_MacroExpandModel := ⟨hx, hb, hml, findClass_of_methodNamed B.named, atoms_spec (ws := w_MacroExpandModel_isToken) B.pre⟩
  have hT : ∀ w ∈ tbl, w ∈ w_MacroExpandModel_isToken := fun _ q => List.mem_cons_of_mem _ q
  have hS : va_S (hA b0) s.heap s.heap [] := va_S.rf
  have hl := lv_entry ([.int i0]) (n := 1) (Nat.le_of_ble_eq_true rfl)
  rw [lg_entry_eq]
  generalize (lg_sl ([.int i0]) ++ List.replicate (1 - (lg_sl ([.int i0])).length) Slot.unset).toArray = ls at hl ⊢
  have hl : lv_has ls 1 [(0, .int i0)] := hl
  unfold f_MacroExpandModel_isToken at hrun
  refine lv_iload_n hx hb d_MacroExpandModel_isToken_0 rfl (lv_at hl 0 rfl) ?_
  refine lv_iconst (v := (0 : Int32)) hx hb d_MacroExpandModel_isToken_1 (by decide) ?_
  refine lv_sipush (v := (258 : Int32)) hx hb d_MacroExpandModel_isToken_2 (by decide) ?_
  replace hrun := hb_some hrun
  obtain ⟨v5, g5, hrun⟩ := hrun
  refine h_ci (h_runS S (As := [.int i0, .int (0 : Int32), .int (258 : Int32)]) (rest := []) (c_MacroExpandModel_in l D dA b0 i0 (0 : Int32) (258 : Int32) nx g5) (va_cwS 3 S.2.2.2.2 (h_good _ (h_in3 ml_MacroExpandModel_83 sm_MacroExpandModel_in it_MacroExpandModel) cd_MacroExpandModel_in) rfl rfl rfl (by decide +kernel) ⟨Nat.le_of_ble_eq_true rfl, Nat.le_of_ble_eq_true rfl⟩) hK hN hw rfl hl.1 (lv_room (Nat.le_of_ble_eq_true rfl)) d_MacroExpandModel_isToken_5 ⟨Nat.le_refl _, Nat.le_refl _⟩) hS (fun H locs hw hS => ?_)
  refine lv_if_ne (tgt := 38) hx hb d_MacroExpandModel_isToken_8 (by decide) (fun c8 => ?_) (fun c8 => ?_)
  · rw [if_neg c8] at hrun
    refine lv_iconst (v := (1 : Int32)) hx hb d_MacroExpandModel_isToken_38 (by decide) ?_
    refine lv_goto (tgt := 43) hx hb d_MacroExpandModel_isToken_39 (by decide) ?_
    cases hrun
    exact W.zret hx hb hr (by decide) (fun t ht hW9 => ⟨⟨_, (), rfl, rfl, by show hW D dA classes b0 _ _ t.heap; rw [ht]; exact hw⟩, hS.F ht⟩) hS.2.2 d_MacroExpandModel_isToken_43
  · rw [if_pos c8] at hrun
    refine lv_iload_n hx hb d_MacroExpandModel_isToken_11 rfl (lv_at hl 0 rfl) ?_
    refine lv_sipush (v := (260 : Int32)) hx hb d_MacroExpandModel_isToken_12 (by decide) ?_
    refine lv_sipush (v := (269 : Int32)) hx hb d_MacroExpandModel_isToken_15 (by decide) ?_
    replace hrun := hb_some hrun
    obtain ⟨v18, g18, hrun⟩ := hrun
    refine h_ci (h_runS S (As := [.int i0, .int (260 : Int32), .int (269 : Int32)]) (rest := []) (c_MacroExpandModel_in l D dA b0 i0 (260 : Int32) (269 : Int32) nx g18) (va_cwS 3 S.2.2.2.2 (h_good _ (h_in3 ml_MacroExpandModel_83 sm_MacroExpandModel_in it_MacroExpandModel) cd_MacroExpandModel_in) rfl rfl rfl (by decide +kernel) ⟨Nat.le_of_ble_eq_true rfl, Nat.le_of_ble_eq_true rfl⟩) hK hN hw rfl hl.1 (lv_room (Nat.le_of_ble_eq_true rfl)) d_MacroExpandModel_isToken_18 ⟨Nat.le_refl _, Nat.le_refl _⟩) hS (fun H locs hw hS => ?_)
    refine lv_if_ne (tgt := 38) hx hb d_MacroExpandModel_isToken_21 (by decide) (fun c21 => ?_) (fun c21 => ?_)
    · rw [if_neg c21] at hrun
      refine lv_iconst (v := (1 : Int32)) hx hb d_MacroExpandModel_isToken_38 (by decide) ?_
      refine lv_goto (tgt := 43) hx hb d_MacroExpandModel_isToken_39 (by decide) ?_
      cases hrun
      exact W.zret hx hb hr (by decide) (fun t ht hW9 => ⟨⟨_, (), rfl, rfl, by show hW D dA classes b0 _ _ t.heap; rw [ht]; exact hw⟩, hS.F ht⟩) hS.2.2 d_MacroExpandModel_isToken_43
    · rw [if_pos c21] at hrun
      refine lv_iload_n hx hb d_MacroExpandModel_isToken_24 rfl (lv_at hl 0 rfl) ?_
      replace hrun := hb_some hrun
      obtain ⟨v25, g25, hrun⟩ := hrun
      refine h_ci (h_runS S (As := [.int i0]) (rest := []) (c_MacroExpandModel_isParameter l D dA b0 i0 nx g25) (va_cwS 1 S.2.2.2.2 (h_good _ (h_in3 ml_MacroExpandModel_87 sm_MacroExpandModel_isParameter it_MacroExpandModel) cd_MacroExpandModel_isParameter) rfl rfl rfl (by decide +kernel) ⟨Nat.le_of_ble_eq_true rfl, Nat.le_of_ble_eq_true rfl⟩) hK hN hw rfl hl.1 (lv_room (Nat.le_of_ble_eq_true rfl)) d_MacroExpandModel_isToken_25 ⟨Nat.le_refl _, Nat.le_refl _⟩) hS (fun H locs hw hS => ?_)
      refine lv_if_ne (tgt := 38) hx hb d_MacroExpandModel_isToken_28 (by decide) (fun c28 => ?_) (fun c28 => ?_)
      · rw [if_neg c28] at hrun
        refine lv_iconst (v := (1 : Int32)) hx hb d_MacroExpandModel_isToken_38 (by decide) ?_
        refine lv_goto (tgt := 43) hx hb d_MacroExpandModel_isToken_39 (by decide) ?_
        cases hrun
        exact W.zret hx hb hr (by decide) (fun t ht hW9 => ⟨⟨_, (), rfl, rfl, by show hW D dA classes b0 _ _ t.heap; rw [ht]; exact hw⟩, hS.F ht⟩) hS.2.2 d_MacroExpandModel_isToken_43
      · rw [if_pos c28] at hrun
        refine lv_iload_n hx hb d_MacroExpandModel_isToken_31 rfl (lv_at hl 0 rfl) ?_
        replace hrun := hb_some hrun
        obtain ⟨v32, g32, hrun⟩ := hrun
        refine h_ci (h_runS S (As := [.int i0]) (rest := []) (c_MacroExpandModel_isName l D dA b0 i0 nx g32) (va_cwS 1 S.2.2.2.2 (h_good _ (h_in3 ml_MacroExpandModel_91 sm_MacroExpandModel_isName it_MacroExpandModel) cd_MacroExpandModel_isName) rfl rfl rfl (by decide +kernel) ⟨Nat.le_of_ble_eq_true rfl, Nat.le_of_ble_eq_true rfl⟩) hK hN hw rfl hl.1 (lv_room (Nat.le_of_ble_eq_true rfl)) d_MacroExpandModel_isToken_32 ⟨Nat.le_refl _, Nat.le_refl _⟩) hS (fun H locs hw hS => ?_)
        refine lv_if_eq (tgt := 42) hx hb d_MacroExpandModel_isToken_35 (by decide) (fun c35 => ?_) (fun c35 => ?_)
        · rw [if_pos c35] at hrun
          refine lv_iconst (v := (0 : Int32)) hx hb d_MacroExpandModel_isToken_42 (by decide) ?_
          cases hrun
          exact W.zret hx hb hr (by decide) (fun t ht hW9 => ⟨⟨_, (), rfl, rfl, by show hW D dA classes b0 _ _ t.heap; rw [ht]; exact hw⟩, hS.F ht⟩) hS.2.2 d_MacroExpandModel_isToken_43
        · rw [if_neg c35] at hrun
          refine lv_iconst (v := (1 : Int32)) hx hb d_MacroExpandModel_isToken_38 (by decide) ?_
          refine lv_goto (tgt := 43) hx hb d_MacroExpandModel_isToken_39 (by decide) ?_
          cases hrun
          exact W.zret hx hb hr (by decide) (fun t ht hW9 => ⟨⟨_, (), rfl, rfl, by show hW D dA classes b0 _ _ t.heap; rw [ht]; exact hw⟩, hS.F ht⟩) hS.2.2 d_MacroExpandModel_isToken_43
set_option maxHeartbeats 4000000 in
set_option maxRecDepth 100000 in
theorem c_MacroExpandModel_newMacro (l : Launch) (D : va_G) (dA : Nat → ClassId) (b0 : Nat) (n : Nat) (a0 : Nat) (i1 : Int32) (i2 : Int32) (i3 : Int32) (nx : Nat) {h h' : hH} {r : Int32} (hrun : f_MacroExpandModel_newMacro n a0 i1 i2 i3 h = some (r, h')) : Met l y_MacroExpandModel_newMacro w_MacroExpandModel_newMacro ({ frames := 0, cells := 0, slots := 0, locals := 0 } : Room) (va_Pc [.ref a0, .int i1, .int i2, .int i3] (hB D dA b0 nx h)) (va_Qi (fun r' (_ : Unit) => r' = r) (fun (_ : Unit) t => hW D dA classes b0 nx h' t.heap) (hA b0)) 0 0 (hA b0) := by
  refine Met.ofW (cc := b_MacroExpandModel_newMacro) (maxL := 6) (ret := (some .int)) (by decide) rfl ?_
  intro p e s m args below meth c s₁ B hml hv
  obtain ⟨rfl, hw, hK, hN⟩ := hv
  have hx := B.exec
  have hb := B.bytes
  have hr := B.returns
  have hlocks := B.notSynchronized
  have S : CallFix p m c b_MacroExpandModel_newMacro 6 s ([.ref a0, .int i1, .int i2, .int i3] : List Value).toArray w_MacroExpandModel_newMacro R_MacroExpandModel := ⟨hx, hb, hml, findClass_of_methodNamed B.named, atoms_spec (ws := w_MacroExpandModel_newMacro) B.pre⟩
  have hT : ∀ w ∈ tbl, w ∈ w_MacroExpandModel_newMacro := fun _ q => List.mem_cons_of_mem _ q
  have hS : va_S (hA b0) s.heap s.heap [] := va_S.rf
  have hl := lv_entry ([.ref a0, .int i1, .int i2, .int i3]) (n := 6) (Nat.le_of_ble_eq_true rfl)
  rw [lg_entry_eq]
  generalize (lg_sl ([.ref a0, .int i1, .int i2, .int i3]) ++ List.replicate (6 - (lg_sl ([.ref a0, .int i1, .int i2, .int i3])).length) Slot.unset).toArray = ls at hl ⊢
  have hl : lv_has ls 6 [(0, .ref a0), (1, .int i1), (2, .int i2), (3, .int i3)] := hl
  have l_81 : ∀ (x1 : Int32) (x3 : Int32) (x4 : Int32) (n9 : Nat) (x9 : Int32) (h : hH) (b9 : (Unit)) (h9 : hH) (H : Heap) (locs : List Loc) (ls : Array Slot), hloopW (f_MacroExpandModel_newMacro_b81 n a0 x1 x3 x4) n9 x9 h = some (b9, h9) → hW D dA classes b0 nx h H → va_S (hA b0) s.heap H locs → lv_has ls 6 (match x9 with | x5 => [(0, .ref a0), (1, .int x1), (3, .int x3), (4, .int x4), (5, .int x5)]) → (b9 = () → ∀ (H : Heap) (locs : List Loc) (ls : Array Slot), hW D dA classes b0 nx h9 H → va_S (hA b0) s.heap H locs → lv_has ls 6 [(4, .int x4)] → W p l e (headSpec w_MacroExpandModel_newMacro ({ frames := 0, cells := 0, slots := 0, locals := 0 } : Room)).room s m ([.ref a0, .int i1, .int i2, .int i3] : List Value).toArray below meth c H locs 0 0 (MQ below (va_Qi (fun r' (_ : Unit) => r' = r) (fun (_ : Unit) t => hW D dA classes b0 nx h' t.heap) (hA b0)) ([.ref a0, .int i1, .int i2, .int i3] : List Value).toArray s 0 0 (hA b0)) (F0 m 117 ls [])) → W p l e (headSpec w_MacroExpandModel_newMacro ({ frames := 0, cells := 0, slots := 0, locals := 0 } : Room)).room s m ([.ref a0, .int i1, .int i2, .int i3] : List Value).toArray below meth c H locs 0 0 (MQ below (va_Qi (fun r' (_ : Unit) => r' = r) (fun (_ : Unit) t => hW D dA classes b0 nx h' t.heap) (hA b0)) ([.ref a0, .int i1, .int i2, .int i3] : List Value).toArray s 0 0 (hA b0)) (F0 m 81 ls []) := by
    intro x1 x3 x4 n9
    induction n9 with
    | zero =>
      intro x9 h b9 h9 H locs ls hrun
      cases hrun
    | succ n9 ih =>
      rintro x5 h b9 h9 H locs ls hrun hw hS hl k0
      have hl : lv_has ls 6 [(0, .ref a0), (1, .int x1), (3, .int x3), (4, .int x4), (5, .int x5)] := hl
      unfold hloopW at hrun
      obtain ⟨q9, h9b, hbody, hrun9⟩ := hbW_some hrun
      have K0 : (∀ (z5 : Int32), q9 = .inl z5 → ∀ (H : Heap) (locs : List Loc) (ls : Array Slot), hW D dA classes b0 nx h9b H → va_S (hA b0) s.heap H locs → lv_has ls 6 [(0, .ref a0), (1, .int x1), (3, .int x3), (4, .int x4), (5, .int z5)] → W p l e (headSpec w_MacroExpandModel_newMacro ({ frames := 0, cells := 0, slots := 0, locals := 0 } : Room)).room s m ([.ref a0, .int i1, .int i2, .int i3] : List Value).toArray below meth c H locs 0 0 (MQ below (va_Qi (fun r' (_ : Unit) => r' = r) (fun (_ : Unit) t => hW D dA classes b0 nx h' t.heap) (hA b0)) ([.ref a0, .int i1, .int i2, .int i3] : List Value).toArray s 0 0 (hA b0)) (F0 m 81 ls [])) := by
        intro z5 eq9 H locs ls hw hS hl
        subst eq9
        exact ih z5 h9b b9 h9 H locs ls hrun9 hw hS hl k0
      have K1 : (q9 = .inr () → ∀ (H : Heap) (locs : List Loc) (ls : Array Slot), hW D dA classes b0 nx h9b H → va_S (hA b0) s.heap H locs → lv_has ls 6 [(4, .int x4)] → W p l e (headSpec w_MacroExpandModel_newMacro ({ frames := 0, cells := 0, slots := 0, locals := 0 } : Room)).room s m ([.ref a0, .int i1, .int i2, .int i3] : List Value).toArray below meth c H locs 0 0 (MQ below (va_Qi (fun r' (_ : Unit) => r' = r) (fun (_ : Unit) t => hW D dA classes b0 nx h' t.heap) (hA b0)) ([.ref a0, .int i1, .int i2, .int i3] : List Value).toArray s 0 0 (hA b0)) (F0 m 117 ls [])) := by
        intro  eq9 H locs ls hw hS hl
        subst eq9
        cases hrun9
        exact k0  rfl H locs ls hw hS hl
      clear hrun hrun9 ih k0
      have hrun := hbody
      clear hbody
      dsimp only [f_MacroExpandModel_newMacro_b81] at hrun
      refine lv_iload hx hb d_MacroExpandModel_newMacro_81 (lv_at hl 4 rfl) ?_
      refine lv_aload_n hx hb d_MacroExpandModel_newMacro_83 rfl (lv_at hl 0 rfl) ?_
      replace hrun := hb_some hrun
      obtain ⟨v84, g84, hrun⟩ := hrun
      refine h_getI S (fun w q => hT w (i_MacroExpandModel w q)) hK (ci := 1) rfl 14 (by decide) (hT _ fl_MacroExpandModel_97) hw g84 d_MacroExpandModel_newMacro_84 ?_
      refine lv_icmp_ge (tgt := 117) hx hb d_MacroExpandModel_newMacro_87 (by decide) (fun c87 => ?_) (fun c87 => ?_)
      · rw [if_pos c87] at hrun
        cases hrun
        exact K1  rfl H locs ls hw hS (lv_sub hl [3] rfl)
      · rw [if_neg c87] at hrun
        refine lv_iload_n hx hb d_MacroExpandModel_newMacro_90 rfl (lv_at hl 2 rfl) ?_
        refine lv_iconst (v := (4 : Int32)) hx hb d_MacroExpandModel_newMacro_91 (by decide) ?_
        refine lv_iand hx hb d_MacroExpandModel_newMacro_92 ?_
        refine lv_if_eq (tgt := 117) hx hb d_MacroExpandModel_newMacro_93 (by decide) (fun c93 => ?_) (fun c93 => ?_)
        · rw [if_pos c93] at hrun
          cases hrun
          exact K1  rfl H locs ls hw hS (lv_sub hl [3] rfl)
        · rw [if_neg c93] at hrun
          refine lv_aload_n hx hb d_MacroExpandModel_newMacro_96 rfl (lv_at hl 0 rfl) ?_
          replace hrun := hb_some hrun
          obtain ⟨v97, g97, hrun⟩ := hrun
          refine h_getR S (fun w q => hT w (i_MacroExpandModel w q)) hK (ci := 1) rfl 15 (by decide) (hT _ fl_MacroExpandModel_38) hw g97 d_MacroExpandModel_newMacro_97 ?_
          refine lv_sipush (v := (200 : Int32)) hx hb d_MacroExpandModel_newMacro_100 (by decide) ?_
          refine lv_iload hx hb d_MacroExpandModel_newMacro_103 (lv_at hl 4 rfl) ?_
          refine lv_imul hx hb d_MacroExpandModel_newMacro_105 ?_
          refine lv_iload_n hx hb d_MacroExpandModel_newMacro_106 rfl (lv_at hl 1 rfl) ?_
          refine lv_iadd hx hb d_MacroExpandModel_newMacro_107 ?_
          refine lv_iload hx hb d_MacroExpandModel_newMacro_108 (lv_at hl 3 rfl) ?_
          replace hrun := hb_some hrun
          obtain ⟨p110, rfl, hrun⟩ := hrun
          replace hrun := hb_some hrun
          obtain ⟨h110, g110, hrun⟩ := hrun
          refine h_iast S hK (kd := 0) rfl hw hS g110 d_MacroExpandModel_newMacro_110 (fun H locs hw hS => ?_)
          refine lv_iinc (v := (x5 + (1 : Int32))) (lv' := [(5, .int (x5 + (1 : Int32))), (0, .ref a0), (1, .int x1), (3, .int x3), (4, .int x4)]) hx hb d_MacroExpandModel_newMacro_111 hl (k := 4) rfl rfl (by decide) rfl (fun ls hl => ?_)
          refine lv_goto (tgt := 81) hx hb d_MacroExpandModel_newMacro_114 (by decide) ?_
          cases hrun
          exact K0 (x5 + (1 : Int32)) rfl H locs ls hw hS (lv_sub hl [1, 2, 3, 4, 0] rfl)
  have l_33 : ∀ (x1 : Int32) (x3 : Int32) (x4 : Int32) (n9 : Nat) (x9 : Int32) (h : hH) (b9 : (Unit)) (h9 : hH) (H : Heap) (locs : List Loc) (ls : Array Slot), hloopW (f_MacroExpandModel_newMacro_b33 n a0 x1 x3 x4) n9 x9 h = some (b9, h9) → hW D dA classes b0 nx h H → va_S (hA b0) s.heap H locs → lv_has ls 6 (match x9 with | x5 => [(0, .ref a0), (1, .int x1), (3, .int x3), (4, .int x4), (5, .int x5)]) → (b9 = () → ∀ (H : Heap) (locs : List Loc) (ls : Array Slot), hW D dA classes b0 nx h9 H → va_S (hA b0) s.heap H locs → lv_has ls 6 [(0, .ref a0), (1, .int x1), (3, .int x3), (4, .int x4)] → W p l e (headSpec w_MacroExpandModel_newMacro ({ frames := 0, cells := 0, slots := 0, locals := 0 } : Room)).room s m ([.ref a0, .int i1, .int i2, .int i3] : List Value).toArray below meth c H locs 0 0 (MQ below (va_Qi (fun r' (_ : Unit) => r' = r) (fun (_ : Unit) t => hW D dA classes b0 nx h' t.heap) (hA b0)) ([.ref a0, .int i1, .int i2, .int i3] : List Value).toArray s 0 0 (hA b0)) (F0 m 60 ls [])) → W p l e (headSpec w_MacroExpandModel_newMacro ({ frames := 0, cells := 0, slots := 0, locals := 0 } : Room)).room s m ([.ref a0, .int i1, .int i2, .int i3] : List Value).toArray below meth c H locs 0 0 (MQ below (va_Qi (fun r' (_ : Unit) => r' = r) (fun (_ : Unit) t => hW D dA classes b0 nx h' t.heap) (hA b0)) ([.ref a0, .int i1, .int i2, .int i3] : List Value).toArray s 0 0 (hA b0)) (F0 m 33 ls []) := by
    intro x1 x3 x4 n9
    induction n9 with
    | zero =>
      intro x9 h b9 h9 H locs ls hrun
      cases hrun
    | succ n9 ih =>
      rintro x5 h b9 h9 H locs ls hrun hw hS hl k0
      have hl : lv_has ls 6 [(0, .ref a0), (1, .int x1), (3, .int x3), (4, .int x4), (5, .int x5)] := hl
      unfold hloopW at hrun
      obtain ⟨q9, h9b, hbody, hrun9⟩ := hbW_some hrun
      have K0 : (∀ (z5 : Int32), q9 = .inl z5 → ∀ (H : Heap) (locs : List Loc) (ls : Array Slot), hW D dA classes b0 nx h9b H → va_S (hA b0) s.heap H locs → lv_has ls 6 [(0, .ref a0), (1, .int x1), (3, .int x3), (4, .int x4), (5, .int z5)] → W p l e (headSpec w_MacroExpandModel_newMacro ({ frames := 0, cells := 0, slots := 0, locals := 0 } : Room)).room s m ([.ref a0, .int i1, .int i2, .int i3] : List Value).toArray below meth c H locs 0 0 (MQ below (va_Qi (fun r' (_ : Unit) => r' = r) (fun (_ : Unit) t => hW D dA classes b0 nx h' t.heap) (hA b0)) ([.ref a0, .int i1, .int i2, .int i3] : List Value).toArray s 0 0 (hA b0)) (F0 m 33 ls [])) := by
        intro z5 eq9 H locs ls hw hS hl
        subst eq9
        exact ih z5 h9b b9 h9 H locs ls hrun9 hw hS hl k0
      have K1 : (q9 = .inr () → ∀ (H : Heap) (locs : List Loc) (ls : Array Slot), hW D dA classes b0 nx h9b H → va_S (hA b0) s.heap H locs → lv_has ls 6 [(0, .ref a0), (1, .int x1), (3, .int x3), (4, .int x4)] → W p l e (headSpec w_MacroExpandModel_newMacro ({ frames := 0, cells := 0, slots := 0, locals := 0 } : Room)).room s m ([.ref a0, .int i1, .int i2, .int i3] : List Value).toArray below meth c H locs 0 0 (MQ below (va_Qi (fun r' (_ : Unit) => r' = r) (fun (_ : Unit) t => hW D dA classes b0 nx h' t.heap) (hA b0)) ([.ref a0, .int i1, .int i2, .int i3] : List Value).toArray s 0 0 (hA b0)) (F0 m 60 ls [])) := by
        intro  eq9 H locs ls hw hS hl
        subst eq9
        cases hrun9
        exact k0  rfl H locs ls hw hS hl
      clear hrun hrun9 ih k0
      have hrun := hbody
      clear hbody
      dsimp only [f_MacroExpandModel_newMacro_b33] at hrun
      refine lv_iload hx hb d_MacroExpandModel_newMacro_33 (lv_at hl 4 rfl) ?_
      refine lv_bipush (v := (10 : Int32)) hx hb d_MacroExpandModel_newMacro_35 (by decide) ?_
      refine lv_icmp_ge (tgt := 60) hx hb d_MacroExpandModel_newMacro_37 (by decide) (fun c37 => ?_) (fun c37 => ?_)
      · rw [if_pos c37] at hrun
        cases hrun
        exact K1  rfl H locs ls hw hS (lv_sub hl [0, 1, 2, 3] rfl)
      · rw [if_neg c37] at hrun
        refine lv_aload_n hx hb d_MacroExpandModel_newMacro_40 rfl (lv_at hl 0 rfl) ?_
        replace hrun := hb_some hrun
        obtain ⟨v41, g41, hrun⟩ := hrun
        refine h_getR S (fun w q => hT w (i_MacroExpandModel w q)) hK (ci := 1) rfl 11 (by decide) (hT _ fl_MacroExpandModel_28) hw g41 d_MacroExpandModel_newMacro_41 ?_
        refine lv_bipush (v := (10 : Int32)) hx hb d_MacroExpandModel_newMacro_44 (by decide) ?_
        refine lv_iload hx hb d_MacroExpandModel_newMacro_46 (lv_at hl 3 rfl) ?_
        refine lv_imul hx hb d_MacroExpandModel_newMacro_48 ?_
        refine lv_iload hx hb d_MacroExpandModel_newMacro_49 (lv_at hl 4 rfl) ?_
        refine lv_iadd hx hb d_MacroExpandModel_newMacro_51 ?_
        refine lv_iconst (v := (0 : Int32)) hx hb d_MacroExpandModel_newMacro_52 (by decide) ?_
        replace hrun := hb_some hrun
        obtain ⟨p53, rfl, hrun⟩ := hrun
        replace hrun := hb_some hrun
        obtain ⟨h53, g53, hrun⟩ := hrun
        refine h_iast S hK (kd := 0) rfl hw hS g53 d_MacroExpandModel_newMacro_53 (fun H locs hw hS => ?_)
        refine lv_iinc (v := (x5 + (1 : Int32))) (lv' := [(5, .int (x5 + (1 : Int32))), (0, .ref a0), (1, .int x1), (3, .int x3), (4, .int x4)]) hx hb d_MacroExpandModel_newMacro_54 hl (k := 4) rfl rfl (by decide) rfl (fun ls hl => ?_)
        refine lv_goto (tgt := 33) hx hb d_MacroExpandModel_newMacro_57 (by decide) ?_
        cases hrun
        exact K0 (x5 + (1 : Int32)) rfl H locs ls hw hS (lv_sub hl [1, 2, 3, 4, 0] rfl)
  unfold f_MacroExpandModel_newMacro at hrun
  refine lv_aload_n hx hb d_MacroExpandModel_newMacro_0 rfl (lv_at hl 0 rfl) ?_
  replace hrun := hb_some hrun
  obtain ⟨v1, g1, hrun⟩ := hrun
  refine h_getI S (fun w q => hT w (i_MacroExpandModel w q)) hK (ci := 1) rfl 6 (by decide) (hT _ fl_MacroExpandModel_94) hw g1 d_MacroExpandModel_newMacro_1 ?_
  refine lv_istore (lv' := [(4, .int v1), (0, .ref a0), (1, .int i1), (2, .int i2), (3, .int i3)]) hx hb d_MacroExpandModel_newMacro_4 hl (by decide) rfl (fun ls hl => ?_)
  refine lv_aload_n hx hb d_MacroExpandModel_newMacro_6 rfl (lv_at hl 1 rfl) ?_
  replace hrun := hb_some hrun
  obtain ⟨v7, g7, hrun⟩ := hrun
  refine h_getR S (fun w q => hT w (i_MacroExpandModel w q)) hK (ci := 1) rfl 7 (by decide) (hT _ fl_MacroExpandModel_16) hw g7 d_MacroExpandModel_newMacro_7 ?_
  refine lv_iload hx hb d_MacroExpandModel_newMacro_10 (lv_at hl 0 rfl) ?_
  refine lv_iload_n hx hb d_MacroExpandModel_newMacro_12 rfl (lv_at hl 3 rfl) ?_
  replace hrun := hb_some hrun
  obtain ⟨p13, rfl, hrun⟩ := hrun
  replace hrun := hb_some hrun
  obtain ⟨h13, g13, hrun⟩ := hrun
  refine h_iast S hK (kd := 0) rfl hw hS g13 d_MacroExpandModel_newMacro_13 (fun H locs hw hS => ?_)
  refine lv_aload_n hx hb d_MacroExpandModel_newMacro_14 rfl (lv_at hl 1 rfl) ?_
  replace hrun := hb_some hrun
  obtain ⟨v15, g15, hrun⟩ := hrun
  refine h_getR S (fun w q => hT w (i_MacroExpandModel w q)) hK (ci := 1) rfl 8 (by decide) (hT _ fl_MacroExpandModel_19) hw g15 d_MacroExpandModel_newMacro_15 ?_
  refine lv_iload hx hb d_MacroExpandModel_newMacro_18 (lv_at hl 0 rfl) ?_
  refine lv_iload_n hx hb d_MacroExpandModel_newMacro_20 rfl (lv_at hl 4 rfl) ?_
  replace hrun := hb_some hrun
  obtain ⟨p21, rfl, hrun⟩ := hrun
  replace hrun := hb_some hrun
  obtain ⟨h21, g21, hrun⟩ := hrun
  refine h_iast S hK (kd := 0) rfl hw hS g21 d_MacroExpandModel_newMacro_21 (fun H locs hw hS => ?_)
  refine lv_aload_n hx hb d_MacroExpandModel_newMacro_22 rfl (lv_at hl 1 rfl) ?_
  replace hrun := hb_some hrun
  obtain ⟨v23, g23, hrun⟩ := hrun
  refine h_getR S (fun w q => hT w (i_MacroExpandModel w q)) hK (ci := 1) rfl 9 (by decide) (hT _ fl_MacroExpandModel_22) hw g23 d_MacroExpandModel_newMacro_23 ?_
  refine lv_iload hx hb d_MacroExpandModel_newMacro_26 (lv_at hl 0 rfl) ?_
  refine lv_iconst (v := (0 : Int32)) hx hb d_MacroExpandModel_newMacro_28 (by decide) ?_
  replace hrun := hb_some hrun
  obtain ⟨p29, rfl, hrun⟩ := hrun
  replace hrun := hb_some hrun
  obtain ⟨h29, g29, hrun⟩ := hrun
  refine h_iast S hK (kd := 0) rfl hw hS g29 d_MacroExpandModel_newMacro_29 (fun H locs hw hS => ?_)
  refine lv_iconst (v := (0 : Int32)) hx hb d_MacroExpandModel_newMacro_30 (by decide) ?_
  refine lv_istore (lv' := [(5, .int (0 : Int32)), (4, .int v1), (0, .ref a0), (1, .int i1), (2, .int i2), (3, .int i3)]) hx hb d_MacroExpandModel_newMacro_31 hl (by decide) rfl (fun ls hl => ?_)
  replace hrun := hbW_some hrun
  obtain ⟨b33, h33l, g33, hrun⟩ := hrun
  refine l_33 i1 i3 v1 n (0 : Int32) h29 _ _ _ _ _ g33 hw hS (lv_sub hl [2, 3, 5, 1, 0] rfl) ?_
  · rintro  eq9 H locs ls hw hS hl
    obtain rfl := eq9.symm
    try dsimp only at hrun
    refine lv_aload_n hx hb d_MacroExpandModel_newMacro_60 rfl (lv_at hl 0 rfl) ?_
    refine lv_dup hx hb d_MacroExpandModel_newMacro_61 rfl ?_
    replace hrun := hb_some hrun
    obtain ⟨v62, g62, hrun⟩ := hrun
    refine h_getI S (fun w q => hT w (i_MacroExpandModel w q)) hK (ci := 1) rfl 6 (by decide) (hT _ fl_MacroExpandModel_94) hw g62 d_MacroExpandModel_newMacro_62 ?_
    refine lv_iconst (v := (1 : Int32)) hx hb d_MacroExpandModel_newMacro_65 (by decide) ?_
    refine lv_iadd hx hb d_MacroExpandModel_newMacro_66 ?_
    replace hrun := hb_some hrun
    obtain ⟨h67, g67, hrun⟩ := hrun
    refine h_put S (fun w q => hT w (i_MacroExpandModel w q)) t_MacroExpandModel t_MacroExpandModel_ok n_MacroExpandModel hK (ci := 1) rfl 6 (by decide) (hT _ fl_MacroExpandModel_94) rfl rfl rfl hw hS g67 d_MacroExpandModel_newMacro_67 (fun H locs hw hS => ?_)
    refine lv_aload_n hx hb d_MacroExpandModel_newMacro_70 rfl (lv_at hl 0 rfl) ?_
    replace hrun := hb_some hrun
    obtain ⟨v71, g71, hrun⟩ := hrun
    refine h_getR S (fun w q => hT w (i_MacroExpandModel w q)) hK (ci := 1) rfl 13 (by decide) (hT _ fl_MacroExpandModel_35) hw g71 d_MacroExpandModel_newMacro_71 ?_
    refine lv_iload_n hx hb d_MacroExpandModel_newMacro_74 rfl (lv_at hl 1 rfl) ?_
    refine lv_iload hx hb d_MacroExpandModel_newMacro_75 (lv_at hl 3 rfl) ?_
    replace hrun := hb_some hrun
    obtain ⟨p77, rfl, hrun⟩ := hrun
    replace hrun := hb_some hrun
    obtain ⟨h77, g77, hrun⟩ := hrun
    refine h_iast S hK (kd := 0) rfl hw hS g77 d_MacroExpandModel_newMacro_77 (fun H locs hw hS => ?_)
    refine lv_iconst (v := (0 : Int32)) hx hb d_MacroExpandModel_newMacro_78 (by decide) ?_
    refine lv_istore (lv' := [(5, .int (0 : Int32)), (0, .ref a0), (1, .int i1), (3, .int i3), (4, .int v1)]) hx hb d_MacroExpandModel_newMacro_79 hl (by decide) rfl (fun ls hl => ?_)
    replace hrun := hbW_some hrun
    obtain ⟨b81, h81l, g81, hrun⟩ := hrun
    refine l_81 i1 i3 v1 n (0 : Int32) h77 _ _ _ _ _ g81 hw hS (lv_sub hl [1, 2, 3, 4, 0] rfl) ?_
    · rintro  eq9 H locs ls hw hS hl
      obtain rfl := eq9.symm
      try dsimp only at hrun
      refine lv_iload hx hb d_MacroExpandModel_newMacro_117 (lv_at hl 0 rfl) ?_
      cases hrun
      exact W.iret hx hb hr (fun t ht hW9 => ⟨⟨_, (), rfl, rfl, by show hW D dA classes b0 _ _ t.heap; rw [ht]; exact hw⟩, hS.F ht⟩) hS.2.2 d_MacroExpandModel_newMacro_119
