set_option maxHeartbeats 4000000 in
set_option maxRecDepth 100000 in
theorem c_MacroExpandModel_goOn (l : Launch) (D : va_G) (dA : Nat → ClassId) (b0 : Nat) (n : Nat) (a0 : Nat) (nx : Nat) {h h' : hH} {r : Unit} (hrun : f_MacroExpandModel_goOn n a0 h = some (r, h')) : Met l y_MacroExpandModel_goOn w_MacroExpandModel_goOn ({ frames := 7, cells := 0, slots := 0, locals := 171 } : Room) (va_Pc [.ref a0] (hB D dA b0 nx h)) (va_Qv (fun (_ : Unit) => True) (fun (_ : Unit) t => hW D dA classes b0 nx h' t.heap) (hA b0)) 0 0 (hA b0) := by
  refine Met.ofW (cc := b_MacroExpandModel_goOn) (maxL := 8) (ret := none) (by decide) rfl ?_
  intro p e s m args below meth c s₁ B hml hv
  obtain ⟨rfl, hw, hK, hN⟩ := hv
  have hx := B.exec
  have hb := B.bytes
  have hr := B.returns
  have hlocks := B.notSynchronized
  have S : CallFix p m c b_MacroExpandModel_goOn 8 s ([.ref a0] : List Value).toArray w_MacroExpandModel_goOn R_MacroExpandModel := ⟨hx, hb, hml, findClass_of_methodNamed B.named, atoms_spec (ws := w_MacroExpandModel_goOn) B.pre⟩
  have hT : ∀ w ∈ tbl, w ∈ w_MacroExpandModel_goOn := fun _ q => List.mem_cons_of_mem _ q
  have hS : va_S (hA b0) s.heap s.heap [] := va_S.rf
  have hl := lv_entry ([.ref a0]) (n := 8) (Nat.le_of_ble_eq_true rfl)
  rw [lg_entry_eq]
  generalize (lg_sl ([.ref a0]) ++ List.replicate (8 - (lg_sl ([.ref a0])).length) Slot.unset).toArray = ls at hl ⊢
  have hl : lv_has ls 8 [(0, .ref a0)] := hl
  have j_165 : ∀  (x1 : Int32) (x2 : Int32) (x4 : Int32) (x5 : Int32) (y0 : Int32) (h : hH) (H : Heap) (locs : List Loc) (ls : Array Slot), f_MacroExpandModel_goOn_j165 n a0 x1 x2 x4 x5 y0 h = some (r, h') → hW D dA classes b0 nx h H → va_S (hA b0) s.heap H locs → lv_has ls 8 [(0, .ref a0), (1, .int x1), (2, .int x2), (4, .int x4), (5, .int x5)] → W p l e (headSpec w_MacroExpandModel_goOn ({ frames := 7, cells := 0, slots := 0, locals := 171 } : Room)).room s m ([.ref a0] : List Value).toArray below meth c H locs 0 0 (MQ below (va_Qv (fun (_ : Unit) => True) (fun (_ : Unit) t => hW D dA classes b0 nx h' t.heap) (hA b0)) ([.ref a0] : List Value).toArray s 0 0 (hA b0)) (F0 m 165 ls [.int y0]) := by
    intro x1 x2 x4 x5 y0 h H locs ls hrun hw hS hl
    unfold f_MacroExpandModel_goOn_j165 at hrun
    refine lv_istore (lv' := [(6, .int y0), (0, .ref a0), (1, .int x1), (2, .int x2), (4, .int x4), (5, .int x5)]) hx hb d_MacroExpandModel_goOn_165 hl (by decide) rfl (fun ls hl => ?_)
    refine lv_iload hx hb d_MacroExpandModel_goOn_167 (lv_at hl 0 rfl) ?_
    refine lv_if_ne (tgt := 178) hx hb d_MacroExpandModel_goOn_169 (by decide) (fun c169 => ?_) (fun c169 => ?_)
    · rw [if_neg c169] at hrun
      refine lv_aload_n hx hb d_MacroExpandModel_goOn_178 rfl (lv_at hl 1 rfl) ?_
      refine lv_iload_n hx hb d_MacroExpandModel_goOn_179 rfl (lv_at hl 3 rfl) ?_
      refine lv_iconst (v := (1 : Int32)) hx hb d_MacroExpandModel_goOn_180 (by decide) ?_
      replace hrun := hb_some hrun
      obtain ⟨c181, k181, hrun⟩ := hrun
      replace hrun := hbW_some hrun
      obtain ⟨_u181, h181, g181, hrun⟩ := hrun
      refine h_cv (h_runV S (As := [.int x2, .int (1 : Int32)]) (rest := []) (c_MacroExpandModel_take l D dA b0 n a0 x2 (1 : Int32) nx g181) (cwV 2 S.2.2.2.2 (h_good _ (h_in4 ml_MacroExpandModel_160 im_MacroExpandModel_take se_MacroExpandModel_take it_MacroExpandModel) cd_MacroExpandModel_take) rfl rfl rfl (by decide +kernel) ⟨Nat.le_of_ble_eq_true rfl, Nat.le_of_ble_eq_true rfl⟩) hK hN hw (ci := 1) rfl k181 rfl hl.1 (lv_room (Nat.le_of_ble_eq_true rfl)) d_MacroExpandModel_goOn_181 ⟨Nat.le_refl _, Nat.le_refl _⟩) hS (fun H locs hw hS => ?_)
      refine lv_iload hx hb d_MacroExpandModel_goOn_184 (lv_at hl 4 rfl) ?_
      refine lv_sipush (v := (263 : Int32)) hx hb d_MacroExpandModel_goOn_186 (by decide) ?_
      refine lv_icmp_eq (tgt := 217) hx hb d_MacroExpandModel_goOn_189 (by decide) (fun c189 => ?_) (fun c189 => ?_)
      · rw [if_pos c189] at hrun
        refine lv_aload_n hx hb d_MacroExpandModel_goOn_217 rfl (lv_at hl 1 rfl) ?_
        refine lv_iload_n hx hb d_MacroExpandModel_goOn_218 rfl (lv_at hl 2 rfl) ?_
        refine lv_iload hx hb d_MacroExpandModel_goOn_219 (lv_at hl 5 rfl) ?_
        replace hrun := hb_some hrun
        obtain ⟨c221, k221, hrun⟩ := hrun
        replace hrun := hbW_some hrun
        obtain ⟨v221, h221, g221, hrun⟩ := hrun
        refine h_ci (h_runV S (As := [.int x1, .int x5]) (rest := []) (c_MacroExpandModel_nameOf l D dA b0 n a0 x1 x5 nx g221) (cwV 2 S.2.2.2.2 (h_good _ (h_in4 ml_MacroExpandModel_194 im_MacroExpandModel_nameOf se_MacroExpandModel_nameOf it_MacroExpandModel) cd_MacroExpandModel_nameOf) rfl rfl rfl (by decide +kernel) ⟨Nat.le_of_ble_eq_true rfl, Nat.le_of_ble_eq_true rfl⟩) hK hN hw (ci := 1) rfl k221 rfl hl.1 (lv_room (Nat.le_of_ble_eq_true rfl)) d_MacroExpandModel_goOn_221 ⟨Nat.le_refl _, Nat.le_refl _⟩) hS (fun H locs hw hS => ?_)
        refine lv_istore (lv' := [(7, .int v221), (6, .int y0), (0, .ref a0), (1, .int x1), (2, .int x2), (4, .int x4), (5, .int x5)]) hx hb d_MacroExpandModel_goOn_224 hl (by decide) rfl (fun ls hl => ?_)
        refine lv_aload_n hx hb d_MacroExpandModel_goOn_226 rfl (lv_at hl 2 rfl) ?_
        replace hrun := hb_some hrun
        obtain ⟨v227, g227, hrun⟩ := hrun
        refine h_getI S (fun w q => hT w (i_MacroExpandModel w q)) hK (ci := 1) rfl 21 (by decide) (hT _ fl_MacroExpandModel_113) hw g227 d_MacroExpandModel_goOn_227 ?_
        refine lv_if_ne (tgt := 256) hx hb d_MacroExpandModel_goOn_230 (by decide) (fun c230 => ?_) (fun c230 => ?_)
        · rw [if_neg c230] at hrun
          cases hrun
          exact W.vret hx hb hr (fun t ht hW9 => ⟨⟨(), rfl, trivial, by show hW D dA classes b0 _ _ t.heap; rw [ht]; exact hw⟩, hS.F ht⟩) hS.2.2 d_MacroExpandModel_goOn_256
        · rw [if_pos c230] at hrun
          refine lv_aload_n hx hb d_MacroExpandModel_goOn_233 rfl (lv_at hl 2 rfl) ?_
          refine lv_iload_n hx hb d_MacroExpandModel_goOn_234 rfl (lv_at hl 4 rfl) ?_
          refine lv_iconst (v := (1 : Int32)) hx hb d_MacroExpandModel_goOn_235 (by decide) ?_
          replace hrun := hb_some hrun
          obtain ⟨c236, k236, hrun⟩ := hrun
          replace hrun := hbW_some hrun
          obtain ⟨_u236, h236, g236, hrun⟩ := hrun
          refine h_cv (h_runV S (As := [.int x2, .int (1 : Int32)]) (rest := []) (c_MacroExpandModel_spread l D dA b0 n a0 x2 (1 : Int32) nx g236) (cwV 2 S.2.2.2.2 (h_good _ (h_in4 ml_MacroExpandModel_163 im_MacroExpandModel_spread se_MacroExpandModel_spread it_MacroExpandModel) cd_MacroExpandModel_spread) rfl rfl rfl (by decide +kernel) ⟨Nat.le_of_ble_eq_true rfl, Nat.le_of_ble_eq_true rfl⟩) hK hN hw (ci := 1) rfl k236 rfl hl.1 (lv_room (Nat.le_of_ble_eq_true rfl)) d_MacroExpandModel_goOn_236 ⟨Nat.le_refl _, Nat.le_refl _⟩) hS (fun H locs hw hS => ?_)
          refine lv_aload_n hx hb d_MacroExpandModel_goOn_239 rfl (lv_at hl 2 rfl) ?_
          refine lv_iload_n hx hb d_MacroExpandModel_goOn_240 rfl (lv_at hl 4 rfl) ?_
          refine lv_iload hx hb d_MacroExpandModel_goOn_241 (lv_at hl 0 rfl) ?_
          replace hrun := hb_some hrun
          obtain ⟨c243, k243, hrun⟩ := hrun
          replace hrun := hbW_some hrun
          obtain ⟨_u243, h243, g243, hrun⟩ := hrun
          refine h_cv (h_runV S (As := [.int x2, .int v221]) (rest := []) (c_MacroExpandModel_set l D dA b0 a0 x2 v221 nx g243) (cwV 2 S.2.2.2.2 (h_good _ (h_in4 ml_MacroExpandModel_166 im_MacroExpandModel_set se_MacroExpandModel_set it_MacroExpandModel) cd_MacroExpandModel_set) rfl rfl rfl (by decide +kernel) ⟨Nat.le_of_ble_eq_true rfl, Nat.le_of_ble_eq_true rfl⟩) hK hN hw (ci := 1) rfl k243 rfl hl.1 (lv_room (Nat.le_of_ble_eq_true rfl)) d_MacroExpandModel_goOn_243 ⟨Nat.le_refl _, Nat.le_refl _⟩) hS (fun H locs hw hS => ?_)
          refine lv_aload_n hx hb d_MacroExpandModel_goOn_246 rfl (lv_at hl 2 rfl) ?_
          refine lv_dup hx hb d_MacroExpandModel_goOn_247 rfl ?_
          replace hrun := hb_some hrun
          obtain ⟨v248, g248, hrun⟩ := hrun
          refine h_getI S (fun w q => hT w (i_MacroExpandModel w q)) hK (ci := 1) rfl 28 (by decide) (hT _ fl_MacroExpandModel_139) hw g248 d_MacroExpandModel_goOn_248 ?_
          refine lv_iconst (v := (1 : Int32)) hx hb d_MacroExpandModel_goOn_251 (by decide) ?_
          refine lv_isub hx hb d_MacroExpandModel_goOn_252 ?_
          replace hrun := hb_some hrun
          obtain ⟨h253, g253, hrun⟩ := hrun
          refine h_put S (fun w q => hT w (i_MacroExpandModel w q)) t_MacroExpandModel t_MacroExpandModel_ok n_MacroExpandModel hK (ci := 1) rfl 28 (by decide) (hT _ fl_MacroExpandModel_139) rfl rfl rfl hw hS g253 d_MacroExpandModel_goOn_253 (fun H locs hw hS => ?_)
          cases hrun
          exact W.vret hx hb hr (fun t ht hW9 => ⟨⟨(), rfl, trivial, by show hW D dA classes b0 _ _ t.heap; rw [ht]; exact hw⟩, hS.F ht⟩) hS.2.2 d_MacroExpandModel_goOn_256
      · rw [if_neg c189] at hrun
        refine lv_aload_n hx hb d_MacroExpandModel_goOn_192 rfl (lv_at hl 1 rfl) ?_
        replace hrun := hb_some hrun
        obtain ⟨v193, g193, hrun⟩ := hrun
        refine h_getR S (fun w q => hT w (i_MacroExpandModel w q)) hK (ci := 1) rfl 27 (by decide) (hT _ fl_MacroExpandModel_56) hw g193 d_MacroExpandModel_goOn_193 ?_
        refine lv_bipush (v := (8 : Int32)) hx hb d_MacroExpandModel_goOn_196 (by decide) ?_
        refine lv_iload_n hx hb d_MacroExpandModel_goOn_198 rfl (lv_at hl 2 rfl) ?_
        refine lv_imul hx hb d_MacroExpandModel_goOn_199 ?_
        refine lv_iload hx hb d_MacroExpandModel_goOn_200 (lv_at hl 5 rfl) ?_
        refine lv_iadd hx hb d_MacroExpandModel_goOn_202 ?_
        refine lv_iload hx hb d_MacroExpandModel_goOn_203 (lv_at hl 4 rfl) ?_
        replace hrun := hb_some hrun
        obtain ⟨p205, rfl, hrun⟩ := hrun
        replace hrun := hb_some hrun
        obtain ⟨h205, g205, hrun⟩ := hrun
        refine h_iast S hK (kd := 0) rfl hw hS g205 d_MacroExpandModel_goOn_205 (fun H locs hw hS => ?_)
        refine lv_aload_n hx hb d_MacroExpandModel_goOn_206 rfl (lv_at hl 1 rfl) ?_
        replace hrun := hb_some hrun
        obtain ⟨v207, g207, hrun⟩ := hrun
        refine h_getR S (fun w q => hT w (i_MacroExpandModel w q)) hK (ci := 1) rfl 31 (by decide) (hT _ fl_MacroExpandModel_65) hw g207 d_MacroExpandModel_goOn_207 ?_
        refine lv_iload_n hx hb d_MacroExpandModel_goOn_210 rfl (lv_at hl 2 rfl) ?_
        refine lv_dup2_11 hx hb d_MacroExpandModel_goOn_211 rfl (h_cat _) ?_
        replace hrun := hb_some hrun
        obtain ⟨p212, rfl, hrun⟩ := hrun
        replace hrun := hb_some hrun
        obtain ⟨v212, g212, hrun⟩ := hrun
        refine h_iald S hK (kd := 0) rfl hw g212 d_MacroExpandModel_goOn_212 ?_
        refine lv_iconst (v := (1 : Int32)) hx hb d_MacroExpandModel_goOn_213 (by decide) ?_
        refine lv_iadd hx hb d_MacroExpandModel_goOn_214 ?_
        replace hrun := hb_some hrun
        obtain ⟨h215, g215, hrun⟩ := hrun
        refine h_iast S hK (kd := 0) rfl hw hS g215 d_MacroExpandModel_goOn_215 (fun H locs hw hS => ?_)
        cases hrun
        exact W.vret hx hb hr (fun t ht hW9 => ⟨⟨(), rfl, trivial, by show hW D dA classes b0 _ _ t.heap; rw [ht]; exact hw⟩, hS.F ht⟩) hS.2.2 d_MacroExpandModel_goOn_216
    · rw [if_pos c169] at hrun
      refine lv_aload_n hx hb d_MacroExpandModel_goOn_172 rfl (lv_at hl 1 rfl) ?_
      refine lv_iconst (v := (4 : Int32)) hx hb d_MacroExpandModel_goOn_173 (by decide) ?_
      replace hrun := hb_some hrun
      obtain ⟨c174, k174, hrun⟩ := hrun
      replace hrun := hbW_some hrun
      obtain ⟨_u174, h174, g174, hrun⟩ := hrun
      refine h_cv (h_runV S (As := [.int (4 : Int32)]) (rest := []) (c_MacroExpandModel_mark l D dA b0 a0 (4 : Int32) nx g174) (cwV 1 S.2.2.2.2 (h_good _ (h_in4 ml_MacroExpandModel_123 im_MacroExpandModel_mark se_MacroExpandModel_mark it_MacroExpandModel) cd_MacroExpandModel_mark) rfl rfl rfl (by decide +kernel) ⟨Nat.le_of_ble_eq_true rfl, Nat.le_of_ble_eq_true rfl⟩) hK hN hw (ci := 1) rfl k174 rfl hl.1 (lv_room (Nat.le_of_ble_eq_true rfl)) d_MacroExpandModel_goOn_174 ⟨Nat.le_refl _, Nat.le_refl _⟩) hS (fun H locs hw hS => ?_)
      cases hrun
      exact W.vret hx hb hr (fun t ht hW9 => ⟨⟨(), rfl, trivial, by show hW D dA classes b0 _ _ t.heap; rw [ht]; exact hw⟩, hS.F ht⟩) hS.2.2 d_MacroExpandModel_goOn_177
  have j_164 : ∀  (x1 : Int32) (x2 : Int32) (x4 : Int32) (x5 : Int32) (h : hH) (H : Heap) (locs : List Loc) (ls : Array Slot), f_MacroExpandModel_goOn_j164 n a0 x1 x2 x4 x5 h = some (r, h') → hW D dA classes b0 nx h H → va_S (hA b0) s.heap H locs → lv_has ls 8 [(0, .ref a0), (1, .int x1), (2, .int x2), (4, .int x4), (5, .int x5)] → W p l e (headSpec w_MacroExpandModel_goOn ({ frames := 7, cells := 0, slots := 0, locals := 171 } : Room)).room s m ([.ref a0] : List Value).toArray below meth c H locs 0 0 (MQ below (va_Qv (fun (_ : Unit) => True) (fun (_ : Unit) t => hW D dA classes b0 nx h' t.heap) (hA b0)) ([.ref a0] : List Value).toArray s 0 0 (hA b0)) (F0 m 164 ls []) := by
    intro x1 x2 x4 x5 h H locs ls hrun hw hS hl
    unfold f_MacroExpandModel_goOn_j164 at hrun
    refine lv_iconst (v := (0 : Int32)) hx hb d_MacroExpandModel_goOn_164 (by decide) ?_
    exact j_165 x1 x2 x4 x5 (0 : Int32) h _ _ _ hrun hw hS (lv_sub hl [0, 1, 2, 3, 4] rfl)
  have j_105 : ∀  (x1 : Int32) (x2 : Int32) (h : hH) (H : Heap) (locs : List Loc) (ls : Array Slot), f_MacroExpandModel_goOn_j105 n a0 x1 x2 h = some (r, h') → hW D dA classes b0 nx h H → va_S (hA b0) s.heap H locs → lv_has ls 8 [(0, .ref a0), (1, .int x1), (2, .int x2)] → W p l e (headSpec w_MacroExpandModel_goOn ({ frames := 7, cells := 0, slots := 0, locals := 171 } : Room)).room s m ([.ref a0] : List Value).toArray below meth c H locs 0 0 (MQ below (va_Qv (fun (_ : Unit) => True) (fun (_ : Unit) t => hW D dA classes b0 nx h' t.heap) (hA b0)) ([.ref a0] : List Value).toArray s 0 0 (hA b0)) (F0 m 105 ls []) := by
    intro x1 x2 h H locs ls hrun hw hS hl
    unfold f_MacroExpandModel_goOn_j105 at hrun
    refine lv_aload_n hx hb d_MacroExpandModel_goOn_105 rfl (lv_at hl 0 rfl) ?_
    refine lv_iload_n hx hb d_MacroExpandModel_goOn_106 rfl (lv_at hl 2 rfl) ?_
    replace hrun := hb_some hrun
    obtain ⟨c107, k107, hrun⟩ := hrun
    replace hrun := hb_some hrun
    obtain ⟨v107, g107, hrun⟩ := hrun
    refine h_ci (h_runV S (As := [.int x2]) (rest := []) (c_MacroExpandModel_get l D dA b0 a0 x2 nx g107) (cwV 1 S.2.2.2.2 (h_good _ (h_in4 ml_MacroExpandModel_116 im_MacroExpandModel_get se_MacroExpandModel_get it_MacroExpandModel) cd_MacroExpandModel_get) rfl rfl rfl (by decide +kernel) ⟨Nat.le_of_ble_eq_true rfl, Nat.le_of_ble_eq_true rfl⟩) hK hN hw (ci := 1) rfl k107 rfl hl.1 (lv_room (Nat.le_of_ble_eq_true rfl)) d_MacroExpandModel_goOn_107 ⟨Nat.le_refl _, Nat.le_refl _⟩) hS (fun H locs hw hS => ?_)
    refine lv_istore (lv' := [(4, .int v107), (0, .ref a0), (1, .int x1), (2, .int x2)]) hx hb d_MacroExpandModel_goOn_110 hl (by decide) rfl (fun ls hl => ?_)
    refine lv_aload_n hx hb d_MacroExpandModel_goOn_112 rfl (lv_at hl 1 rfl) ?_
    replace hrun := hb_some hrun
    obtain ⟨v113, g113, hrun⟩ := hrun
    refine h_getR S (fun w q => hT w (i_MacroExpandModel w q)) hK (ci := 1) rfl 31 (by decide) (hT _ fl_MacroExpandModel_65) hw g113 d_MacroExpandModel_goOn_113 ?_
    refine lv_iload_n hx hb d_MacroExpandModel_goOn_116 rfl (lv_at hl 2 rfl) ?_
    replace hrun := hb_some hrun
    obtain ⟨p117, rfl, hrun⟩ := hrun
    replace hrun := hb_some hrun
    obtain ⟨v117, g117, hrun⟩ := hrun
    refine h_iald S hK (kd := 0) rfl hw g117 d_MacroExpandModel_goOn_117 ?_
    refine lv_istore (lv' := [(5, .int v117), (4, .int v107), (0, .ref a0), (1, .int x1), (2, .int x2)]) hx hb d_MacroExpandModel_goOn_118 hl (by decide) rfl (fun ls hl => ?_)
    refine lv_iload hx hb d_MacroExpandModel_goOn_120 (lv_at hl 1 rfl) ?_
    refine lv_sipush (v := (263 : Int32)) hx hb d_MacroExpandModel_goOn_122 (by decide) ?_
    refine lv_icmp_ne (tgt := 141) hx hb d_MacroExpandModel_goOn_125 (by decide) (fun c125 => ?_) (fun c125 => ?_)
    · rw [if_neg c125] at hrun
      refine lv_iload hx hb d_MacroExpandModel_goOn_141 (lv_at hl 1 rfl) ?_
      refine lv_iconst (v := (0 : Int32)) hx hb d_MacroExpandModel_goOn_143 (by decide) ?_
      refine lv_sipush (v := (255 : Int32)) hx hb d_MacroExpandModel_goOn_144 (by decide) ?_
      replace hrun := hb_some hrun
      obtain ⟨v147, g147, hrun⟩ := hrun
      refine h_ci (h_runS S (As := [.int v107, .int (0 : Int32), .int (255 : Int32)]) (rest := []) (c_MacroExpandModel_in l D dA b0 v107 (0 : Int32) (255 : Int32) nx g147) (va_cwS 3 S.2.2.2.2 (h_good _ (h_in3 ml_MacroExpandModel_83 sm_MacroExpandModel_in it_MacroExpandModel) cd_MacroExpandModel_in) rfl rfl rfl (by decide +kernel) ⟨Nat.le_of_ble_eq_true rfl, Nat.le_of_ble_eq_true rfl⟩) hK hN hw rfl hl.1 (lv_room (Nat.le_of_ble_eq_true rfl)) d_MacroExpandModel_goOn_147 ⟨Nat.le_refl _, Nat.le_refl _⟩) hS (fun H locs hw hS => ?_)
      refine lv_if_eq (tgt := 164) hx hb d_MacroExpandModel_goOn_150 (by decide) (fun c150 => ?_) (fun c150 => ?_)
      · rw [if_pos c150] at hrun
        exact j_164 x1 x2 v107 v117 h _ _ _ hrun hw hS (lv_sub hl [2, 3, 4, 1, 0] rfl)
      · rw [if_neg c150] at hrun
        refine lv_iload hx hb d_MacroExpandModel_goOn_153 (lv_at hl 0 rfl) ?_
        refine lv_bipush (v := (8 : Int32)) hx hb d_MacroExpandModel_goOn_155 (by decide) ?_
        refine lv_icmp_ge (tgt := 164) hx hb d_MacroExpandModel_goOn_157 (by decide) (fun c157 => ?_) (fun c157 => ?_)
        · rw [if_pos c157] at hrun
          exact j_164 x1 x2 v107 v117 h _ _ _ hrun hw hS (lv_sub hl [2, 3, 4, 1, 0] rfl)
        · rw [if_neg c157] at hrun
          refine lv_iconst (v := (1 : Int32)) hx hb d_MacroExpandModel_goOn_160 (by decide) ?_
          refine lv_goto (tgt := 165) hx hb d_MacroExpandModel_goOn_161 (by decide) ?_
          exact j_165 x1 x2 v107 v117 (1 : Int32) h _ _ _ hrun hw hS (lv_sub hl [2, 3, 4, 1, 0] rfl)
    · rw [if_pos c125] at hrun
      refine lv_iload hx hb d_MacroExpandModel_goOn_128 (lv_at hl 0 rfl) ?_
      refine lv_if_le (tgt := 137) hx hb d_MacroExpandModel_goOn_130 (by decide) (fun c130 => ?_) (fun c130 => ?_)
      · rw [if_pos c130] at hrun
        refine lv_iconst (v := (0 : Int32)) hx hb d_MacroExpandModel_goOn_137 (by decide) ?_
        refine lv_goto (tgt := 165) hx hb d_MacroExpandModel_goOn_138 (by decide) ?_
        exact j_165 x1 x2 v107 v117 (0 : Int32) h _ _ _ hrun hw hS (lv_sub hl [2, 3, 4, 1, 0] rfl)
      · rw [if_neg c130] at hrun
        refine lv_iconst (v := (1 : Int32)) hx hb d_MacroExpandModel_goOn_133 (by decide) ?_
        refine lv_goto (tgt := 165) hx hb d_MacroExpandModel_goOn_134 (by decide) ?_
        exact j_165 x1 x2 v107 v117 (1 : Int32) h _ _ _ hrun hw hS (lv_sub hl [2, 3, 4, 1, 0] rfl)
  unfold f_MacroExpandModel_goOn at hrun
  refine lv_aload_n hx hb d_MacroExpandModel_goOn_0 rfl (lv_at hl 0 rfl) ?_
  replace hrun := hb_some hrun
  obtain ⟨v1, g1, hrun⟩ := hrun
  refine h_getI S (fun w q => hT w (i_MacroExpandModel w q)) hK (ci := 1) rfl 28 (by decide) (hT _ fl_MacroExpandModel_139) hw g1 d_MacroExpandModel_goOn_1 ?_
  refine lv_iconst (v := (1 : Int32)) hx hb d_MacroExpandModel_goOn_4 (by decide) ?_
  refine lv_isub hx hb d_MacroExpandModel_goOn_5 ?_
  refine lv_istore_n (lv' := [(1, .int (v1 - (1 : Int32))), (0, .ref a0)]) hx hb d_MacroExpandModel_goOn_6 rfl hl (by decide) rfl (fun ls hl => ?_)
  refine lv_aload_n hx hb d_MacroExpandModel_goOn_7 rfl (lv_at hl 1 rfl) ?_
  replace hrun := hb_some hrun
  obtain ⟨v8, g8, hrun⟩ := hrun
  refine h_getR S (fun w q => hT w (i_MacroExpandModel w q)) hK (ci := 1) rfl 29 (by decide) (hT _ fl_MacroExpandModel_59) hw g8 d_MacroExpandModel_goOn_8 ?_
  refine lv_iload_n hx hb d_MacroExpandModel_goOn_11 rfl (lv_at hl 0 rfl) ?_
  replace hrun := hb_some hrun
  obtain ⟨p12, rfl, hrun⟩ := hrun
  replace hrun := hb_some hrun
  obtain ⟨v12, g12, hrun⟩ := hrun
  refine h_iald S hK (kd := 0) rfl hw g12 d_MacroExpandModel_goOn_12 ?_
  refine lv_sipush (v := (261 : Int32)) hx hb d_MacroExpandModel_goOn_13 (by decide) ?_
  refine lv_icmp_ne (tgt := 56) hx hb d_MacroExpandModel_goOn_16 (by decide) (fun c16 => ?_) (fun c16 => ?_)
  · rw [if_neg c16] at hrun
    refine lv_aload_n hx hb d_MacroExpandModel_goOn_56 rfl (lv_at hl 1 rfl) ?_
    replace hrun := hb_some hrun
    obtain ⟨v57, g57, hrun⟩ := hrun
    refine h_getR S (fun w q => hT w (i_MacroExpandModel w q)) hK (ci := 1) rfl 30 (by decide) (hT _ fl_MacroExpandModel_62) hw g57 d_MacroExpandModel_goOn_57 ?_
    refine lv_iload_n hx hb d_MacroExpandModel_goOn_60 rfl (lv_at hl 0 rfl) ?_
    replace hrun := hb_some hrun
    obtain ⟨p61, rfl, hrun⟩ := hrun
    replace hrun := hb_some hrun
    obtain ⟨v61, g61, hrun⟩ := hrun
    refine h_iald S hK (kd := 0) rfl hw g61 d_MacroExpandModel_goOn_61 ?_
    refine lv_istore_n (lv' := [(2, .int v61), (1, .int (v1 - (1 : Int32))), (0, .ref a0)]) hx hb d_MacroExpandModel_goOn_62 rfl hl (by decide) rfl (fun ls hl => ?_)
    refine lv_aload_n hx hb d_MacroExpandModel_goOn_63 rfl (lv_at hl 2 rfl) ?_
    replace hrun := hb_some hrun
    obtain ⟨v64, g64, hrun⟩ := hrun
    refine h_getI S (fun w q => hT w (i_MacroExpandModel w q)) hK (ci := 1) rfl 24 (by decide) (hT _ fl_MacroExpandModel_178) hw g64 d_MacroExpandModel_goOn_64 ?_
    refine lv_istore_n (lv' := [(3, .int v64), (2, .int v61), (1, .int (v1 - (1 : Int32))), (0, .ref a0)]) hx hb d_MacroExpandModel_goOn_67 rfl hl (by decide) rfl (fun ls hl => ?_)
    refine lv_aload_n hx hb d_MacroExpandModel_goOn_68 rfl (lv_at hl 3 rfl) ?_
    refine lv_iconst (v := (0 : Int32)) hx hb d_MacroExpandModel_goOn_69 (by decide) ?_
    replace hrun := hb_some hrun
    obtain ⟨h70, g70, hrun⟩ := hrun
    obtain ⟨n70, f70, g70⟩ := hpZ_spec g70
    refine h_put S (fun w q => hT w (i_MacroExpandModel w q)) t_MacroExpandModel t_MacroExpandModel_ok n_MacroExpandModel hK (ci := 1) rfl 24 (by decide) (hT _ fl_MacroExpandModel_178) rfl n70 f70 hw hS g70 d_MacroExpandModel_goOn_70 (fun H locs hw hS => ?_)
    refine lv_iload_n hx hb d_MacroExpandModel_goOn_73 rfl (lv_at hl 1 rfl) ?_
    refine lv_aload_n hx hb d_MacroExpandModel_goOn_74 rfl (lv_at hl 3 rfl) ?_
    replace hrun := hb_some hrun
    obtain ⟨v75, g75, hrun⟩ := hrun
    refine h_getI S (fun w q => hT w (i_MacroExpandModel w q)) hK (ci := 1) rfl 3 (by decide) (hT _ fl_MacroExpandModel_107) hw g75 d_MacroExpandModel_goOn_75 ?_
    refine lv_icmp_lt (tgt := 87) hx hb d_MacroExpandModel_goOn_78 (by decide) (fun c78 => ?_) (fun c78 => ?_)
    · rw [if_pos c78] at hrun
      refine lv_iload_n hx hb d_MacroExpandModel_goOn_87 rfl (lv_at hl 0 rfl) ?_
      refine lv_if_ne (tgt := 105) hx hb d_MacroExpandModel_goOn_88 (by decide) (fun c88 => ?_) (fun c88 => ?_)
      · rw [if_neg c88] at hrun
        exact j_105 (v1 - (1 : Int32)) v61 h70 _ _ _ hrun hw hS (lv_sub hl [3, 2, 1] rfl)
      · rw [if_pos c88] at hrun
        refine lv_aload_n hx hb d_MacroExpandModel_goOn_91 rfl (lv_at hl 3 rfl) ?_
        refine lv_iload_n hx hb d_MacroExpandModel_goOn_92 rfl (lv_at hl 1 rfl) ?_
        replace hrun := hb_some hrun
        obtain ⟨c93, k93, hrun⟩ := hrun
        replace hrun := hb_some hrun
        obtain ⟨v93, g93, hrun⟩ := hrun
        refine h_ci (h_runV S (As := [.int v61]) (rest := []) (c_MacroExpandModel_canBeExpanded l D dA b0 a0 v61 nx g93) (cwV 1 S.2.2.2.2 (h_good _ (h_in4 ml_MacroExpandModel_182 im_MacroExpandModel_canBeExpanded se_MacroExpandModel_canBeExpanded it_MacroExpandModel) cd_MacroExpandModel_canBeExpanded) rfl rfl rfl (by decide +kernel) ⟨Nat.le_of_ble_eq_true rfl, Nat.le_of_ble_eq_true rfl⟩) hK hN hw (ci := 1) rfl k93 rfl hl.1 (lv_room (Nat.le_of_ble_eq_true rfl)) d_MacroExpandModel_goOn_93 ⟨Nat.le_refl _, Nat.le_refl _⟩) hS (fun H locs hw hS => ?_)
        refine lv_if_eq (tgt := 105) hx hb d_MacroExpandModel_goOn_96 (by decide) (fun c96 => ?_) (fun c96 => ?_)
        · rw [if_pos c96] at hrun
          exact j_105 (v1 - (1 : Int32)) v61 h70 _ _ _ hrun hw hS (lv_sub hl [3, 2, 1] rfl)
        · rw [if_neg c96] at hrun
          refine lv_aload_n hx hb d_MacroExpandModel_goOn_99 rfl (lv_at hl 3 rfl) ?_
          refine lv_iload_n hx hb d_MacroExpandModel_goOn_100 rfl (lv_at hl 1 rfl) ?_
          replace hrun := hb_some hrun
          obtain ⟨c101, k101, hrun⟩ := hrun
          replace hrun := hbW_some hrun
          obtain ⟨_u101, h101, g101, hrun⟩ := hrun
          refine h_cv (h_runV S (As := [.int v61]) (rest := []) (c_MacroExpandModel_start l D dA b0 n a0 v61 nx g101) (cwV 1 S.2.2.2.2 (h_good _ (h_in4 ml_MacroExpandModel_191 im_MacroExpandModel_start se_MacroExpandModel_start it_MacroExpandModel) cd_MacroExpandModel_start) rfl rfl rfl (by decide +kernel) ⟨Nat.le_of_ble_eq_true rfl, Nat.le_of_ble_eq_true rfl⟩) hK hN hw (ci := 1) rfl k101 rfl hl.1 (lv_room (Nat.le_of_ble_eq_true rfl)) d_MacroExpandModel_goOn_101 ⟨Nat.le_refl _, Nat.le_refl _⟩) hS (fun H locs hw hS => ?_)
          cases hrun
          exact W.vret hx hb hr (fun t ht hW9 => ⟨⟨(), rfl, trivial, by show hW D dA classes b0 _ _ t.heap; rw [ht]; exact hw⟩, hS.F ht⟩) hS.2.2 d_MacroExpandModel_goOn_104
    · rw [if_neg c78] at hrun
      refine lv_aload_n hx hb d_MacroExpandModel_goOn_81 rfl (lv_at hl 3 rfl) ?_
      refine lv_iconst (v := (1 : Int32)) hx hb d_MacroExpandModel_goOn_82 (by decide) ?_
      replace hrun := hb_some hrun
      obtain ⟨c83, k83, hrun⟩ := hrun
      replace hrun := hbW_some hrun
      obtain ⟨_u83, h83, g83, hrun⟩ := hrun
      refine h_cv (h_runV S (As := [.int (1 : Int32)]) (rest := []) (c_MacroExpandModel_mark l D dA b0 a0 (1 : Int32) nx g83) (cwV 1 S.2.2.2.2 (h_good _ (h_in4 ml_MacroExpandModel_123 im_MacroExpandModel_mark se_MacroExpandModel_mark it_MacroExpandModel) cd_MacroExpandModel_mark) rfl rfl rfl (by decide +kernel) ⟨Nat.le_of_ble_eq_true rfl, Nat.le_of_ble_eq_true rfl⟩) hK hN hw (ci := 1) rfl k83 rfl hl.1 (lv_room (Nat.le_of_ble_eq_true rfl)) d_MacroExpandModel_goOn_83 ⟨Nat.le_refl _, Nat.le_refl _⟩) hS (fun H locs hw hS => ?_)
      cases hrun
      exact W.vret hx hb hr (fun t ht hW9 => ⟨⟨(), rfl, trivial, by show hW D dA classes b0 _ _ t.heap; rw [ht]; exact hw⟩, hS.F ht⟩) hS.2.2 d_MacroExpandModel_goOn_86
  · rw [if_pos c16] at hrun
    refine lv_aload_n hx hb d_MacroExpandModel_goOn_19 rfl (lv_at hl 1 rfl) ?_
    refine lv_dup hx hb d_MacroExpandModel_goOn_20 rfl ?_
    replace hrun := hb_some hrun
    obtain ⟨v21, g21, hrun⟩ := hrun
    refine h_getI S (fun w q => hT w (i_MacroExpandModel w q)) hK (ci := 1) rfl 28 (by decide) (hT _ fl_MacroExpandModel_139) hw g21 d_MacroExpandModel_goOn_21 ?_
    refine lv_iconst (v := (1 : Int32)) hx hb d_MacroExpandModel_goOn_24 (by decide) ?_
    refine lv_isub hx hb d_MacroExpandModel_goOn_25 ?_
    replace hrun := hb_some hrun
    obtain ⟨h26, g26, hrun⟩ := hrun
    refine h_put S (fun w q => hT w (i_MacroExpandModel w q)) t_MacroExpandModel t_MacroExpandModel_ok n_MacroExpandModel hK (ci := 1) rfl 28 (by decide) (hT _ fl_MacroExpandModel_139) rfl rfl rfl hw hS g26 d_MacroExpandModel_goOn_26 (fun H locs hw hS => ?_)
    refine lv_aload_n hx hb d_MacroExpandModel_goOn_29 rfl (lv_at hl 1 rfl) ?_
    refine lv_iconst (v := (0 : Int32)) hx hb d_MacroExpandModel_goOn_30 (by decide) ?_
    replace hrun := hb_some hrun
    obtain ⟨h31, g31, hrun⟩ := hrun
    obtain ⟨n31, f31, g31⟩ := hpZ_spec g31
    refine h_put S (fun w q => hT w (i_MacroExpandModel w q)) t_MacroExpandModel t_MacroExpandModel_ok n_MacroExpandModel hK (ci := 1) rfl 24 (by decide) (hT _ fl_MacroExpandModel_178) rfl n31 f31 hw hS g31 d_MacroExpandModel_goOn_31 (fun H locs hw hS => ?_)
    refine lv_aload_n hx hb d_MacroExpandModel_goOn_34 rfl (lv_at hl 1 rfl) ?_
    replace hrun := hb_some hrun
    obtain ⟨v35, g35, hrun⟩ := hrun
    refine h_getI S (fun w q => hT w (i_MacroExpandModel w q)) hK (ci := 1) rfl 3 (by decide) (hT _ fl_MacroExpandModel_107) hw g35 d_MacroExpandModel_goOn_35 ?_
    refine lv_aload_n hx hb d_MacroExpandModel_goOn_38 rfl (lv_at hl 1 rfl) ?_
    replace hrun := hb_some hrun
    obtain ⟨c39, k39, hrun⟩ := hrun
    replace hrun := hb_some hrun
    obtain ⟨v39, g39, hrun⟩ := hrun
    refine h_ci (h_runV S (As := []) (rest := [.int v35]) (c_MacroExpandModel_passed l D dA b0 n a0 nx g39) (cwV 0 S.2.2.2.2 (h_good _ (h_in4 ml_MacroExpandModel_156 im_MacroExpandModel_passed se_MacroExpandModel_passed it_MacroExpandModel) cd_MacroExpandModel_passed) rfl rfl rfl (by decide +kernel) ⟨Nat.le_of_ble_eq_true rfl, Nat.le_of_ble_eq_true rfl⟩) hK hN hw (ci := 1) rfl k39 rfl hl.1 (lv_room (Nat.le_of_ble_eq_true rfl)) d_MacroExpandModel_goOn_39 ⟨Nat.le_refl _, Nat.le_refl _⟩) hS (fun H locs hw hS => ?_)
    refine lv_isub hx hb d_MacroExpandModel_goOn_42 ?_
    refine lv_sipush (v := (3000 : Int32)) hx hb d_MacroExpandModel_goOn_43 (by decide) ?_
    refine lv_icmp_le (tgt := 55) hx hb d_MacroExpandModel_goOn_46 (by decide) (fun c46 => ?_) (fun c46 => ?_)
    · rw [if_pos c46] at hrun
      cases hrun
      exact W.vret hx hb hr (fun t ht hW9 => ⟨⟨(), rfl, trivial, by show hW D dA classes b0 _ _ t.heap; rw [ht]; exact hw⟩, hS.F ht⟩) hS.2.2 d_MacroExpandModel_goOn_55
    · rw [if_neg c46] at hrun
      refine lv_aload_n hx hb d_MacroExpandModel_goOn_49 rfl (lv_at hl 1 rfl) ?_
      refine lv_bipush (v := (8 : Int32)) hx hb d_MacroExpandModel_goOn_50 (by decide) ?_
      replace hrun := hb_some hrun
      obtain ⟨c52, k52, hrun⟩ := hrun
      replace hrun := hbW_some hrun
      obtain ⟨_u52, h52, g52, hrun⟩ := hrun
      refine h_cv (h_runV S (As := [.int (8 : Int32)]) (rest := []) (c_MacroExpandModel_mark l D dA b0 a0 (8 : Int32) nx g52) (cwV 1 S.2.2.2.2 (h_good _ (h_in4 ml_MacroExpandModel_123 im_MacroExpandModel_mark se_MacroExpandModel_mark it_MacroExpandModel) cd_MacroExpandModel_mark) rfl rfl rfl (by decide +kernel) ⟨Nat.le_of_ble_eq_true rfl, Nat.le_of_ble_eq_true rfl⟩) hK hN hw (ci := 1) rfl k52 rfl hl.1 (lv_room (Nat.le_of_ble_eq_true rfl)) d_MacroExpandModel_goOn_52 ⟨Nat.le_refl _, Nat.le_refl _⟩) hS (fun H locs hw hS => ?_)
      cases hrun
      exact W.vret hx hb hr (fun t ht hW9 => ⟨⟨(), rfl, trivial, by show hW D dA classes b0 _ _ t.heap; rw [ht]; exact hw⟩, hS.F ht⟩) hS.2.2 d_MacroExpandModel_goOn_55
set_option maxHeartbeats 4000000 in
set_option maxRecDepth 100000 in
theorem c_MacroExpandModel_expandAt (l : Launch) (D : va_G) (dA : Nat → ClassId) (b0 : Nat) (n : Nat) (a0 : Nat) (i1 : Int32) (nx : Nat) {h h' : hH} {r : Unit} (hrun : f_MacroExpandModel_expandAt n a0 i1 h = some (r, h')) : Met l y_MacroExpandModel_expandAt w_MacroExpandModel_expandAt ({ frames := 8, cells := 0, slots := 0, locals := 198 } : Room) (va_Pc [.ref a0, .int i1] (hB D dA b0 nx h)) (va_Qv (fun (_ : Unit) => True) (fun (_ : Unit) t => hW D dA classes b0 nx h' t.heap) (hA b0)) 0 0 (hA b0) := by
  refine Met.ofW (cc := b_MacroExpandModel_expandAt) (maxL := 2) (ret := none) (by decide) rfl ?_
  intro p e s m args below meth c s₁ B hml hv
  obtain ⟨rfl, hw, hK, hN⟩ := hv
  have hx := B.exec
  have hb := B.bytes
  have hr := B.returns
  have hlocks := B.notSynchronized
  have S : CallFix p m c b_MacroExpandModel_expandAt 2 s ([.ref a0, .int i1] : List Value).toArray w_MacroExpandModel_expandAt R_MacroExpandModel := ⟨hx, hb, hml, findClass_of_methodNamed B.named, atoms_spec (ws := w_MacroExpandModel_expandAt) B.pre⟩
  have hT : ∀ w ∈ tbl, w ∈ w_MacroExpandModel_expandAt := fun _ q => List.mem_cons_of_mem _ q
  have hS : va_S (hA b0) s.heap s.heap [] := va_S.rf
  have hl := lv_entry ([.ref a0, .int i1]) (n := 2) (Nat.le_of_ble_eq_true rfl)
  rw [lg_entry_eq]
  generalize (lg_sl ([.ref a0, .int i1]) ++ List.replicate (2 - (lg_sl ([.ref a0, .int i1])).length) Slot.unset).toArray = ls at hl ⊢
  have hl : lv_has ls 2 [(0, .ref a0), (1, .int i1)] := hl
  have l_10 : ∀ (n9 : Nat) (x9 : Unit) (h : hH) (b9 : (Unit)) (h9 : hH) (H : Heap) (locs : List Loc) (ls : Array Slot), hloopW (f_MacroExpandModel_expandAt_b10 n a0) n9 x9 h = some (b9, h9) → hW D dA classes b0 nx h H → va_S (hA b0) s.heap H locs → lv_has ls 2 (match x9 with | _ => [(0, .ref a0)]) → (b9 = () → ∀ (H : Heap) (locs : List Loc) (ls : Array Slot), hW D dA classes b0 nx h9 H → va_S (hA b0) s.heap H locs → lv_has ls 2 [] → W p l e (headSpec w_MacroExpandModel_expandAt ({ frames := 8, cells := 0, slots := 0, locals := 198 } : Room)).room s m ([.ref a0, .int i1] : List Value).toArray below meth c H locs 0 0 (MQ below (va_Qv (fun (_ : Unit) => True) (fun (_ : Unit) t => hW D dA classes b0 nx h' t.heap) (hA b0)) ([.ref a0, .int i1] : List Value).toArray s 0 0 (hA b0)) (F0 m 31 ls [])) → W p l e (headSpec w_MacroExpandModel_expandAt ({ frames := 8, cells := 0, slots := 0, locals := 198 } : Room)).room s m ([.ref a0, .int i1] : List Value).toArray below meth c H locs 0 0 (MQ below (va_Qv (fun (_ : Unit) => True) (fun (_ : Unit) t => hW D dA classes b0 nx h' t.heap) (hA b0)) ([.ref a0, .int i1] : List Value).toArray s 0 0 (hA b0)) (F0 m 10 ls []) := by
    intro  n9
    induction n9 with
    | zero =>
      intro x9 h b9 h9 H locs ls hrun
      cases hrun
    | succ n9 ih =>
      rintro ⟨⟩ h b9 h9 H locs ls hrun hw hS hl k0
      have hl : lv_has ls 2 [(0, .ref a0)] := hl
      unfold hloopW at hrun
      obtain ⟨q9, h9b, hbody, hrun9⟩ := hbW_some hrun
      have K0 : (q9 = .inl () → ∀ (H : Heap) (locs : List Loc) (ls : Array Slot), hW D dA classes b0 nx h9b H → va_S (hA b0) s.heap H locs → lv_has ls 2 [(0, .ref a0)] → W p l e (headSpec w_MacroExpandModel_expandAt ({ frames := 8, cells := 0, slots := 0, locals := 198 } : Room)).room s m ([.ref a0, .int i1] : List Value).toArray below meth c H locs 0 0 (MQ below (va_Qv (fun (_ : Unit) => True) (fun (_ : Unit) t => hW D dA classes b0 nx h' t.heap) (hA b0)) ([.ref a0, .int i1] : List Value).toArray s 0 0 (hA b0)) (F0 m 10 ls [])) := by
        intro  eq9 H locs ls hw hS hl
        subst eq9
        exact ih () h9b b9 h9 H locs ls hrun9 hw hS hl k0
      have K1 : (q9 = .inr () → ∀ (H : Heap) (locs : List Loc) (ls : Array Slot), hW D dA classes b0 nx h9b H → va_S (hA b0) s.heap H locs → lv_has ls 2 [] → W p l e (headSpec w_MacroExpandModel_expandAt ({ frames := 8, cells := 0, slots := 0, locals := 198 } : Room)).room s m ([.ref a0, .int i1] : List Value).toArray below meth c H locs 0 0 (MQ below (va_Qv (fun (_ : Unit) => True) (fun (_ : Unit) t => hW D dA classes b0 nx h' t.heap) (hA b0)) ([.ref a0, .int i1] : List Value).toArray s 0 0 (hA b0)) (F0 m 31 ls [])) := by
        intro  eq9 H locs ls hw hS hl
        subst eq9
        cases hrun9
        exact k0  rfl H locs ls hw hS hl
      clear hrun hrun9 ih k0
      have hrun := hbody
      clear hbody
      dsimp only [f_MacroExpandModel_expandAt_b10] at hrun
      refine lv_aload_n hx hb d_MacroExpandModel_expandAt_10 rfl (lv_at hl 0 rfl) ?_
      replace hrun := hb_some hrun
      obtain ⟨v11, g11, hrun⟩ := hrun
      refine h_getI S (fun w q => hT w (i_MacroExpandModel w q)) hK (ci := 1) rfl 28 (by decide) (hT _ fl_MacroExpandModel_139) hw g11 d_MacroExpandModel_expandAt_11 ?_
      refine lv_if_le (tgt := 31) hx hb d_MacroExpandModel_expandAt_14 (by decide) (fun c14 => ?_) (fun c14 => ?_)
      · rw [if_pos c14] at hrun
        cases hrun
        exact K1  rfl H locs ls hw hS (lv_sub hl [] rfl)
      · rw [if_neg c14] at hrun
        refine lv_aload_n hx hb d_MacroExpandModel_expandAt_17 rfl (lv_at hl 0 rfl) ?_
        replace hrun := hb_some hrun
        obtain ⟨v18, g18, hrun⟩ := hrun
        refine h_getI S (fun w q => hT w (i_MacroExpandModel w q)) hK (ci := 1) rfl 21 (by decide) (hT _ fl_MacroExpandModel_113) hw g18 d_MacroExpandModel_expandAt_18 ?_
        refine lv_if_ne (tgt := 31) hx hb d_MacroExpandModel_expandAt_21 (by decide) (fun c21 => ?_) (fun c21 => ?_)
        · rw [if_neg c21] at hrun
          cases hrun
          exact K1  rfl H locs ls hw hS (lv_sub hl [] rfl)
        · rw [if_pos c21] at hrun
          refine lv_aload_n hx hb d_MacroExpandModel_expandAt_24 rfl (lv_at hl 0 rfl) ?_
          replace hrun := hb_some hrun
          obtain ⟨c25, k25, hrun⟩ := hrun
          replace hrun := hbW_some hrun
          obtain ⟨_u25, h25, g25, hrun⟩ := hrun
          refine h_cv (h_runV S (As := []) (rest := []) (c_MacroExpandModel_goOn l D dA b0 n a0 nx g25) (cwV 0 S.2.2.2.2 (h_good _ (h_in4 ml_MacroExpandModel_198 im_MacroExpandModel_goOn se_MacroExpandModel_goOn it_MacroExpandModel) cd_MacroExpandModel_goOn) rfl rfl rfl (by decide +kernel) ⟨Nat.le_of_ble_eq_true rfl, Nat.le_of_ble_eq_true rfl⟩) hK hN hw (ci := 1) rfl k25 rfl hl.1 (lv_room (Nat.le_of_ble_eq_true rfl)) d_MacroExpandModel_expandAt_25 ⟨Nat.le_refl _, Nat.le_refl _⟩) hS (fun H locs hw hS => ?_)
          refine lv_goto (tgt := 10) hx hb d_MacroExpandModel_expandAt_28 (by decide) ?_
          cases hrun
          exact K0  rfl H locs ls hw hS (lv_sub hl [0] rfl)
  unfold f_MacroExpandModel_expandAt at hrun
  refine lv_aload_n hx hb d_MacroExpandModel_expandAt_0 rfl (lv_at hl 0 rfl) ?_
  refine lv_iconst (v := (0 : Int32)) hx hb d_MacroExpandModel_expandAt_1 (by decide) ?_
  replace hrun := hb_some hrun
  obtain ⟨h2, g2, hrun⟩ := hrun
  refine h_put S (fun w q => hT w (i_MacroExpandModel w q)) t_MacroExpandModel t_MacroExpandModel_ok n_MacroExpandModel hK (ci := 1) rfl 28 (by decide) (hT _ fl_MacroExpandModel_139) rfl rfl rfl hw hS g2 d_MacroExpandModel_expandAt_2 (fun H locs hw hS => ?_)
  refine lv_aload_n hx hb d_MacroExpandModel_expandAt_5 rfl (lv_at hl 0 rfl) ?_
  refine lv_iload_n hx hb d_MacroExpandModel_expandAt_6 rfl (lv_at hl 1 rfl) ?_
  replace hrun := hb_some hrun
  obtain ⟨c7, k7, hrun⟩ := hrun
  replace hrun := hbW_some hrun
  obtain ⟨_u7, h7, g7, hrun⟩ := hrun
  refine h_cv (h_runV S (As := [.int i1]) (rest := []) (c_MacroExpandModel_start l D dA b0 n a0 i1 nx g7) (cwV 1 S.2.2.2.2 (h_good _ (h_in4 ml_MacroExpandModel_191 im_MacroExpandModel_start se_MacroExpandModel_start it_MacroExpandModel) cd_MacroExpandModel_start) rfl rfl rfl (by decide +kernel) ⟨Nat.le_of_ble_eq_true rfl, Nat.le_of_ble_eq_true rfl⟩) hK hN hw (ci := 1) rfl k7 rfl hl.1 (lv_room (Nat.le_of_ble_eq_true rfl)) d_MacroExpandModel_expandAt_7 ⟨Nat.le_refl _, Nat.le_refl _⟩) hS (fun H locs hw hS => ?_)
  replace hrun := hbW_some hrun
  obtain ⟨b10, h10l, g10, hrun⟩ := hrun
  refine l_10 n () h7 _ _ _ _ _ g10 hw hS (lv_sub hl [0] rfl) ?_
  · rintro  eq9 H locs ls hw hS hl
    obtain rfl := eq9.symm
    try dsimp only at hrun
    cases hrun
    exact W.vret hx hb hr (fun t ht hW9 => ⟨⟨(), rfl, trivial, by show hW D dA classes b0 _ _ t.heap; rw [ht]; exact hw⟩, hS.F ht⟩) hS.2.2 d_MacroExpandModel_expandAt_31
set_option maxHeartbeats 4000000 in
set_option maxRecDepth 100000 in
theorem c_MacroExpandModel_begin (l : Launch) (D : va_G) (dA : Nat → ClassId) (b0 : Nat) (a0 : Nat) (nx : Nat) {h h' : hH} {r : Unit} (hrun : f_MacroExpandModel_begin a0 h = some (r, h')) : Met l y_MacroExpandModel_begin w_MacroExpandModel_begin ({ frames := 0, cells := 0, slots := 0, locals := 0 } : Room) (va_Pc [.ref a0] (hB D dA b0 nx h)) (va_Qv (fun (_ : Unit) => True) (fun (_ : Unit) t => hW D dA classes b0 nx h' t.heap) (hA b0)) 0 0 (hA b0) := by
  refine Met.ofW (cc := b_MacroExpandModel_begin) (maxL := 1) (ret := none) (by decide) rfl ?_
  intro p e s m args below meth c s₁ B hml hv
  obtain ⟨rfl, hw, hK, hN⟩ := hv
  have hx := B.exec
  have hb := B.bytes
  have hr := B.returns
  have hlocks := B.notSynchronized
  have S : CallFix p m c b_MacroExpandModel_begin 1 s ([.ref a0] : List Value).toArray w_MacroExpandModel_begin R_MacroExpandModel := ⟨hx, hb, hml, findClass_of_methodNamed B.named, atoms_spec (ws := w_MacroExpandModel_begin) B.pre⟩
  have hT : ∀ w ∈ tbl, w ∈ w_MacroExpandModel_begin := fun _ q => List.mem_cons_of_mem _ q
  have hS : va_S (hA b0) s.heap s.heap [] := va_S.rf
  have hl := lv_entry ([.ref a0]) (n := 1) (Nat.le_of_ble_eq_true rfl)
  rw [lg_entry_eq]
  generalize (lg_sl ([.ref a0]) ++ List.replicate (1 - (lg_sl ([.ref a0])).length) Slot.unset).toArray = ls at hl ⊢
  have hl : lv_has ls 1 [(0, .ref a0)] := hl
  unfold f_MacroExpandModel_begin at hrun
  refine lv_aload_n hx hb d_MacroExpandModel_begin_0 rfl (lv_at hl 0 rfl) ?_
  refine lv_iconst (v := (0 : Int32)) hx hb d_MacroExpandModel_begin_1 (by decide) ?_
  replace hrun := hb_some hrun
  obtain ⟨h2, g2, hrun⟩ := hrun
  refine h_put S (fun w q => hT w (i_MacroExpandModel w q)) t_MacroExpandModel t_MacroExpandModel_ok n_MacroExpandModel hK (ci := 1) rfl 21 (by decide) (hT _ fl_MacroExpandModel_113) rfl rfl rfl hw hS g2 d_MacroExpandModel_begin_2 (fun H locs hw hS => ?_)
  refine lv_aload_n hx hb d_MacroExpandModel_begin_5 rfl (lv_at hl 0 rfl) ?_
  refine lv_iconst (v := (0 : Int32)) hx hb d_MacroExpandModel_begin_6 (by decide) ?_
  replace hrun := hb_some hrun
  obtain ⟨h7, g7, hrun⟩ := hrun
  refine h_put S (fun w q => hT w (i_MacroExpandModel w q)) t_MacroExpandModel t_MacroExpandModel_ok n_MacroExpandModel hK (ci := 1) rfl 22 (by decide) (hT _ fl_MacroExpandModel_142) rfl rfl rfl hw hS g7 d_MacroExpandModel_begin_7 (fun H locs hw hS => ?_)
  refine lv_aload_n hx hb d_MacroExpandModel_begin_10 rfl (lv_at hl 0 rfl) ?_
  refine lv_iconst (v := (0 : Int32)) hx hb d_MacroExpandModel_begin_11 (by decide) ?_
  replace hrun := hb_some hrun
  obtain ⟨h12, g12, hrun⟩ := hrun
  refine h_put S (fun w q => hT w (i_MacroExpandModel w q)) t_MacroExpandModel t_MacroExpandModel_ok n_MacroExpandModel hK (ci := 1) rfl 23 (by decide) (hT _ fl_MacroExpandModel_175) rfl rfl rfl hw hS g12 d_MacroExpandModel_begin_12 (fun H locs hw hS => ?_)
  refine lv_aload_n hx hb d_MacroExpandModel_begin_15 rfl (lv_at hl 0 rfl) ?_
  refine lv_iconst (v := (0 : Int32)) hx hb d_MacroExpandModel_begin_16 (by decide) ?_
  replace hrun := hb_some hrun
  obtain ⟨h17, g17, hrun⟩ := hrun
  obtain ⟨n17, f17, g17⟩ := hpZ_spec g17
  refine h_put S (fun w q => hT w (i_MacroExpandModel w q)) t_MacroExpandModel t_MacroExpandModel_ok n_MacroExpandModel hK (ci := 1) rfl 24 (by decide) (hT _ fl_MacroExpandModel_178) rfl n17 f17 hw hS g17 d_MacroExpandModel_begin_17 (fun H locs hw hS => ?_)
  refine lv_aload_n hx hb d_MacroExpandModel_begin_20 rfl (lv_at hl 0 rfl) ?_
  refine lv_iconst (v := (0 : Int32)) hx hb d_MacroExpandModel_begin_21 (by decide) ?_
  replace hrun := hb_some hrun
  obtain ⟨h22, g22, hrun⟩ := hrun
  refine h_put S (fun w q => hT w (i_MacroExpandModel w q)) t_MacroExpandModel t_MacroExpandModel_ok n_MacroExpandModel hK (ci := 1) rfl 25 (by decide) (hT _ fl_MacroExpandModel_169) rfl rfl rfl hw hS g22 d_MacroExpandModel_begin_22 (fun H locs hw hS => ?_)
  refine lv_aload_n hx hb d_MacroExpandModel_begin_25 rfl (lv_at hl 0 rfl) ?_
  refine lv_iconst (v := (0 : Int32)) hx hb d_MacroExpandModel_begin_26 (by decide) ?_
  replace hrun := hb_some hrun
  obtain ⟨h27, g27, hrun⟩ := hrun
  refine h_put S (fun w q => hT w (i_MacroExpandModel w q)) t_MacroExpandModel t_MacroExpandModel_ok n_MacroExpandModel hK (ci := 1) rfl 32 (by decide) (hT _ fl_MacroExpandModel_201) rfl rfl rfl hw hS g27 d_MacroExpandModel_begin_27 (fun H locs hw hS => ?_)
  refine lv_aload_n hx hb d_MacroExpandModel_begin_30 rfl (lv_at hl 0 rfl) ?_
  refine lv_iconst (v := (-1 : Int32)) hx hb d_MacroExpandModel_begin_31 (by decide) ?_
  replace hrun := hb_some hrun
  obtain ⟨h32, g32, hrun⟩ := hrun
  refine h_put S (fun w q => hT w (i_MacroExpandModel w q)) t_MacroExpandModel t_MacroExpandModel_ok n_MacroExpandModel hK (ci := 1) rfl 33 (by decide) (hT _ fl_MacroExpandModel_204) rfl rfl rfl hw hS g32 d_MacroExpandModel_begin_32 (fun H locs hw hS => ?_)
  cases hrun
  exact W.vret hx hb hr (fun t ht hW9 => ⟨⟨(), rfl, trivial, by show hW D dA classes b0 _ _ t.heap; rw [ht]; exact hw⟩, hS.F ht⟩) hS.2.2 d_MacroExpandModel_begin_35
set_option maxHeartbeats 4000000 in
set_option maxRecDepth 100000 in
theorem c_MacroExpandModel_defines (l : Launch) (D : va_G) (dA : Nat → ClassId) (b0 : Nat) (n : Nat) (a0 : Nat) (i1 : Int32) (nx : Nat) {h h' : hH} {r : Unit} (hrun : f_MacroExpandModel_defines n a0 i1 h = some (r, h')) : Met l y_MacroExpandModel_defines w_MacroExpandModel_defines ({ frames := 9, cells := 0, slots := 0, locals := 219 } : Room) (va_Pc [.ref a0, .int i1] (hB D dA b0 nx h)) (va_Qv (fun (_ : Unit) => True) (fun (_ : Unit) t => hW D dA classes b0 nx h' t.heap) (hA b0)) 0 0 (hA b0) := by
  refine Met.ofW (cc := b_MacroExpandModel_defines) (maxL := 10) (ret := none) (by decide) rfl ?_
  intro p e s m args below meth c s₁ B hml hv
  obtain ⟨rfl, hw, hK, hN⟩ := hv
  have hx := B.exec
  have hb := B.bytes
  have hr := B.returns
  have hlocks := B.notSynchronized
  have S : CallFix p m c b_MacroExpandModel_defines 10 s ([.ref a0, .int i1] : List Value).toArray w_MacroExpandModel_defines R_MacroExpandModel := ⟨hx, hb, hml, findClass_of_methodNamed B.named, atoms_spec (ws := w_MacroExpandModel_defines) B.pre⟩
  have hT : ∀ w ∈ tbl, w ∈ w_MacroExpandModel_defines := fun _ q => List.mem_cons_of_mem _ q
  have hS : va_S (hA b0) s.heap s.heap [] := va_S.rf
  have hl := lv_entry ([.ref a0, .int i1]) (n := 10) (Nat.le_of_ble_eq_true rfl)
  rw [lg_entry_eq]
  generalize (lg_sl ([.ref a0, .int i1]) ++ List.replicate (10 - (lg_sl ([.ref a0, .int i1])).length) Slot.unset).toArray = ls at hl ⊢
  have hl : lv_has ls 10 [(0, .ref a0), (1, .int i1)] := hl
  have l_557 : ∀ (x3 : Int32) (x7 : Int32) (n9 : Nat) (x9 : Int32) (h : hH) (b9 : (Unit)) (h9 : hH) (H : Heap) (locs : List Loc) (ls : Array Slot), hloopW (f_MacroExpandModel_defines_b557 n a0 x3 x7) n9 x9 h = some (b9, h9) → hW D dA classes b0 nx h H → va_S (hA b0) s.heap H locs → lv_has ls 10 (match x9 with | x8 => [(0, .ref a0), (3, .int x3), (7, .int x7), (8, .int x8)]) → (b9 = () → ∀ (H : Heap) (locs : List Loc) (ls : Array Slot), hW D dA classes b0 nx h9 H → va_S (hA b0) s.heap H locs → lv_has ls 10 [(0, .ref a0)] → W p l e (headSpec w_MacroExpandModel_defines ({ frames := 9, cells := 0, slots := 0, locals := 219 } : Room)).room s m ([.ref a0, .int i1] : List Value).toArray below meth c H locs 0 0 (MQ below (va_Qv (fun (_ : Unit) => True) (fun (_ : Unit) t => hW D dA classes b0 nx h' t.heap) (hA b0)) ([.ref a0, .int i1] : List Value).toArray s 0 0 (hA b0)) (F0 m 644 ls [])) → W p l e (headSpec w_MacroExpandModel_defines ({ frames := 9, cells := 0, slots := 0, locals := 219 } : Room)).room s m ([.ref a0, .int i1] : List Value).toArray below meth c H locs 0 0 (MQ below (va_Qv (fun (_ : Unit) => True) (fun (_ : Unit) t => hW D dA classes b0 nx h' t.heap) (hA b0)) ([.ref a0, .int i1] : List Value).toArray s 0 0 (hA b0)) (F0 m 557 ls []) := by
    intro x3 x7 n9
    induction n9 with
    | zero =>
      intro x9 h b9 h9 H locs ls hrun
      cases hrun
    | succ n9 ih =>
      rintro x8 h b9 h9 H locs ls hrun hw hS hl k0
      have hl : lv_has ls 10 [(0, .ref a0), (3, .int x3), (7, .int x7), (8, .int x8)] := hl
      unfold hloopW at hrun
      obtain ⟨q9, h9b, hbody, hrun9⟩ := hbW_some hrun
      have K0 : (∀ (z8 : Int32), q9 = .inl z8 → ∀ (H : Heap) (locs : List Loc) (ls : Array Slot), hW D dA classes b0 nx h9b H → va_S (hA b0) s.heap H locs → lv_has ls 10 [(0, .ref a0), (3, .int x3), (7, .int x7), (8, .int z8)] → W p l e (headSpec w_MacroExpandModel_defines ({ frames := 9, cells := 0, slots := 0, locals := 219 } : Room)).room s m ([.ref a0, .int i1] : List Value).toArray below meth c H locs 0 0 (MQ below (va_Qv (fun (_ : Unit) => True) (fun (_ : Unit) t => hW D dA classes b0 nx h' t.heap) (hA b0)) ([.ref a0, .int i1] : List Value).toArray s 0 0 (hA b0)) (F0 m 557 ls [])) := by
        intro z8 eq9 H locs ls hw hS hl
        subst eq9
        exact ih z8 h9b b9 h9 H locs ls hrun9 hw hS hl k0
      have K1 : (q9 = .inr () → ∀ (H : Heap) (locs : List Loc) (ls : Array Slot), hW D dA classes b0 nx h9b H → va_S (hA b0) s.heap H locs → lv_has ls 10 [(0, .ref a0)] → W p l e (headSpec w_MacroExpandModel_defines ({ frames := 9, cells := 0, slots := 0, locals := 219 } : Room)).room s m ([.ref a0, .int i1] : List Value).toArray below meth c H locs 0 0 (MQ below (va_Qv (fun (_ : Unit) => True) (fun (_ : Unit) t => hW D dA classes b0 nx h' t.heap) (hA b0)) ([.ref a0, .int i1] : List Value).toArray s 0 0 (hA b0)) (F0 m 644 ls [])) := by
        intro  eq9 H locs ls hw hS hl
        subst eq9
        cases hrun9
        exact k0  rfl H locs ls hw hS hl
      clear hrun hrun9 ih k0
      have hrun := hbody
      clear hbody
      have l_586 : ∀ (x3 : Int32) (x7 : Int32) (x8 : Int32) (n9 : Nat) (x9 : Int32) (h : hH) (b9 : (Unit)) (h9 : hH) (H : Heap) (locs : List Loc) (ls : Array Slot), hloopW (f_MacroExpandModel_defines_b586 n a0 x3 x7 x8) n9 x9 h = some (b9, h9) → hW D dA classes b0 nx h H → va_S (hA b0) s.heap H locs → lv_has ls 10 (match x9 with | x9 => [(0, .ref a0), (3, .int x3), (7, .int x7), (8, .int x8), (9, .int x9)]) → (b9 = () → ∀ (H : Heap) (locs : List Loc) (ls : Array Slot), hW D dA classes b0 nx h9 H → va_S (hA b0) s.heap H locs → lv_has ls 10 [(0, .ref a0), (3, .int x3), (7, .int x7), (8, .int x8)] → W p l e (headSpec w_MacroExpandModel_defines ({ frames := 9, cells := 0, slots := 0, locals := 219 } : Room)).room s m ([.ref a0, .int i1] : List Value).toArray below meth c H locs 0 0 (MQ below (va_Qv (fun (_ : Unit) => True) (fun (_ : Unit) t => hW D dA classes b0 nx h' t.heap) (hA b0)) ([.ref a0, .int i1] : List Value).toArray s 0 0 (hA b0)) (F0 m 638 ls [])) → W p l e (headSpec w_MacroExpandModel_defines ({ frames := 9, cells := 0, slots := 0, locals := 219 } : Room)).room s m ([.ref a0, .int i1] : List Value).toArray below meth c H locs 0 0 (MQ below (va_Qv (fun (_ : Unit) => True) (fun (_ : Unit) t => hW D dA classes b0 nx h' t.heap) (hA b0)) ([.ref a0, .int i1] : List Value).toArray s 0 0 (hA b0)) (F0 m 586 ls []) := by
        intro x3 x7 x8 n9
        induction n9 with
        | zero =>
          intro x9 h b9 h9 H locs ls hrun
          cases hrun
        | succ n9 ih =>
          rintro x9 h b9 h9 H locs ls hrun hw hS hl k0
          have hl : lv_has ls 10 [(0, .ref a0), (3, .int x3), (7, .int x7), (8, .int x8), (9, .int x9)] := hl
          unfold hloopW at hrun
          obtain ⟨q9, h9b, hbody, hrun9⟩ := hbW_some hrun
          have K0 : (∀ (z9 : Int32), q9 = .inl z9 → ∀ (H : Heap) (locs : List Loc) (ls : Array Slot), hW D dA classes b0 nx h9b H → va_S (hA b0) s.heap H locs → lv_has ls 10 [(0, .ref a0), (3, .int x3), (7, .int x7), (8, .int x8), (9, .int z9)] → W p l e (headSpec w_MacroExpandModel_defines ({ frames := 9, cells := 0, slots := 0, locals := 219 } : Room)).room s m ([.ref a0, .int i1] : List Value).toArray below meth c H locs 0 0 (MQ below (va_Qv (fun (_ : Unit) => True) (fun (_ : Unit) t => hW D dA classes b0 nx h' t.heap) (hA b0)) ([.ref a0, .int i1] : List Value).toArray s 0 0 (hA b0)) (F0 m 586 ls [])) := by
            intro z9 eq9 H locs ls hw hS hl
            subst eq9
            exact ih z9 h9b b9 h9 H locs ls hrun9 hw hS hl k0
          have K1 : (q9 = .inr () → ∀ (H : Heap) (locs : List Loc) (ls : Array Slot), hW D dA classes b0 nx h9b H → va_S (hA b0) s.heap H locs → lv_has ls 10 [(0, .ref a0), (3, .int x3), (7, .int x7), (8, .int x8)] → W p l e (headSpec w_MacroExpandModel_defines ({ frames := 9, cells := 0, slots := 0, locals := 219 } : Room)).room s m ([.ref a0, .int i1] : List Value).toArray below meth c H locs 0 0 (MQ below (va_Qv (fun (_ : Unit) => True) (fun (_ : Unit) t => hW D dA classes b0 nx h' t.heap) (hA b0)) ([.ref a0, .int i1] : List Value).toArray s 0 0 (hA b0)) (F0 m 638 ls [])) := by
            intro  eq9 H locs ls hw hS hl
            subst eq9
            cases hrun9
            exact k0  rfl H locs ls hw hS hl
          clear hrun hrun9 ih k0
          have hrun := hbody
          clear hbody
          dsimp only [f_MacroExpandModel_defines_b586] at hrun
          refine lv_iload hx hb d_MacroExpandModel_defines_586 (lv_at hl 4 rfl) ?_
          refine lv_aload_n hx hb d_MacroExpandModel_defines_588 rfl (lv_at hl 0 rfl) ?_
          replace hrun := hb_some hrun
          obtain ⟨v589, g589, hrun⟩ := hrun
          refine h_getR S (fun w q => hT w (i_MacroExpandModel w q)) hK (ci := 1) rfl 35 (by decide) (hT _ fl_MacroExpandModel_71) hw g589 d_MacroExpandModel_defines_589 ?_
          refine lv_iload hx hb d_MacroExpandModel_defines_592 (lv_at hl 3 rfl) ?_
          replace hrun := hb_some hrun
          obtain ⟨p594, rfl, hrun⟩ := hrun
          replace hrun := hb_some hrun
          obtain ⟨v594, g594, hrun⟩ := hrun
          refine h_iald S hK (kd := 0) rfl hw g594 d_MacroExpandModel_defines_594 ?_
          refine lv_icmp_ge (tgt := 638) hx hb d_MacroExpandModel_defines_595 (by decide) (fun c595 => ?_) (fun c595 => ?_)
          · rw [if_pos c595] at hrun
            cases hrun
            exact K1  rfl H locs ls hw hS (lv_sub hl [0, 1, 2, 3] rfl)
          · rw [if_neg c595] at hrun
            refine lv_aload_n hx hb d_MacroExpandModel_defines_598 rfl (lv_at hl 0 rfl) ?_
            replace hrun := hb_some hrun
            obtain ⟨v599, g599, hrun⟩ := hrun
            refine h_getR S (fun w q => hT w (i_MacroExpandModel w q)) hK (ci := 1) rfl 12 (by decide) (hT _ fl_MacroExpandModel_32) hw g599 d_MacroExpandModel_defines_599 ?_
            refine lv_sipush (v := (200 : Int32)) hx hb d_MacroExpandModel_defines_602 (by decide) ?_
            refine lv_bipush (v := (10 : Int32)) hx hb d_MacroExpandModel_defines_605 (by decide) ?_
            refine lv_iload hx hb d_MacroExpandModel_defines_607 (lv_at hl 2 rfl) ?_
            refine lv_imul hx hb d_MacroExpandModel_defines_609 ?_
            refine lv_iload hx hb d_MacroExpandModel_defines_610 (lv_at hl 3 rfl) ?_
            refine lv_iadd hx hb d_MacroExpandModel_defines_612 ?_
            refine lv_imul hx hb d_MacroExpandModel_defines_613 ?_
            refine lv_iload hx hb d_MacroExpandModel_defines_614 (lv_at hl 4 rfl) ?_
            refine lv_iadd hx hb d_MacroExpandModel_defines_616 ?_
            refine lv_aload_n hx hb d_MacroExpandModel_defines_617 rfl (lv_at hl 0 rfl) ?_
            replace hrun := hb_some hrun
            obtain ⟨v618, g618, hrun⟩ := hrun
            refine h_getR S (fun w q => hT w (i_MacroExpandModel w q)) hK (ci := 1) rfl 34 (by decide) (hT _ fl_MacroExpandModel_68) hw g618 d_MacroExpandModel_defines_618 ?_
            refine lv_sipush (v := (200 : Int32)) hx hb d_MacroExpandModel_defines_621 (by decide) ?_
            refine lv_iload hx hb d_MacroExpandModel_defines_624 (lv_at hl 3 rfl) ?_
            refine lv_imul hx hb d_MacroExpandModel_defines_626 ?_
            refine lv_iload hx hb d_MacroExpandModel_defines_627 (lv_at hl 4 rfl) ?_
            refine lv_iadd hx hb d_MacroExpandModel_defines_629 ?_
            replace hrun := hb_some hrun
            obtain ⟨p630, rfl, hrun⟩ := hrun
            replace hrun := hb_some hrun
            obtain ⟨v630, g630, hrun⟩ := hrun
            refine h_iald S hK (kd := 0) rfl hw g630 d_MacroExpandModel_defines_630 ?_
            replace hrun := hb_some hrun
            obtain ⟨p631, rfl, hrun⟩ := hrun
            replace hrun := hb_some hrun
            obtain ⟨h631, g631, hrun⟩ := hrun
            refine h_iast S hK (kd := 0) rfl hw hS g631 d_MacroExpandModel_defines_631 (fun H locs hw hS => ?_)
            refine lv_iinc (v := (x9 + (1 : Int32))) (lv' := [(9, .int (x9 + (1 : Int32))), (0, .ref a0), (3, .int x3), (7, .int x7), (8, .int x8)]) hx hb d_MacroExpandModel_defines_632 hl (k := 4) rfl rfl (by decide) rfl (fun ls hl => ?_)
            refine lv_goto (tgt := 586) hx hb d_MacroExpandModel_defines_635 (by decide) ?_
            cases hrun
            exact K0 (x9 + (1 : Int32)) rfl H locs ls hw hS (lv_sub hl [1, 2, 3, 4, 0] rfl)
      dsimp only [f_MacroExpandModel_defines_b557] at hrun
      refine lv_iload hx hb d_MacroExpandModel_defines_557 (lv_at hl 3 rfl) ?_
      refine lv_iload_n hx hb d_MacroExpandModel_defines_559 rfl (lv_at hl 1 rfl) ?_
      refine lv_icmp_gt (tgt := 644) hx hb d_MacroExpandModel_defines_560 (by decide) (fun c560 => ?_) (fun c560 => ?_)
      · rw [if_pos c560] at hrun
        cases hrun
        exact K1  rfl H locs ls hw hS (lv_sub hl [0] rfl)
      · rw [if_neg c560] at hrun
        refine lv_aload_n hx hb d_MacroExpandModel_defines_563 rfl (lv_at hl 0 rfl) ?_
        replace hrun := hb_some hrun
        obtain ⟨v564, g564, hrun⟩ := hrun
        refine h_getR S (fun w q => hT w (i_MacroExpandModel w q)) hK (ci := 1) rfl 11 (by decide) (hT _ fl_MacroExpandModel_28) hw g564 d_MacroExpandModel_defines_564 ?_
        refine lv_bipush (v := (10 : Int32)) hx hb d_MacroExpandModel_defines_567 (by decide) ?_
        refine lv_iload hx hb d_MacroExpandModel_defines_569 (lv_at hl 2 rfl) ?_
        refine lv_imul hx hb d_MacroExpandModel_defines_571 ?_
        refine lv_iload hx hb d_MacroExpandModel_defines_572 (lv_at hl 3 rfl) ?_
        refine lv_iadd hx hb d_MacroExpandModel_defines_574 ?_
        refine lv_aload_n hx hb d_MacroExpandModel_defines_575 rfl (lv_at hl 0 rfl) ?_
        replace hrun := hb_some hrun
        obtain ⟨v576, g576, hrun⟩ := hrun
        refine h_getR S (fun w q => hT w (i_MacroExpandModel w q)) hK (ci := 1) rfl 35 (by decide) (hT _ fl_MacroExpandModel_71) hw g576 d_MacroExpandModel_defines_576 ?_
        refine lv_iload hx hb d_MacroExpandModel_defines_579 (lv_at hl 3 rfl) ?_
        replace hrun := hb_some hrun
        obtain ⟨p581, rfl, hrun⟩ := hrun
        replace hrun := hb_some hrun
        obtain ⟨v581, g581, hrun⟩ := hrun
        refine h_iald S hK (kd := 0) rfl hw g581 d_MacroExpandModel_defines_581 ?_
        replace hrun := hb_some hrun
        obtain ⟨p582, rfl, hrun⟩ := hrun
        replace hrun := hb_some hrun
        obtain ⟨h582, g582, hrun⟩ := hrun
        refine h_iast S hK (kd := 0) rfl hw hS g582 d_MacroExpandModel_defines_582 (fun H locs hw hS => ?_)
        refine lv_iconst (v := (0 : Int32)) hx hb d_MacroExpandModel_defines_583 (by decide) ?_
        refine lv_istore (lv' := [(9, .int (0 : Int32)), (0, .ref a0), (3, .int x3), (7, .int x7), (8, .int x8)]) hx hb d_MacroExpandModel_defines_584 hl (by decide) rfl (fun ls hl => ?_)
        replace hrun := hbW_some hrun
        obtain ⟨b586, h586l, g586, hrun⟩ := hrun
        refine l_586 x3 x7 x8 n (0 : Int32) h582 _ _ _ _ _ g586 hw hS (lv_sub hl [1, 2, 3, 4, 0] rfl) ?_
        · rintro  eq9 H locs ls hw hS hl
          obtain rfl := eq9.symm
          try dsimp only at hrun
          refine lv_iinc (v := (x8 + (1 : Int32))) (lv' := [(8, .int (x8 + (1 : Int32))), (0, .ref a0), (3, .int x3), (7, .int x7)]) hx hb d_MacroExpandModel_defines_638 hl (k := 3) rfl rfl (by decide) rfl (fun ls hl => ?_)
          refine lv_goto (tgt := 557) hx hb d_MacroExpandModel_defines_641 (by decide) ?_
          cases hrun
          exact K0 (x8 + (1 : Int32)) rfl H locs ls hw hS (lv_sub hl [1, 2, 3, 0] rfl)
  have l_520 : ∀ (x3 : Int32) (x4 : Int32) (x7 : Int32) (n9 : Nat) (x9 : Int32) (h : hH) (b9 : (Unit)) (h9 : hH) (H : Heap) (locs : List Loc) (ls : Array Slot), hloopW (f_MacroExpandModel_defines_b520 n a0 x3 x4 x7) n9 x9 h = some (b9, h9) → hW D dA classes b0 nx h H → va_S (hA b0) s.heap H locs → lv_has ls 10 (match x9 with | x8 => [(0, .ref a0), (3, .int x3), (4, .int x4), (7, .int x7), (8, .int x8)]) → (b9 = () → ∀ (H : Heap) (locs : List Loc) (ls : Array Slot), hW D dA classes b0 nx h9 H → va_S (hA b0) s.heap H locs → lv_has ls 10 [(0, .ref a0), (3, .int x3), (7, .int x7)] → W p l e (headSpec w_MacroExpandModel_defines ({ frames := 9, cells := 0, slots := 0, locals := 219 } : Room)).room s m ([.ref a0, .int i1] : List Value).toArray below meth c H locs 0 0 (MQ below (va_Qv (fun (_ : Unit) => True) (fun (_ : Unit) t => hW D dA classes b0 nx h' t.heap) (hA b0)) ([.ref a0, .int i1] : List Value).toArray s 0 0 (hA b0)) (F0 m 554 ls [])) → W p l e (headSpec w_MacroExpandModel_defines ({ frames := 9, cells := 0, slots := 0, locals := 219 } : Room)).room s m ([.ref a0, .int i1] : List Value).toArray below meth c H locs 0 0 (MQ below (va_Qv (fun (_ : Unit) => True) (fun (_ : Unit) t => hW D dA classes b0 nx h' t.heap) (hA b0)) ([.ref a0, .int i1] : List Value).toArray s 0 0 (hA b0)) (F0 m 520 ls []) := by
    intro x3 x4 x7 n9
    induction n9 with
    | zero =>
      intro x9 h b9 h9 H locs ls hrun
      cases hrun
    | succ n9 ih =>
      rintro x8 h b9 h9 H locs ls hrun hw hS hl k0
      have hl : lv_has ls 10 [(0, .ref a0), (3, .int x3), (4, .int x4), (7, .int x7), (8, .int x8)] := hl
      unfold hloopW at hrun
      obtain ⟨q9, h9b, hbody, hrun9⟩ := hbW_some hrun
      have K0 : (∀ (z8 : Int32), q9 = .inl z8 → ∀ (H : Heap) (locs : List Loc) (ls : Array Slot), hW D dA classes b0 nx h9b H → va_S (hA b0) s.heap H locs → lv_has ls 10 [(0, .ref a0), (3, .int x3), (4, .int x4), (7, .int x7), (8, .int z8)] → W p l e (headSpec w_MacroExpandModel_defines ({ frames := 9, cells := 0, slots := 0, locals := 219 } : Room)).room s m ([.ref a0, .int i1] : List Value).toArray below meth c H locs 0 0 (MQ below (va_Qv (fun (_ : Unit) => True) (fun (_ : Unit) t => hW D dA classes b0 nx h' t.heap) (hA b0)) ([.ref a0, .int i1] : List Value).toArray s 0 0 (hA b0)) (F0 m 520 ls [])) := by
        intro z8 eq9 H locs ls hw hS hl
        subst eq9
        exact ih z8 h9b b9 h9 H locs ls hrun9 hw hS hl k0
      have K1 : (q9 = .inr () → ∀ (H : Heap) (locs : List Loc) (ls : Array Slot), hW D dA classes b0 nx h9b H → va_S (hA b0) s.heap H locs → lv_has ls 10 [(0, .ref a0), (3, .int x3), (7, .int x7)] → W p l e (headSpec w_MacroExpandModel_defines ({ frames := 9, cells := 0, slots := 0, locals := 219 } : Room)).room s m ([.ref a0, .int i1] : List Value).toArray below meth c H locs 0 0 (MQ below (va_Qv (fun (_ : Unit) => True) (fun (_ : Unit) t => hW D dA classes b0 nx h' t.heap) (hA b0)) ([.ref a0, .int i1] : List Value).toArray s 0 0 (hA b0)) (F0 m 554 ls [])) := by
        intro  eq9 H locs ls hw hS hl
        subst eq9
        cases hrun9
        exact k0  rfl H locs ls hw hS hl
      clear hrun hrun9 ih k0
      have hrun := hbody
      clear hbody
      dsimp only [f_MacroExpandModel_defines_b520] at hrun
      refine lv_iload hx hb d_MacroExpandModel_defines_520 (lv_at hl 4 rfl) ?_
      refine lv_iload hx hb d_MacroExpandModel_defines_522 (lv_at hl 2 rfl) ?_
      refine lv_icmp_ge (tgt := 554) hx hb d_MacroExpandModel_defines_524 (by decide) (fun c524 => ?_) (fun c524 => ?_)
      · rw [if_pos c524] at hrun
        cases hrun
        exact K1  rfl H locs ls hw hS (lv_sub hl [0, 1, 3] rfl)
      · rw [if_neg c524] at hrun
        refine lv_aload_n hx hb d_MacroExpandModel_defines_527 rfl (lv_at hl 0 rfl) ?_
        replace hrun := hb_some hrun
        obtain ⟨v528, g528, hrun⟩ := hrun
        refine h_getR S (fun w q => hT w (i_MacroExpandModel w q)) hK (ci := 1) rfl 10 (by decide) (hT _ fl_MacroExpandModel_25) hw g528 d_MacroExpandModel_defines_528 ?_
        refine lv_sipush (v := (200 : Int32)) hx hb d_MacroExpandModel_defines_531 (by decide) ?_
        refine lv_iload hx hb d_MacroExpandModel_defines_534 (lv_at hl 3 rfl) ?_
        refine lv_imul hx hb d_MacroExpandModel_defines_536 ?_
        refine lv_iload hx hb d_MacroExpandModel_defines_537 (lv_at hl 4 rfl) ?_
        refine lv_iadd hx hb d_MacroExpandModel_defines_539 ?_
        refine lv_aload_n hx hb d_MacroExpandModel_defines_540 rfl (lv_at hl 0 rfl) ?_
        replace hrun := hb_some hrun
        obtain ⟨v541, g541, hrun⟩ := hrun
        refine h_getR S (fun w q => hT w (i_MacroExpandModel w q)) hK (ci := 1) rfl 36 (by decide) (hT _ fl_MacroExpandModel_74) hw g541 d_MacroExpandModel_defines_541 ?_
        refine lv_iload hx hb d_MacroExpandModel_defines_544 (lv_at hl 4 rfl) ?_
        replace hrun := hb_some hrun
        obtain ⟨p546, rfl, hrun⟩ := hrun
        replace hrun := hb_some hrun
        obtain ⟨v546, g546, hrun⟩ := hrun
        refine h_iald S hK (kd := 0) rfl hw g546 d_MacroExpandModel_defines_546 ?_
        replace hrun := hb_some hrun
        obtain ⟨p547, rfl, hrun⟩ := hrun
        replace hrun := hb_some hrun
        obtain ⟨h547, g547, hrun⟩ := hrun
        refine h_iast S hK (kd := 0) rfl hw hS g547 d_MacroExpandModel_defines_547 (fun H locs hw hS => ?_)
        refine lv_iinc (v := (x8 + (1 : Int32))) (lv' := [(8, .int (x8 + (1 : Int32))), (0, .ref a0), (3, .int x3), (4, .int x4), (7, .int x7)]) hx hb d_MacroExpandModel_defines_548 hl (k := 4) rfl rfl (by decide) rfl (fun ls hl => ?_)
        refine lv_goto (tgt := 520) hx hb d_MacroExpandModel_defines_551 (by decide) ?_
        cases hrun
        exact K0 (x8 + (1 : Int32)) rfl H locs ls hw hS (lv_sub hl [1, 2, 3, 4, 0] rfl)
  have j_488 : ∀  (x2 : Int32) (x3 : Int32) (x4 : Int32) (h : hH) (H : Heap) (locs : List Loc) (ls : Array Slot), f_MacroExpandModel_defines_j488 n a0 x2 x3 x4 h = some (r, h') → hW D dA classes b0 nx h H → va_S (hA b0) s.heap H locs → lv_has ls 10 [(0, .ref a0), (2, .int x2), (3, .int x3), (4, .int x4)] → W p l e (headSpec w_MacroExpandModel_defines ({ frames := 9, cells := 0, slots := 0, locals := 219 } : Room)).room s m ([.ref a0, .int i1] : List Value).toArray below meth c H locs 0 0 (MQ below (va_Qv (fun (_ : Unit) => True) (fun (_ : Unit) t => hW D dA classes b0 nx h' t.heap) (hA b0)) ([.ref a0, .int i1] : List Value).toArray s 0 0 (hA b0)) (F0 m 488 ls []) := by
    intro x2 x3 x4 h H locs ls hrun hw hS hl
    unfold f_MacroExpandModel_defines_j488 at hrun
    refine lv_aload_n hx hb d_MacroExpandModel_defines_488 rfl (lv_at hl 0 rfl) ?_
    replace hrun := hb_some hrun
    obtain ⟨v489, g489, hrun⟩ := hrun
    refine h_getI S (fun w q => hT w (i_MacroExpandModel w q)) hK (ci := 1) rfl 21 (by decide) (hT _ fl_MacroExpandModel_113) hw g489 d_MacroExpandModel_defines_489 ?_
    refine lv_if_eq (tgt := 496) hx hb d_MacroExpandModel_defines_492 (by decide) (fun c492 => ?_) (fun c492 => ?_)
    · rw [if_pos c492] at hrun
      refine lv_aload_n hx hb d_MacroExpandModel_defines_496 rfl (lv_at hl 0 rfl) ?_
      refine lv_iload_n hx hb d_MacroExpandModel_defines_497 rfl (lv_at hl 1 rfl) ?_
      refine lv_iload_n hx hb d_MacroExpandModel_defines_498 rfl (lv_at hl 2 rfl) ?_
      refine lv_aload_n hx hb d_MacroExpandModel_defines_499 rfl (lv_at hl 0 rfl) ?_
      replace hrun := hb_some hrun
      obtain ⟨v500, g500, hrun⟩ := hrun
      refine h_getI S (fun w q => hT w (i_MacroExpandModel w q)) hK (ci := 1) rfl 32 (by decide) (hT _ fl_MacroExpandModel_201) hw g500 d_MacroExpandModel_defines_500 ?_
      replace hrun := hb_some hrun
      obtain ⟨c503, k503, hrun⟩ := hrun
      replace hrun := hbW_some hrun
      obtain ⟨v503, h503, g503, hrun⟩ := hrun
      refine h_ci (h_runV S (As := [.int x2, .int x3, .int v500]) (rest := []) (c_MacroExpandModel_newMacro l D dA b0 n a0 x2 x3 v500 nx g503) (cwV 3 S.2.2.2.2 (h_good _ (h_in4 ml_MacroExpandModel_100 im_MacroExpandModel_newMacro se_MacroExpandModel_newMacro it_MacroExpandModel) cd_MacroExpandModel_newMacro) rfl rfl rfl (by decide +kernel) ⟨Nat.le_of_ble_eq_true rfl, Nat.le_of_ble_eq_true rfl⟩) hK hN hw (ci := 1) rfl k503 rfl hl.1 (lv_room (Nat.le_of_ble_eq_true rfl)) d_MacroExpandModel_defines_503 ⟨Nat.le_refl _, Nat.le_refl _⟩) hS (fun H locs hw hS => ?_)
      refine lv_istore (lv' := [(7, .int v503), (0, .ref a0), (2, .int x2), (3, .int x3), (4, .int x4)]) hx hb d_MacroExpandModel_defines_506 hl (by decide) rfl (fun ls hl => ?_)
      refine lv_aload_n hx hb d_MacroExpandModel_defines_508 rfl (lv_at hl 1 rfl) ?_
      replace hrun := hb_some hrun
      obtain ⟨v509, g509, hrun⟩ := hrun
      refine h_getR S (fun w q => hT w (i_MacroExpandModel w q)) hK (ci := 1) rfl 9 (by decide) (hT _ fl_MacroExpandModel_22) hw g509 d_MacroExpandModel_defines_509 ?_
      refine lv_iload hx hb d_MacroExpandModel_defines_512 (lv_at hl 0 rfl) ?_
      refine lv_iload hx hb d_MacroExpandModel_defines_514 (lv_at hl 4 rfl) ?_
      replace hrun := hb_some hrun
      obtain ⟨p516, rfl, hrun⟩ := hrun
      replace hrun := hb_some hrun
      obtain ⟨h516, g516, hrun⟩ := hrun
      refine h_iast S hK (kd := 0) rfl hw hS g516 d_MacroExpandModel_defines_516 (fun H locs hw hS => ?_)
      refine lv_iconst (v := (0 : Int32)) hx hb d_MacroExpandModel_defines_517 (by decide) ?_
      refine lv_istore (lv' := [(8, .int (0 : Int32)), (7, .int v503), (0, .ref a0), (2, .int x2), (3, .int x3), (4, .int x4)]) hx hb d_MacroExpandModel_defines_518 hl (by decide) rfl (fun ls hl => ?_)
      replace hrun := hbW_some hrun
      obtain ⟨b520, h520l, g520, hrun⟩ := hrun
      refine l_520 x3 x4 v503 n (0 : Int32) h516 _ _ _ _ _ g520 hw hS (lv_sub hl [2, 4, 5, 1, 0] rfl) ?_
      · rintro  eq9 H locs ls hw hS hl
        obtain rfl := eq9.symm
        try dsimp only at hrun
        refine lv_iconst (v := (0 : Int32)) hx hb d_MacroExpandModel_defines_554 (by decide) ?_
        refine lv_istore (lv' := [(8, .int (0 : Int32)), (0, .ref a0), (3, .int x3), (7, .int v503)]) hx hb d_MacroExpandModel_defines_555 hl (by decide) rfl (fun ls hl => ?_)
        replace hrun := hbW_some hrun
        obtain ⟨b557, h557l, g557, hrun⟩ := hrun
        refine l_557 x3 v503 n (0 : Int32) h520l _ _ _ _ _ g557 hw hS (lv_sub hl [1, 2, 3, 0] rfl) ?_
        · rintro  eq9 H locs ls hw hS hl
          obtain rfl := eq9.symm
          try dsimp only at hrun
          refine lv_aload_n hx hb d_MacroExpandModel_defines_644 rfl (lv_at hl 0 rfl) ?_
          refine lv_iconst (v := (0 : Int32)) hx hb d_MacroExpandModel_defines_645 (by decide) ?_
          replace hrun := hb_some hrun
          obtain ⟨h646, g646, hrun⟩ := hrun
          refine h_put S (fun w q => hT w (i_MacroExpandModel w q)) t_MacroExpandModel t_MacroExpandModel_ok n_MacroExpandModel hK (ci := 1) rfl 22 (by decide) (hT _ fl_MacroExpandModel_142) rfl rfl rfl hw hS g646 d_MacroExpandModel_defines_646 (fun H locs hw hS => ?_)
          refine lv_aload_n hx hb d_MacroExpandModel_defines_649 rfl (lv_at hl 0 rfl) ?_
          refine lv_iconst (v := (0 : Int32)) hx hb d_MacroExpandModel_defines_650 (by decide) ?_
          replace hrun := hb_some hrun
          obtain ⟨h651, g651, hrun⟩ := hrun
          refine h_put S (fun w q => hT w (i_MacroExpandModel w q)) t_MacroExpandModel t_MacroExpandModel_ok n_MacroExpandModel hK (ci := 1) rfl 32 (by decide) (hT _ fl_MacroExpandModel_201) rfl rfl rfl hw hS g651 d_MacroExpandModel_defines_651 (fun H locs hw hS => ?_)
          refine lv_aload_n hx hb d_MacroExpandModel_defines_654 rfl (lv_at hl 0 rfl) ?_
          replace hrun := hb_some hrun
          obtain ⟨v655, g655, hrun⟩ := hrun
          refine h_getI S (fun w q => hT w (i_MacroExpandModel w q)) hK (ci := 1) rfl 33 (by decide) (hT _ fl_MacroExpandModel_204) hw g655 d_MacroExpandModel_defines_655 ?_
          refine lv_if_lt (tgt := 698) hx hb d_MacroExpandModel_defines_658 (by decide) (fun c658 => ?_) (fun c658 => ?_)
          · rw [if_pos c658] at hrun
            cases hrun
            exact W.vret hx hb hr (fun t ht hW9 => ⟨⟨(), rfl, trivial, by show hW D dA classes b0 _ _ t.heap; rw [ht]; exact hw⟩, hS.F ht⟩) hS.2.2 d_MacroExpandModel_defines_698
          · rw [if_neg c658] at hrun
            refine lv_aload_n hx hb d_MacroExpandModel_defines_661 rfl (lv_at hl 0 rfl) ?_
            replace hrun := hb_some hrun
            obtain ⟨v662, g662, hrun⟩ := hrun
            refine h_getI S (fun w q => hT w (i_MacroExpandModel w q)) hK (ci := 1) rfl 3 (by decide) (hT _ fl_MacroExpandModel_107) hw g662 d_MacroExpandModel_defines_662 ?_
            refine lv_sipush (v := (3000 : Int32)) hx hb d_MacroExpandModel_defines_665 (by decide) ?_
            refine lv_icmp_ne (tgt := 678) hx hb d_MacroExpandModel_defines_668 (by decide) (fun c668 => ?_) (fun c668 => ?_)
            · rw [if_neg c668] at hrun
              refine lv_aload_n hx hb d_MacroExpandModel_defines_678 rfl (lv_at hl 0 rfl) ?_
              refine lv_iconst (v := (0 : Int32)) hx hb d_MacroExpandModel_defines_679 (by decide) ?_
              refine lv_iconst (v := (1 : Int32)) hx hb d_MacroExpandModel_defines_680 (by decide) ?_
              replace hrun := hb_some hrun
              obtain ⟨c681, k681, hrun⟩ := hrun
              replace hrun := hbW_some hrun
              obtain ⟨_u681, h681, g681, hrun⟩ := hrun
              refine h_cv (h_runV S (As := [.int (0 : Int32), .int (1 : Int32)]) (rest := []) (c_MacroExpandModel_spread l D dA b0 n a0 (0 : Int32) (1 : Int32) nx g681) (cwV 2 S.2.2.2.2 (h_good _ (h_in4 ml_MacroExpandModel_163 im_MacroExpandModel_spread se_MacroExpandModel_spread it_MacroExpandModel) cd_MacroExpandModel_spread) rfl rfl rfl (by decide +kernel) ⟨Nat.le_of_ble_eq_true rfl, Nat.le_of_ble_eq_true rfl⟩) hK hN hw (ci := 1) rfl k681 rfl hl.1 (lv_room (Nat.le_of_ble_eq_true rfl)) d_MacroExpandModel_defines_681 ⟨Nat.le_refl _, Nat.le_refl _⟩) hS (fun H locs hw hS => ?_)
              refine lv_aload_n hx hb d_MacroExpandModel_defines_684 rfl (lv_at hl 0 rfl) ?_
              refine lv_iconst (v := (0 : Int32)) hx hb d_MacroExpandModel_defines_685 (by decide) ?_
              refine lv_aload_n hx hb d_MacroExpandModel_defines_686 rfl (lv_at hl 0 rfl) ?_
              replace hrun := hb_some hrun
              obtain ⟨v687, g687, hrun⟩ := hrun
              refine h_getI S (fun w q => hT w (i_MacroExpandModel w q)) hK (ci := 1) rfl 33 (by decide) (hT _ fl_MacroExpandModel_204) hw g687 d_MacroExpandModel_defines_687 ?_
              replace hrun := hb_some hrun
              obtain ⟨c690, k690, hrun⟩ := hrun
              replace hrun := hbW_some hrun
              obtain ⟨_u690, h690, g690, hrun⟩ := hrun
              refine h_cv (h_runV S (As := [.int (0 : Int32), .int v687]) (rest := []) (c_MacroExpandModel_set l D dA b0 a0 (0 : Int32) v687 nx g690) (cwV 2 S.2.2.2.2 (h_good _ (h_in4 ml_MacroExpandModel_166 im_MacroExpandModel_set se_MacroExpandModel_set it_MacroExpandModel) cd_MacroExpandModel_set) rfl rfl rfl (by decide +kernel) ⟨Nat.le_of_ble_eq_true rfl, Nat.le_of_ble_eq_true rfl⟩) hK hN hw (ci := 1) rfl k690 rfl hl.1 (lv_room (Nat.le_of_ble_eq_true rfl)) d_MacroExpandModel_defines_690 ⟨Nat.le_refl _, Nat.le_refl _⟩) hS (fun H locs hw hS => ?_)
              refine lv_aload_n hx hb d_MacroExpandModel_defines_693 rfl (lv_at hl 0 rfl) ?_
              refine lv_iconst (v := (-1 : Int32)) hx hb d_MacroExpandModel_defines_694 (by decide) ?_
              replace hrun := hb_some hrun
              obtain ⟨h695, g695, hrun⟩ := hrun
              refine h_put S (fun w q => hT w (i_MacroExpandModel w q)) t_MacroExpandModel t_MacroExpandModel_ok n_MacroExpandModel hK (ci := 1) rfl 33 (by decide) (hT _ fl_MacroExpandModel_204) rfl rfl rfl hw hS g695 d_MacroExpandModel_defines_695 (fun H locs hw hS => ?_)
              cases hrun
              exact W.vret hx hb hr (fun t ht hW9 => ⟨⟨(), rfl, trivial, by show hW D dA classes b0 _ _ t.heap; rw [ht]; exact hw⟩, hS.F ht⟩) hS.2.2 d_MacroExpandModel_defines_698
            · rw [if_pos c668] at hrun
              refine lv_aload_n hx hb d_MacroExpandModel_defines_671 rfl (lv_at hl 0 rfl) ?_
              refine lv_bipush (v := (8 : Int32)) hx hb d_MacroExpandModel_defines_672 (by decide) ?_
              replace hrun := hb_some hrun
              obtain ⟨c674, k674, hrun⟩ := hrun
              replace hrun := hbW_some hrun
              obtain ⟨_u674, h674, g674, hrun⟩ := hrun
              refine h_cv (h_runV S (As := [.int (8 : Int32)]) (rest := []) (c_MacroExpandModel_mark l D dA b0 a0 (8 : Int32) nx g674) (cwV 1 S.2.2.2.2 (h_good _ (h_in4 ml_MacroExpandModel_123 im_MacroExpandModel_mark se_MacroExpandModel_mark it_MacroExpandModel) cd_MacroExpandModel_mark) rfl rfl rfl (by decide +kernel) ⟨Nat.le_of_ble_eq_true rfl, Nat.le_of_ble_eq_true rfl⟩) hK hN hw (ci := 1) rfl k674 rfl hl.1 (lv_room (Nat.le_of_ble_eq_true rfl)) d_MacroExpandModel_defines_674 ⟨Nat.le_refl _, Nat.le_refl _⟩) hS (fun H locs hw hS => ?_)
              cases hrun
              exact W.vret hx hb hr (fun t ht hW9 => ⟨⟨(), rfl, trivial, by show hW D dA classes b0 _ _ t.heap; rw [ht]; exact hw⟩, hS.F ht⟩) hS.2.2 d_MacroExpandModel_defines_677
    · rw [if_neg c492] at hrun
      cases hrun
      exact W.vret hx hb hr (fun t ht hW9 => ⟨⟨(), rfl, trivial, by show hW D dA classes b0 _ _ t.heap; rw [ht]; exact hw⟩, hS.F ht⟩) hS.2.2 d_MacroExpandModel_defines_495
  have l_278 : ∀ (x1 : Int32) (x2 : Int32) (x3 : Int32) (n9 : Nat) (x9 : Int32 × Int32) (h : hH) (b9 : (Int32)) (h9 : hH) (H : Heap) (locs : List Loc) (ls : Array Slot), hloopW (f_MacroExpandModel_defines_b278 n a0 x1 x2 x3) n9 x9 h = some (b9, h9) → hW D dA classes b0 nx h H → va_S (hA b0) s.heap H locs → lv_has ls 10 (match x9 with | (x4, x6) => [(0, .ref a0), (1, .int x1), (2, .int x2), (3, .int x3), (4, .int x4), (6, .int x6)]) → (∀ (z4 : Int32), b9 = z4 → ∀ (H : Heap) (locs : List Loc) (ls : Array Slot), hW D dA classes b0 nx h9 H → va_S (hA b0) s.heap H locs → lv_has ls 10 [(0, .ref a0), (2, .int x2), (3, .int x3), (4, .int z4)] → W p l e (headSpec w_MacroExpandModel_defines ({ frames := 9, cells := 0, slots := 0, locals := 219 } : Room)).room s m ([.ref a0, .int i1] : List Value).toArray below meth c H locs 0 0 (MQ below (va_Qv (fun (_ : Unit) => True) (fun (_ : Unit) t => hW D dA classes b0 nx h' t.heap) (hA b0)) ([.ref a0, .int i1] : List Value).toArray s 0 0 (hA b0)) (F0 m 466 ls [])) → W p l e (headSpec w_MacroExpandModel_defines ({ frames := 9, cells := 0, slots := 0, locals := 219 } : Room)).room s m ([.ref a0, .int i1] : List Value).toArray below meth c H locs 0 0 (MQ below (va_Qv (fun (_ : Unit) => True) (fun (_ : Unit) t => hW D dA classes b0 nx h' t.heap) (hA b0)) ([.ref a0, .int i1] : List Value).toArray s 0 0 (hA b0)) (F0 m 278 ls []) := by
    intro x1 x2 x3 n9
    induction n9 with
    | zero =>
      intro x9 h b9 h9 H locs ls hrun
      cases hrun
    | succ n9 ih =>
      rintro ⟨x4, x6⟩ h b9 h9 H locs ls hrun hw hS hl k0
      have hl : lv_has ls 10 [(0, .ref a0), (1, .int x1), (2, .int x2), (3, .int x3), (4, .int x4), (6, .int x6)] := hl
      unfold hloopW at hrun
      obtain ⟨q9, h9b, hbody, hrun9⟩ := hbW_some hrun
      have K0 : (∀ (z4 : Int32) (z6 : Int32), q9 = .inl (z4, z6) → ∀ (H : Heap) (locs : List Loc) (ls : Array Slot), hW D dA classes b0 nx h9b H → va_S (hA b0) s.heap H locs → lv_has ls 10 [(0, .ref a0), (1, .int x1), (2, .int x2), (3, .int x3), (4, .int z4), (6, .int z6)] → W p l e (headSpec w_MacroExpandModel_defines ({ frames := 9, cells := 0, slots := 0, locals := 219 } : Room)).room s m ([.ref a0, .int i1] : List Value).toArray below meth c H locs 0 0 (MQ below (va_Qv (fun (_ : Unit) => True) (fun (_ : Unit) t => hW D dA classes b0 nx h' t.heap) (hA b0)) ([.ref a0, .int i1] : List Value).toArray s 0 0 (hA b0)) (F0 m 278 ls [])) := by
        intro z4 z6 eq9 H locs ls hw hS hl
        subst eq9
        exact ih (z4, z6) h9b b9 h9 H locs ls hrun9 hw hS hl k0
      have K1 : (∀ (z4 : Int32), q9 = .inr z4 → ∀ (H : Heap) (locs : List Loc) (ls : Array Slot), hW D dA classes b0 nx h9b H → va_S (hA b0) s.heap H locs → lv_has ls 10 [(0, .ref a0), (2, .int x2), (3, .int x3), (4, .int z4)] → W p l e (headSpec w_MacroExpandModel_defines ({ frames := 9, cells := 0, slots := 0, locals := 219 } : Room)).room s m ([.ref a0, .int i1] : List Value).toArray below meth c H locs 0 0 (MQ below (va_Qv (fun (_ : Unit) => True) (fun (_ : Unit) t => hW D dA classes b0 nx h' t.heap) (hA b0)) ([.ref a0, .int i1] : List Value).toArray s 0 0 (hA b0)) (F0 m 466 ls [])) := by
        intro z4 eq9 H locs ls hw hS hl
        subst eq9
        cases hrun9
        exact k0 _ rfl H locs ls hw hS hl
      clear hrun hrun9 ih k0
      have hrun := hbody
      clear hbody
      have j_463 : ∀  (x1 : Int32) (x2 : Int32) (x3 : Int32) (x4 : Int32) (x6 : Int32) (q9 : (Int32 × Int32) ⊕ ((Int32))) (h9 : hH) (h : hH) (H : Heap) (locs : List Loc) (ls : Array Slot), f_MacroExpandModel_defines_j463 n a0 x1 x2 x3 x4 x6 h = some (q9, h9) → hW D dA classes b0 nx h H → va_S (hA b0) s.heap H locs → lv_has ls 10 [(0, .ref a0), (1, .int x1), (2, .int x2), (3, .int x3), (4, .int x4), (6, .int x6)] → (∀ (z4 : Int32) (z6 : Int32), q9 = .inl (z4, z6) → ∀ (H : Heap) (locs : List Loc) (ls : Array Slot), hW D dA classes b0 nx h9 H → va_S (hA b0) s.heap H locs → lv_has ls 10 [(0, .ref a0), (1, .int x1), (2, .int x2), (3, .int x3), (4, .int z4), (6, .int z6)] → W p l e (headSpec w_MacroExpandModel_defines ({ frames := 9, cells := 0, slots := 0, locals := 219 } : Room)).room s m ([.ref a0, .int i1] : List Value).toArray below meth c H locs 0 0 (MQ below (va_Qv (fun (_ : Unit) => True) (fun (_ : Unit) t => hW D dA classes b0 nx h' t.heap) (hA b0)) ([.ref a0, .int i1] : List Value).toArray s 0 0 (hA b0)) (F0 m 278 ls [])) → (∀ (z4 : Int32), q9 = .inr z4 → ∀ (H : Heap) (locs : List Loc) (ls : Array Slot), hW D dA classes b0 nx h9 H → va_S (hA b0) s.heap H locs → lv_has ls 10 [(0, .ref a0), (2, .int x2), (3, .int x3), (4, .int z4)] → W p l e (headSpec w_MacroExpandModel_defines ({ frames := 9, cells := 0, slots := 0, locals := 219 } : Room)).room s m ([.ref a0, .int i1] : List Value).toArray below meth c H locs 0 0 (MQ below (va_Qv (fun (_ : Unit) => True) (fun (_ : Unit) t => hW D dA classes b0 nx h' t.heap) (hA b0)) ([.ref a0, .int i1] : List Value).toArray s 0 0 (hA b0)) (F0 m 466 ls [])) → W p l e (headSpec w_MacroExpandModel_defines ({ frames := 9, cells := 0, slots := 0, locals := 219 } : Room)).room s m ([.ref a0, .int i1] : List Value).toArray below meth c H locs 0 0 (MQ below (va_Qv (fun (_ : Unit) => True) (fun (_ : Unit) t => hW D dA classes b0 nx h' t.heap) (hA b0)) ([.ref a0, .int i1] : List Value).toArray s 0 0 (hA b0)) (F0 m 463 ls []) := by
        intro x1 x2 x3 x4 x6 q9 h9 h H locs ls hrun hw hS hl k0 k1
        unfold f_MacroExpandModel_defines_j463 at hrun
        refine lv_goto (tgt := 278) hx hb d_MacroExpandModel_defines_463 (by decide) ?_
        cases hrun
        exact k0 x4 x6 rfl H locs ls hw hS (lv_sub hl [0, 1, 2, 3, 4, 5] rfl)
      have j_450 : ∀  (x1 : Int32) (x2 : Int32) (x3 : Int32) (x4 : Int32) (x6 : Int32) (q9 : (Int32 × Int32) ⊕ ((Int32))) (h9 : hH) (h : hH) (H : Heap) (locs : List Loc) (ls : Array Slot), f_MacroExpandModel_defines_j450 n a0 x1 x2 x3 x4 x6 h = some (q9, h9) → hW D dA classes b0 nx h H → va_S (hA b0) s.heap H locs → lv_has ls 10 [(0, .ref a0), (1, .int x1), (2, .int x2), (3, .int x3), (4, .int x4), (6, .int x6)] → (∀ (z4 : Int32) (z6 : Int32), q9 = .inl (z4, z6) → ∀ (H : Heap) (locs : List Loc) (ls : Array Slot), hW D dA classes b0 nx h9 H → va_S (hA b0) s.heap H locs → lv_has ls 10 [(0, .ref a0), (1, .int x1), (2, .int x2), (3, .int x3), (4, .int z4), (6, .int z6)] → W p l e (headSpec w_MacroExpandModel_defines ({ frames := 9, cells := 0, slots := 0, locals := 219 } : Room)).room s m ([.ref a0, .int i1] : List Value).toArray below meth c H locs 0 0 (MQ below (va_Qv (fun (_ : Unit) => True) (fun (_ : Unit) t => hW D dA classes b0 nx h' t.heap) (hA b0)) ([.ref a0, .int i1] : List Value).toArray s 0 0 (hA b0)) (F0 m 278 ls [])) → (∀ (z4 : Int32), q9 = .inr z4 → ∀ (H : Heap) (locs : List Loc) (ls : Array Slot), hW D dA classes b0 nx h9 H → va_S (hA b0) s.heap H locs → lv_has ls 10 [(0, .ref a0), (2, .int x2), (3, .int x3), (4, .int z4)] → W p l e (headSpec w_MacroExpandModel_defines ({ frames := 9, cells := 0, slots := 0, locals := 219 } : Room)).room s m ([.ref a0, .int i1] : List Value).toArray below meth c H locs 0 0 (MQ below (va_Qv (fun (_ : Unit) => True) (fun (_ : Unit) t => hW D dA classes b0 nx h' t.heap) (hA b0)) ([.ref a0, .int i1] : List Value).toArray s 0 0 (hA b0)) (F0 m 466 ls [])) → W p l e (headSpec w_MacroExpandModel_defines ({ frames := 9, cells := 0, slots := 0, locals := 219 } : Room)).room s m ([.ref a0, .int i1] : List Value).toArray below meth c H locs 0 0 (MQ below (va_Qv (fun (_ : Unit) => True) (fun (_ : Unit) t => hW D dA classes b0 nx h' t.heap) (hA b0)) ([.ref a0, .int i1] : List Value).toArray s 0 0 (hA b0)) (F0 m 450 ls []) := by
        intro x1 x2 x3 x4 x6 q9 h9 h H locs ls hrun hw hS hl k0 k1
        unfold f_MacroExpandModel_defines_j450 at hrun
        refine lv_aload_n hx hb d_MacroExpandModel_defines_450 rfl (lv_at hl 0 rfl) ?_
        replace hrun := hb_some hrun
        obtain ⟨v451, g451, hrun⟩ := hrun
        refine h_getI S (fun w q => hT w (i_MacroExpandModel w q)) hK (ci := 1) rfl 21 (by decide) (hT _ fl_MacroExpandModel_113) hw g451 d_MacroExpandModel_defines_451 ?_
        refine lv_if_ne (tgt := 463) hx hb d_MacroExpandModel_defines_454 (by decide) (fun c454 => ?_) (fun c454 => ?_)
        · rw [if_neg c454] at hrun
          exact j_463 x1 x2 x3 x4 x6 _ _ h _ _ _ hrun hw hS (lv_sub hl [0, 1, 2, 3, 4, 5] rfl) k0 k1
        · rw [if_pos c454] at hrun
          refine lv_aload_n hx hb d_MacroExpandModel_defines_457 rfl (lv_at hl 0 rfl) ?_
          refine lv_iconst (v := (0 : Int32)) hx hb d_MacroExpandModel_defines_458 (by decide) ?_
          refine lv_iconst (v := (1 : Int32)) hx hb d_MacroExpandModel_defines_459 (by decide) ?_
          replace hrun := hb_some hrun
          obtain ⟨c460, k460, hrun⟩ := hrun
          replace hrun := hbW_some hrun
          obtain ⟨_u460, h460, g460, hrun⟩ := hrun
          refine h_cv (h_runV S (As := [.int (0 : Int32), .int (1 : Int32)]) (rest := []) (c_MacroExpandModel_take l D dA b0 n a0 (0 : Int32) (1 : Int32) nx g460) (cwV 2 S.2.2.2.2 (h_good _ (h_in4 ml_MacroExpandModel_160 im_MacroExpandModel_take se_MacroExpandModel_take it_MacroExpandModel) cd_MacroExpandModel_take) rfl rfl rfl (by decide +kernel) ⟨Nat.le_of_ble_eq_true rfl, Nat.le_of_ble_eq_true rfl⟩) hK hN hw (ci := 1) rfl k460 rfl hl.1 (lv_room (Nat.le_of_ble_eq_true rfl)) d_MacroExpandModel_defines_460 ⟨Nat.le_refl _, Nat.le_refl _⟩) hS (fun H locs hw hS => ?_)
          exact j_463 x1 x2 x3 x4 x6 _ _ h460 _ _ _ hrun hw hS (lv_sub hl [0, 1, 2, 3, 4, 5] rfl) k0 k1
      have j_433 : ∀  (x1 : Int32) (x2 : Int32) (x3 : Int32) (x4 : Int32) (x6 : Int32) (x8 : Int32) (q9 : (Int32 × Int32) ⊕ ((Int32))) (h9 : hH) (h : hH) (H : Heap) (locs : List Loc) (ls : Array Slot), f_MacroExpandModel_defines_j433 n a0 x1 x2 x3 x4 x6 x8 h = some (q9, h9) → hW D dA classes b0 nx h H → va_S (hA b0) s.heap H locs → lv_has ls 10 [(0, .ref a0), (1, .int x1), (2, .int x2), (3, .int x3), (4, .int x4), (6, .int x6), (8, .int x8)] → (∀ (z4 : Int32) (z6 : Int32), q9 = .inl (z4, z6) → ∀ (H : Heap) (locs : List Loc) (ls : Array Slot), hW D dA classes b0 nx h9 H → va_S (hA b0) s.heap H locs → lv_has ls 10 [(0, .ref a0), (1, .int x1), (2, .int x2), (3, .int x3), (4, .int z4), (6, .int z6)] → W p l e (headSpec w_MacroExpandModel_defines ({ frames := 9, cells := 0, slots := 0, locals := 219 } : Room)).room s m ([.ref a0, .int i1] : List Value).toArray below meth c H locs 0 0 (MQ below (va_Qv (fun (_ : Unit) => True) (fun (_ : Unit) t => hW D dA classes b0 nx h' t.heap) (hA b0)) ([.ref a0, .int i1] : List Value).toArray s 0 0 (hA b0)) (F0 m 278 ls [])) → (∀ (z4 : Int32), q9 = .inr z4 → ∀ (H : Heap) (locs : List Loc) (ls : Array Slot), hW D dA classes b0 nx h9 H → va_S (hA b0) s.heap H locs → lv_has ls 10 [(0, .ref a0), (2, .int x2), (3, .int x3), (4, .int z4)] → W p l e (headSpec w_MacroExpandModel_defines ({ frames := 9, cells := 0, slots := 0, locals := 219 } : Room)).room s m ([.ref a0, .int i1] : List Value).toArray below meth c H locs 0 0 (MQ below (va_Qv (fun (_ : Unit) => True) (fun (_ : Unit) t => hW D dA classes b0 nx h' t.heap) (hA b0)) ([.ref a0, .int i1] : List Value).toArray s 0 0 (hA b0)) (F0 m 466 ls [])) → W p l e (headSpec w_MacroExpandModel_defines ({ frames := 9, cells := 0, slots := 0, locals := 219 } : Room)).room s m ([.ref a0, .int i1] : List Value).toArray below meth c H locs 0 0 (MQ below (va_Qv (fun (_ : Unit) => True) (fun (_ : Unit) t => hW D dA classes b0 nx h' t.heap) (hA b0)) ([.ref a0, .int i1] : List Value).toArray s 0 0 (hA b0)) (F0 m 433 ls []) := by
        intro x1 x2 x3 x4 x6 x8 q9 h9 h H locs ls hrun hw hS hl k0 k1
        unfold f_MacroExpandModel_defines_j433 at hrun
        refine lv_iload hx hb d_MacroExpandModel_defines_433 (lv_at hl 5 rfl) ?_
        refine lv_if_le (tgt := 450) hx hb d_MacroExpandModel_defines_435 (by decide) (fun c435 => ?_) (fun c435 => ?_)
        · rw [if_pos c435] at hrun
          exact j_450 x1 x2 x3 x4 x6 _ _ h _ _ _ hrun hw hS (lv_sub hl [0, 1, 2, 3, 4, 5] rfl) k0 k1
        · rw [if_neg c435] at hrun
          refine lv_aload_n hx hb d_MacroExpandModel_defines_438 rfl (lv_at hl 0 rfl) ?_
          replace hrun := hb_some hrun
          obtain ⟨v439, g439, hrun⟩ := hrun
          refine h_getR S (fun w q => hT w (i_MacroExpandModel w q)) hK (ci := 1) rfl 36 (by decide) (hT _ fl_MacroExpandModel_74) hw g439 d_MacroExpandModel_defines_439 ?_
          refine lv_iload hx hb d_MacroExpandModel_defines_442 (lv_at hl 4 rfl) ?_
          refine lv_iload hx hb d_MacroExpandModel_defines_444 (lv_at hl 6 rfl) ?_
          replace hrun := hb_some hrun
          obtain ⟨p446, rfl, hrun⟩ := hrun
          replace hrun := hb_some hrun
          obtain ⟨h446, g446, hrun⟩ := hrun
          refine h_iast S hK (kd := 0) rfl hw hS g446 d_MacroExpandModel_defines_446 (fun H locs hw hS => ?_)
          refine lv_iinc (v := (x4 + (1 : Int32))) (lv' := [(4, .int (x4 + (1 : Int32))), (0, .ref a0), (1, .int x1), (2, .int x2), (3, .int x3), (6, .int x6), (8, .int x8)]) hx hb d_MacroExpandModel_defines_447 hl (k := 4) rfl rfl (by decide) rfl (fun ls hl => ?_)
          exact j_450 x1 x2 x3 (x4 + (1 : Int32)) x6 _ _ h446 _ _ _ hrun hw hS (lv_sub hl [1, 2, 3, 4, 0, 5] rfl) k0 k1
      have j_411 : ∀  (x1 : Int32) (x2 : Int32) (x3 : Int32) (x4 : Int32) (x6 : Int32) (x8 : Int32) (q9 : (Int32 × Int32) ⊕ ((Int32))) (h9 : hH) (h : hH) (H : Heap) (locs : List Loc) (ls : Array Slot), f_MacroExpandModel_defines_j411 n a0 x1 x2 x3 x4 x6 x8 h = some (q9, h9) → hW D dA classes b0 nx h H → va_S (hA b0) s.heap H locs → lv_has ls 10 [(0, .ref a0), (1, .int x1), (2, .int x2), (3, .int x3), (4, .int x4), (6, .int x6), (8, .int x8)] → (∀ (z4 : Int32) (z6 : Int32), q9 = .inl (z4, z6) → ∀ (H : Heap) (locs : List Loc) (ls : Array Slot), hW D dA classes b0 nx h9 H → va_S (hA b0) s.heap H locs → lv_has ls 10 [(0, .ref a0), (1, .int x1), (2, .int x2), (3, .int x3), (4, .int z4), (6, .int z6)] → W p l e (headSpec w_MacroExpandModel_defines ({ frames := 9, cells := 0, slots := 0, locals := 219 } : Room)).room s m ([.ref a0, .int i1] : List Value).toArray below meth c H locs 0 0 (MQ below (va_Qv (fun (_ : Unit) => True) (fun (_ : Unit) t => hW D dA classes b0 nx h' t.heap) (hA b0)) ([.ref a0, .int i1] : List Value).toArray s 0 0 (hA b0)) (F0 m 278 ls [])) → (∀ (z4 : Int32), q9 = .inr z4 → ∀ (H : Heap) (locs : List Loc) (ls : Array Slot), hW D dA classes b0 nx h9 H → va_S (hA b0) s.heap H locs → lv_has ls 10 [(0, .ref a0), (2, .int x2), (3, .int x3), (4, .int z4)] → W p l e (headSpec w_MacroExpandModel_defines ({ frames := 9, cells := 0, slots := 0, locals := 219 } : Room)).room s m ([.ref a0, .int i1] : List Value).toArray below meth c H locs 0 0 (MQ below (va_Qv (fun (_ : Unit) => True) (fun (_ : Unit) t => hW D dA classes b0 nx h' t.heap) (hA b0)) ([.ref a0, .int i1] : List Value).toArray s 0 0 (hA b0)) (F0 m 466 ls [])) → W p l e (headSpec w_MacroExpandModel_defines ({ frames := 9, cells := 0, slots := 0, locals := 219 } : Room)).room s m ([.ref a0, .int i1] : List Value).toArray below meth c H locs 0 0 (MQ below (va_Qv (fun (_ : Unit) => True) (fun (_ : Unit) t => hW D dA classes b0 nx h' t.heap) (hA b0)) ([.ref a0, .int i1] : List Value).toArray s 0 0 (hA b0)) (F0 m 411 ls []) := by
        intro x1 x2 x3 x4 x6 x8 q9 h9 h H locs ls hrun hw hS hl k0 k1
        unfold f_MacroExpandModel_defines_j411 at hrun
        refine lv_iload hx hb d_MacroExpandModel_defines_411 (lv_at hl 5 rfl) ?_
        refine lv_if_le (tgt := 433) hx hb d_MacroExpandModel_defines_413 (by decide) (fun c413 => ?_) (fun c413 => ?_)
        · rw [if_pos c413] at hrun
          exact j_433 x1 x2 x3 x4 x6 x8 _ _ h _ _ _ hrun hw hS (lv_sub hl [0, 1, 2, 3, 4, 5, 6] rfl) k0 k1
        · rw [if_neg c413] at hrun
          refine lv_iload hx hb d_MacroExpandModel_defines_416 (lv_at hl 4 rfl) ?_
          refine lv_sipush (v := (200 : Int32)) hx hb d_MacroExpandModel_defines_418 (by decide) ?_
          refine lv_icmp_ne (tgt := 433) hx hb d_MacroExpandModel_defines_421 (by decide) (fun c421 => ?_) (fun c421 => ?_)
          · rw [if_neg c421] at hrun
            exact j_433 x1 x2 x3 x4 x6 x8 _ _ h _ _ _ hrun hw hS (lv_sub hl [0, 1, 2, 3, 4, 5, 6] rfl) k0 k1
          · rw [if_pos c421] at hrun
            refine lv_aload_n hx hb d_MacroExpandModel_defines_424 rfl (lv_at hl 0 rfl) ?_
            refine lv_bipush (v := (8 : Int32)) hx hb d_MacroExpandModel_defines_425 (by decide) ?_
            replace hrun := hb_some hrun
            obtain ⟨c427, k427, hrun⟩ := hrun
            replace hrun := hbW_some hrun
            obtain ⟨_u427, h427, g427, hrun⟩ := hrun
            refine h_cv (h_runV S (As := [.int (8 : Int32)]) (rest := []) (c_MacroExpandModel_mark l D dA b0 a0 (8 : Int32) nx g427) (cwV 1 S.2.2.2.2 (h_good _ (h_in4 ml_MacroExpandModel_123 im_MacroExpandModel_mark se_MacroExpandModel_mark it_MacroExpandModel) cd_MacroExpandModel_mark) rfl rfl rfl (by decide +kernel) ⟨Nat.le_of_ble_eq_true rfl, Nat.le_of_ble_eq_true rfl⟩) hK hN hw (ci := 1) rfl k427 rfl hl.1 (lv_room (Nat.le_of_ble_eq_true rfl)) d_MacroExpandModel_defines_427 ⟨Nat.le_refl _, Nat.le_refl _⟩) hS (fun H locs hw hS => ?_)
            refine lv_goto (tgt := 450) hx hb d_MacroExpandModel_defines_430 (by decide) ?_
            exact j_450 x1 x2 x3 x4 x6 _ _ h427 _ _ _ hrun hw hS (lv_sub hl [0, 1, 2, 3, 4, 5] rfl) k0 k1
      have j_375 : ∀  (x1 : Int32) (x2 : Int32) (x3 : Int32) (x4 : Int32) (x8 : Int32) (y0 : Int32) (y1 : Int32) (q9 : (Int32 × Int32) ⊕ ((Int32))) (h9 : hH) (h : hH) (H : Heap) (locs : List Loc) (ls : Array Slot), f_MacroExpandModel_defines_j375 n a0 x1 x2 x3 x4 x8 y0 y1 h = some (q9, h9) → hW D dA classes b0 nx h H → va_S (hA b0) s.heap H locs → lv_has ls 10 [(0, .ref a0), (1, .int x1), (2, .int x2), (3, .int x3), (4, .int x4), (8, .int x8)] → (∀ (z4 : Int32) (z6 : Int32), q9 = .inl (z4, z6) → ∀ (H : Heap) (locs : List Loc) (ls : Array Slot), hW D dA classes b0 nx h9 H → va_S (hA b0) s.heap H locs → lv_has ls 10 [(0, .ref a0), (1, .int x1), (2, .int x2), (3, .int x3), (4, .int z4), (6, .int z6)] → W p l e (headSpec w_MacroExpandModel_defines ({ frames := 9, cells := 0, slots := 0, locals := 219 } : Room)).room s m ([.ref a0, .int i1] : List Value).toArray below meth c H locs 0 0 (MQ below (va_Qv (fun (_ : Unit) => True) (fun (_ : Unit) t => hW D dA classes b0 nx h' t.heap) (hA b0)) ([.ref a0, .int i1] : List Value).toArray s 0 0 (hA b0)) (F0 m 278 ls [])) → (∀ (z4 : Int32), q9 = .inr z4 → ∀ (H : Heap) (locs : List Loc) (ls : Array Slot), hW D dA classes b0 nx h9 H → va_S (hA b0) s.heap H locs → lv_has ls 10 [(0, .ref a0), (2, .int x2), (3, .int x3), (4, .int z4)] → W p l e (headSpec w_MacroExpandModel_defines ({ frames := 9, cells := 0, slots := 0, locals := 219 } : Room)).room s m ([.ref a0, .int i1] : List Value).toArray below meth c H locs 0 0 (MQ below (va_Qv (fun (_ : Unit) => True) (fun (_ : Unit) t => hW D dA classes b0 nx h' t.heap) (hA b0)) ([.ref a0, .int i1] : List Value).toArray s 0 0 (hA b0)) (F0 m 466 ls [])) → W p l e (headSpec w_MacroExpandModel_defines ({ frames := 9, cells := 0, slots := 0, locals := 219 } : Room)).room s m ([.ref a0, .int i1] : List Value).toArray below meth c H locs 0 0 (MQ below (va_Qv (fun (_ : Unit) => True) (fun (_ : Unit) t => hW D dA classes b0 nx h' t.heap) (hA b0)) ([.ref a0, .int i1] : List Value).toArray s 0 0 (hA b0)) (F0 m 375 ls [.int y1, .int y0]) := by
        intro x1 x2 x3 x4 x8 y0 y1 q9 h9 h H locs ls hrun hw hS hl k0 k1
        unfold f_MacroExpandModel_defines_j375 at hrun
        refine lv_iadd hx hb d_MacroExpandModel_defines_375 ?_
        refine lv_istore (lv' := [(6, .int (y0 + y1)), (0, .ref a0), (1, .int x1), (2, .int x2), (3, .int x3), (4, .int x4), (8, .int x8)]) hx hb d_MacroExpandModel_defines_376 hl (by decide) rfl (fun ls hl => ?_)
        refine lv_iload hx hb d_MacroExpandModel_defines_378 (lv_at hl 6 rfl) ?_
        refine lv_sipush (v := (311 : Int32)) hx hb d_MacroExpandModel_defines_380 (by decide) ?_
        refine lv_sipush (v := (319 : Int32)) hx hb d_MacroExpandModel_defines_383 (by decide) ?_
        replace hrun := hb_some hrun
        obtain ⟨v386, g386, hrun⟩ := hrun
        refine h_ci (h_runS S (As := [.int x8, .int (311 : Int32), .int (319 : Int32)]) (rest := []) (c_MacroExpandModel_in l D dA b0 x8 (311 : Int32) (319 : Int32) nx g386) (va_cwS 3 S.2.2.2.2 (h_good _ (h_in3 ml_MacroExpandModel_83 sm_MacroExpandModel_in it_MacroExpandModel) cd_MacroExpandModel_in) rfl rfl rfl (by decide +kernel) ⟨Nat.le_of_ble_eq_true rfl, Nat.le_of_ble_eq_true rfl⟩) hK hN hw rfl hl.1 (lv_room (Nat.le_of_ble_eq_true rfl)) d_MacroExpandModel_defines_386 ⟨Nat.le_refl _, Nat.le_refl _⟩) hS (fun H locs hw hS => ?_)
        refine lv_if_eq (tgt := 411) hx hb d_MacroExpandModel_defines_389 (by decide) (fun c389 => ?_) (fun c389 => ?_)
        · rw [if_pos c389] at hrun
          exact j_411 x1 x2 x3 x4 (y0 + y1) x8 _ _ h _ _ _ hrun hw hS (lv_sub hl [1, 2, 3, 4, 5, 0, 6] rfl) k0 k1
        · rw [if_neg c389] at hrun
          refine lv_iload hx hb d_MacroExpandModel_defines_392 (lv_at hl 6 rfl) ?_
          refine lv_sipush (v := (310 : Int32)) hx hb d_MacroExpandModel_defines_394 (by decide) ?_
          refine lv_isub hx hb d_MacroExpandModel_defines_397 ?_
          refine lv_iload_n hx hb d_MacroExpandModel_defines_398 rfl (lv_at hl 4 rfl) ?_
          refine lv_icmp_le (tgt := 411) hx hb d_MacroExpandModel_defines_399 (by decide) (fun c399 => ?_) (fun c399 => ?_)
          · rw [if_pos c399] at hrun
            exact j_411 x1 x2 x3 x4 (y0 + y1) x8 _ _ h _ _ _ hrun hw hS (lv_sub hl [1, 2, 3, 4, 5, 0, 6] rfl) k0 k1
          · rw [if_neg c399] at hrun
            refine lv_aload_n hx hb d_MacroExpandModel_defines_402 rfl (lv_at hl 1 rfl) ?_
            refine lv_bipush (v := (6 : Int32)) hx hb d_MacroExpandModel_defines_403 (by decide) ?_
            replace hrun := hb_some hrun
            obtain ⟨c405, k405, hrun⟩ := hrun
            replace hrun := hbW_some hrun
            obtain ⟨_u405, h405, g405, hrun⟩ := hrun
            refine h_cv (h_runV S (As := [.int (6 : Int32)]) (rest := []) (c_MacroExpandModel_mark l D dA b0 a0 (6 : Int32) nx g405) (cwV 1 S.2.2.2.2 (h_good _ (h_in4 ml_MacroExpandModel_123 im_MacroExpandModel_mark se_MacroExpandModel_mark it_MacroExpandModel) cd_MacroExpandModel_mark) rfl rfl rfl (by decide +kernel) ⟨Nat.le_of_ble_eq_true rfl, Nat.le_of_ble_eq_true rfl⟩) hK hN hw (ci := 1) rfl k405 rfl hl.1 (lv_room (Nat.le_of_ble_eq_true rfl)) d_MacroExpandModel_defines_405 ⟨Nat.le_refl _, Nat.le_refl _⟩) hS (fun H locs hw hS => ?_)
            refine lv_goto (tgt := 450) hx hb d_MacroExpandModel_defines_408 (by decide) ?_
            exact j_450 x1 x2 x3 x4 (y0 + y1) _ _ h405 _ _ _ hrun hw hS (lv_sub hl [1, 2, 3, 4, 5, 0] rfl) k0 k1
      have j_341 : ∀  (x1 : Int32) (x2 : Int32) (x3 : Int32) (x4 : Int32) (x6 : Int32) (q9 : (Int32 × Int32) ⊕ ((Int32))) (h9 : hH) (h : hH) (H : Heap) (locs : List Loc) (ls : Array Slot), f_MacroExpandModel_defines_j341 n a0 x1 x2 x3 x4 x6 h = some (q9, h9) → hW D dA classes b0 nx h H → va_S (hA b0) s.heap H locs → lv_has ls 10 [(0, .ref a0), (1, .int x1), (2, .int x2), (3, .int x3), (4, .int x4), (6, .int x6)] → (∀ (z4 : Int32) (z6 : Int32), q9 = .inl (z4, z6) → ∀ (H : Heap) (locs : List Loc) (ls : Array Slot), hW D dA classes b0 nx h9 H → va_S (hA b0) s.heap H locs → lv_has ls 10 [(0, .ref a0), (1, .int x1), (2, .int x2), (3, .int x3), (4, .int z4), (6, .int z6)] → W p l e (headSpec w_MacroExpandModel_defines ({ frames := 9, cells := 0, slots := 0, locals := 219 } : Room)).room s m ([.ref a0, .int i1] : List Value).toArray below meth c H locs 0 0 (MQ below (va_Qv (fun (_ : Unit) => True) (fun (_ : Unit) t => hW D dA classes b0 nx h' t.heap) (hA b0)) ([.ref a0, .int i1] : List Value).toArray s 0 0 (hA b0)) (F0 m 278 ls [])) → (∀ (z4 : Int32), q9 = .inr z4 → ∀ (H : Heap) (locs : List Loc) (ls : Array Slot), hW D dA classes b0 nx h9 H → va_S (hA b0) s.heap H locs → lv_has ls 10 [(0, .ref a0), (2, .int x2), (3, .int x3), (4, .int z4)] → W p l e (headSpec w_MacroExpandModel_defines ({ frames := 9, cells := 0, slots := 0, locals := 219 } : Room)).room s m ([.ref a0, .int i1] : List Value).toArray below meth c H locs 0 0 (MQ below (va_Qv (fun (_ : Unit) => True) (fun (_ : Unit) t => hW D dA classes b0 nx h' t.heap) (hA b0)) ([.ref a0, .int i1] : List Value).toArray s 0 0 (hA b0)) (F0 m 466 ls [])) → W p l e (headSpec w_MacroExpandModel_defines ({ frames := 9, cells := 0, slots := 0, locals := 219 } : Room)).room s m ([.ref a0, .int i1] : List Value).toArray below meth c H locs 0 0 (MQ below (va_Qv (fun (_ : Unit) => True) (fun (_ : Unit) t => hW D dA classes b0 nx h' t.heap) (hA b0)) ([.ref a0, .int i1] : List Value).toArray s 0 0 (hA b0)) (F0 m 341 ls []) := by
        intro x1 x2 x3 x4 x6 q9 h9 h H locs ls hrun hw hS hl k0 k1
        unfold f_MacroExpandModel_defines_j341 at hrun
        refine lv_aload_n hx hb d_MacroExpandModel_defines_341 rfl (lv_at hl 0 rfl) ?_
        refine lv_iconst (v := (0 : Int32)) hx hb d_MacroExpandModel_defines_342 (by decide) ?_
        replace hrun := hb_some hrun
        obtain ⟨c343, k343, hrun⟩ := hrun
        replace hrun := hb_some hrun
        obtain ⟨v343, g343, hrun⟩ := hrun
        refine h_ci (h_runV S (As := [.int (0 : Int32)]) (rest := []) (c_MacroExpandModel_get l D dA b0 a0 (0 : Int32) nx g343) (cwV 1 S.2.2.2.2 (h_good _ (h_in4 ml_MacroExpandModel_116 im_MacroExpandModel_get se_MacroExpandModel_get it_MacroExpandModel) cd_MacroExpandModel_get) rfl rfl rfl (by decide +kernel) ⟨Nat.le_of_ble_eq_true rfl, Nat.le_of_ble_eq_true rfl⟩) hK hN hw (ci := 1) rfl k343 rfl hl.1 (lv_room (Nat.le_of_ble_eq_true rfl)) d_MacroExpandModel_defines_343 ⟨Nat.le_refl _, Nat.le_refl _⟩) hS (fun H locs hw hS => ?_)
        refine lv_istore (lv' := [(8, .int v343), (0, .ref a0), (1, .int x1), (2, .int x2), (3, .int x3), (4, .int x4), (6, .int x6)]) hx hb d_MacroExpandModel_defines_346 hl (by decide) rfl (fun ls hl => ?_)
        refine lv_iload hx hb d_MacroExpandModel_defines_348 (lv_at hl 6 rfl) ?_
        refine lv_iload hx hb d_MacroExpandModel_defines_350 (lv_at hl 0 rfl) ?_
        refine lv_sipush (v := (257 : Int32)) hx hb d_MacroExpandModel_defines_352 (by decide) ?_
        refine lv_icmp_ne (tgt := 362) hx hb d_MacroExpandModel_defines_355 (by decide) (fun c355 => ?_) (fun c355 => ?_)
        · rw [if_neg c355] at hrun
          refine lv_iload hx hb d_MacroExpandModel_defines_362 (lv_at hl 0 rfl) ?_
          refine lv_sipush (v := (258 : Int32)) hx hb d_MacroExpandModel_defines_364 (by decide) ?_
          refine lv_icmp_ne (tgt := 374) hx hb d_MacroExpandModel_defines_367 (by decide) (fun c367 => ?_) (fun c367 => ?_)
          · rw [if_neg c367] at hrun
            refine lv_iconst (v := (0 : Int32)) hx hb d_MacroExpandModel_defines_374 (by decide) ?_
            exact j_375 x1 x2 x3 x4 v343 x6 (0 : Int32) _ _ h _ _ _ hrun hw hS (lv_sub hl [1, 2, 3, 4, 5, 0] rfl) k0 k1
          · rw [if_pos c367] at hrun
            refine lv_iconst (v := (-1 : Int32)) hx hb d_MacroExpandModel_defines_370 (by decide) ?_
            refine lv_goto (tgt := 375) hx hb d_MacroExpandModel_defines_371 (by decide) ?_
            exact j_375 x1 x2 x3 x4 v343 x6 (-1 : Int32) _ _ h _ _ _ hrun hw hS (lv_sub hl [1, 2, 3, 4, 5, 0] rfl) k0 k1
        · rw [if_pos c355] at hrun
          refine lv_iconst (v := (1 : Int32)) hx hb d_MacroExpandModel_defines_358 (by decide) ?_
          refine lv_goto (tgt := 375) hx hb d_MacroExpandModel_defines_359 (by decide) ?_
          exact j_375 x1 x2 x3 x4 v343 x6 (1 : Int32) _ _ h _ _ _ hrun hw hS (lv_sub hl [1, 2, 3, 4, 5, 0] rfl) k0 k1
      dsimp only [f_MacroExpandModel_defines_b278] at hrun
      refine lv_iload hx hb d_MacroExpandModel_defines_278 (lv_at hl 5 rfl) ?_
      refine lv_if_le (tgt := 466) hx hb d_MacroExpandModel_defines_280 (by decide) (fun c280 => ?_) (fun c280 => ?_)
      · rw [if_pos c280] at hrun
        cases hrun
        exact K1 x4 rfl H locs ls hw hS (lv_sub hl [0, 2, 3, 4] rfl)
      · rw [if_neg c280] at hrun
        refine lv_aload_n hx hb d_MacroExpandModel_defines_283 rfl (lv_at hl 0 rfl) ?_
        replace hrun := hb_some hrun
        obtain ⟨v284, g284, hrun⟩ := hrun
        refine h_getI S (fun w q => hT w (i_MacroExpandModel w q)) hK (ci := 1) rfl 21 (by decide) (hT _ fl_MacroExpandModel_113) hw g284 d_MacroExpandModel_defines_284 ?_
        refine lv_if_ne (tgt := 466) hx hb d_MacroExpandModel_defines_287 (by decide) (fun c287 => ?_) (fun c287 => ?_)
        · rw [if_neg c287] at hrun
          cases hrun
          exact K1 x4 rfl H locs ls hw hS (lv_sub hl [0, 2, 3, 4] rfl)
        · rw [if_pos c287] at hrun
          refine lv_aload_n hx hb d_MacroExpandModel_defines_290 rfl (lv_at hl 0 rfl) ?_
          replace hrun := hb_some hrun
          obtain ⟨v291, g291, hrun⟩ := hrun
          refine h_getI S (fun w q => hT w (i_MacroExpandModel w q)) hK (ci := 1) rfl 24 (by decide) (hT _ fl_MacroExpandModel_178) hw g291 d_MacroExpandModel_defines_291 ?_
          refine lv_istore (lv' := [(7, .int v291), (0, .ref a0), (1, .int x1), (2, .int x2), (3, .int x3), (4, .int x4), (6, .int x6)]) hx hb d_MacroExpandModel_defines_294 hl (by decide) rfl (fun ls hl => ?_)
          refine lv_aload_n hx hb d_MacroExpandModel_defines_296 rfl (lv_at hl 1 rfl) ?_
          refine lv_iconst (v := (0 : Int32)) hx hb d_MacroExpandModel_defines_297 (by decide) ?_
          replace hrun := hb_some hrun
          obtain ⟨h298, g298, hrun⟩ := hrun
          obtain ⟨n298, f298, g298⟩ := hpZ_spec g298
          refine h_put S (fun w q => hT w (i_MacroExpandModel w q)) t_MacroExpandModel t_MacroExpandModel_ok n_MacroExpandModel hK (ci := 1) rfl 24 (by decide) (hT _ fl_MacroExpandModel_178) rfl n298 f298 hw hS g298 d_MacroExpandModel_defines_298 (fun H locs hw hS => ?_)
          refine lv_aload_n hx hb d_MacroExpandModel_defines_301 rfl (lv_at hl 1 rfl) ?_
          replace hrun := hb_some hrun
          obtain ⟨v302, g302, hrun⟩ := hrun
          refine h_getI S (fun w q => hT w (i_MacroExpandModel w q)) hK (ci := 1) rfl 3 (by decide) (hT _ fl_MacroExpandModel_107) hw g302 d_MacroExpandModel_defines_302 ?_
          refine lv_if_ne (tgt := 316) hx hb d_MacroExpandModel_defines_305 (by decide) (fun c305 => ?_) (fun c305 => ?_)
          · rw [if_neg c305] at hrun
            refine lv_iload_n hx hb d_MacroExpandModel_defines_316 rfl (lv_at hl 2 rfl) ?_
            refine lv_if_eq (tgt := 341) hx hb d_MacroExpandModel_defines_317 (by decide) (fun c317 => ?_) (fun c317 => ?_)
            · rw [if_pos c317] at hrun
              exact j_341 x1 x2 x3 x4 x6 _ _ h298 _ _ _ hrun hw hS (lv_sub hl [1, 2, 3, 4, 5, 6] rfl) K0 K1
            · rw [if_neg c317] at hrun
              refine lv_iload hx hb d_MacroExpandModel_defines_320 (lv_at hl 0 rfl) ?_
              refine lv_if_ne (tgt := 341) hx hb d_MacroExpandModel_defines_322 (by decide) (fun c322 => ?_) (fun c322 => ?_)
              · rw [if_neg c322] at hrun
                exact j_341 x1 x2 x3 x4 x6 _ _ h298 _ _ _ hrun hw hS (lv_sub hl [1, 2, 3, 4, 5, 6] rfl) K0 K1
              · rw [if_pos c322] at hrun
                refine lv_aload_n hx hb d_MacroExpandModel_defines_325 rfl (lv_at hl 1 rfl) ?_
                refine lv_iconst (v := (0 : Int32)) hx hb d_MacroExpandModel_defines_326 (by decide) ?_
                replace hrun := hb_some hrun
                obtain ⟨c327, k327, hrun⟩ := hrun
                replace hrun := hb_some hrun
                obtain ⟨v327, g327, hrun⟩ := hrun
                refine h_ci (h_runV S (As := [.int (0 : Int32)]) (rest := []) (c_MacroExpandModel_canBeExpanded l D dA b0 a0 (0 : Int32) nx g327) (cwV 1 S.2.2.2.2 (h_good _ (h_in4 ml_MacroExpandModel_182 im_MacroExpandModel_canBeExpanded se_MacroExpandModel_canBeExpanded it_MacroExpandModel) cd_MacroExpandModel_canBeExpanded) rfl rfl rfl (by decide +kernel) ⟨Nat.le_of_ble_eq_true rfl, Nat.le_of_ble_eq_true rfl⟩) hK hN hw (ci := 1) rfl k327 rfl hl.1 (lv_room (Nat.le_of_ble_eq_true rfl)) d_MacroExpandModel_defines_327 ⟨Nat.le_refl _, Nat.le_refl _⟩) hS (fun H locs hw hS => ?_)
                refine lv_if_eq (tgt := 341) hx hb d_MacroExpandModel_defines_330 (by decide) (fun c330 => ?_) (fun c330 => ?_)
                · rw [if_pos c330] at hrun
                  exact j_341 x1 x2 x3 x4 x6 _ _ h298 _ _ _ hrun hw hS (lv_sub hl [1, 2, 3, 4, 5, 6] rfl) K0 K1
                · rw [if_neg c330] at hrun
                  refine lv_aload_n hx hb d_MacroExpandModel_defines_333 rfl (lv_at hl 1 rfl) ?_
                  refine lv_iconst (v := (0 : Int32)) hx hb d_MacroExpandModel_defines_334 (by decide) ?_
                  replace hrun := hb_some hrun
                  obtain ⟨c335, k335, hrun⟩ := hrun
                  replace hrun := hbW_some hrun
                  obtain ⟨_u335, h335, g335, hrun⟩ := hrun
                  refine h_cv (h_runV S (As := [.int (0 : Int32)]) (rest := []) (c_MacroExpandModel_expandAt l D dA b0 n a0 (0 : Int32) nx g335) (cwV 1 S.2.2.2.2 (h_good _ (h_in4 ml_MacroExpandModel_207 im_MacroExpandModel_expandAt se_MacroExpandModel_expandAt it_MacroExpandModel) cd_MacroExpandModel_expandAt) rfl rfl rfl (by decide +kernel) ⟨Nat.le_of_ble_eq_true rfl, Nat.le_of_ble_eq_true rfl⟩) hK hN hw (ci := 1) rfl k335 rfl hl.1 (lv_room (Nat.le_of_ble_eq_true rfl)) d_MacroExpandModel_defines_335 ⟨Nat.le_refl _, Nat.le_refl _⟩) hS (fun H locs hw hS => ?_)
                  refine lv_goto (tgt := 463) hx hb d_MacroExpandModel_defines_338 (by decide) ?_
                  exact j_463 x1 x2 x3 x4 x6 _ _ h335 _ _ _ hrun hw hS (lv_sub hl [1, 2, 3, 4, 5, 6] rfl) K0 K1
          · rw [if_pos c305] at hrun
            refine lv_aload_n hx hb d_MacroExpandModel_defines_308 rfl (lv_at hl 1 rfl) ?_
            refine lv_iconst (v := (1 : Int32)) hx hb d_MacroExpandModel_defines_309 (by decide) ?_
            replace hrun := hb_some hrun
            obtain ⟨c310, k310, hrun⟩ := hrun
            replace hrun := hbW_some hrun
            obtain ⟨_u310, h310, g310, hrun⟩ := hrun
            refine h_cv (h_runV S (As := [.int (1 : Int32)]) (rest := []) (c_MacroExpandModel_mark l D dA b0 a0 (1 : Int32) nx g310) (cwV 1 S.2.2.2.2 (h_good _ (h_in4 ml_MacroExpandModel_123 im_MacroExpandModel_mark se_MacroExpandModel_mark it_MacroExpandModel) cd_MacroExpandModel_mark) rfl rfl rfl (by decide +kernel) ⟨Nat.le_of_ble_eq_true rfl, Nat.le_of_ble_eq_true rfl⟩) hK hN hw (ci := 1) rfl k310 rfl hl.1 (lv_room (Nat.le_of_ble_eq_true rfl)) d_MacroExpandModel_defines_310 ⟨Nat.le_refl _, Nat.le_refl _⟩) hS (fun H locs hw hS => ?_)
            refine lv_goto (tgt := 463) hx hb d_MacroExpandModel_defines_313 (by decide) ?_
            exact j_463 x1 x2 x3 x4 x6 _ _ h310 _ _ _ hrun hw hS (lv_sub hl [1, 2, 3, 4, 5, 6] rfl) K0 K1
  have l_90 : ∀ (x1 : Int32) (x2 : Int32) (x4 : Int32) (n9 : Nat) (x9 : Int32 × Int32) (h : hH) (b9 : (Int32)) (h9 : hH) (H : Heap) (locs : List Loc) (ls : Array Slot), hloopW (f_MacroExpandModel_defines_b90 n a0 x1 x2 x4) n9 x9 h = some (b9, h9) → hW D dA classes b0 nx h H → va_S (hA b0) s.heap H locs → lv_has ls 10 (match x9 with | (x3, x5) => [(0, .ref a0), (1, .int x1), (2, .int x2), (3, .int x3), (4, .int x4), (5, .int x5)]) → (∀ (z3 : Int32), b9 = z3 → ∀ (H : Heap) (locs : List Loc) (ls : Array Slot), hW D dA classes b0 nx h9 H → va_S (hA b0) s.heap H locs → lv_has ls 10 [(0, .ref a0), (1, .int x1), (2, .int x2), (3, .int z3), (4, .int x4)] → W p l e (headSpec w_MacroExpandModel_defines ({ frames := 9, cells := 0, slots := 0, locals := 219 } : Room)).room s m ([.ref a0, .int i1] : List Value).toArray below meth c H locs 0 0 (MQ below (va_Qv (fun (_ : Unit) => True) (fun (_ : Unit) t => hW D dA classes b0 nx h' t.heap) (hA b0)) ([.ref a0, .int i1] : List Value).toArray s 0 0 (hA b0)) (F0 m 270 ls [])) → W p l e (headSpec w_MacroExpandModel_defines ({ frames := 9, cells := 0, slots := 0, locals := 219 } : Room)).room s m ([.ref a0, .int i1] : List Value).toArray below meth c H locs 0 0 (MQ below (va_Qv (fun (_ : Unit) => True) (fun (_ : Unit) t => hW D dA classes b0 nx h' t.heap) (hA b0)) ([.ref a0, .int i1] : List Value).toArray s 0 0 (hA b0)) (F0 m 90 ls []) := by
    intro x1 x2 x4 n9
    induction n9 with
    | zero =>
      intro x9 h b9 h9 H locs ls hrun
      cases hrun
    | succ n9 ih =>
      rintro ⟨x3, x5⟩ h b9 h9 H locs ls hrun hw hS hl k0
      have hl : lv_has ls 10 [(0, .ref a0), (1, .int x1), (2, .int x2), (3, .int x3), (4, .int x4), (5, .int x5)] := hl
      unfold hloopW at hrun
      obtain ⟨q9, h9b, hbody, hrun9⟩ := hbW_some hrun
      have K0 : (∀ (z3 : Int32) (z5 : Int32), q9 = .inl (z3, z5) → ∀ (H : Heap) (locs : List Loc) (ls : Array Slot), hW D dA classes b0 nx h9b H → va_S (hA b0) s.heap H locs → lv_has ls 10 [(0, .ref a0), (1, .int x1), (2, .int x2), (3, .int z3), (4, .int x4), (5, .int z5)] → W p l e (headSpec w_MacroExpandModel_defines ({ frames := 9, cells := 0, slots := 0, locals := 219 } : Room)).room s m ([.ref a0, .int i1] : List Value).toArray below meth c H locs 0 0 (MQ below (va_Qv (fun (_ : Unit) => True) (fun (_ : Unit) t => hW D dA classes b0 nx h' t.heap) (hA b0)) ([.ref a0, .int i1] : List Value).toArray s 0 0 (hA b0)) (F0 m 90 ls [])) := by
        intro z3 z5 eq9 H locs ls hw hS hl
        subst eq9
        exact ih (z3, z5) h9b b9 h9 H locs ls hrun9 hw hS hl k0
      have K1 : (∀ (z3 : Int32), q9 = .inr z3 → ∀ (H : Heap) (locs : List Loc) (ls : Array Slot), hW D dA classes b0 nx h9b H → va_S (hA b0) s.heap H locs → lv_has ls 10 [(0, .ref a0), (1, .int x1), (2, .int x2), (3, .int z3), (4, .int x4)] → W p l e (headSpec w_MacroExpandModel_defines ({ frames := 9, cells := 0, slots := 0, locals := 219 } : Room)).room s m ([.ref a0, .int i1] : List Value).toArray below meth c H locs 0 0 (MQ below (va_Qv (fun (_ : Unit) => True) (fun (_ : Unit) t => hW D dA classes b0 nx h' t.heap) (hA b0)) ([.ref a0, .int i1] : List Value).toArray s 0 0 (hA b0)) (F0 m 270 ls [])) := by
        intro z3 eq9 H locs ls hw hS hl
        subst eq9
        cases hrun9
        exact k0 _ rfl H locs ls hw hS hl
      clear hrun hrun9 ih k0
      have hrun := hbody
      clear hbody
      have j_267 : ∀  (x1 : Int32) (x2 : Int32) (x3 : Int32) (x4 : Int32) (x5 : Int32) (q9 : (Int32 × Int32) ⊕ ((Int32))) (h9 : hH) (h : hH) (H : Heap) (locs : List Loc) (ls : Array Slot), f_MacroExpandModel_defines_j267 n a0 x1 x2 x3 x4 x5 h = some (q9, h9) → hW D dA classes b0 nx h H → va_S (hA b0) s.heap H locs → lv_has ls 10 [(0, .ref a0), (1, .int x1), (2, .int x2), (3, .int x3), (4, .int x4), (5, .int x5)] → (∀ (z3 : Int32) (z5 : Int32), q9 = .inl (z3, z5) → ∀ (H : Heap) (locs : List Loc) (ls : Array Slot), hW D dA classes b0 nx h9 H → va_S (hA b0) s.heap H locs → lv_has ls 10 [(0, .ref a0), (1, .int x1), (2, .int x2), (3, .int z3), (4, .int x4), (5, .int z5)] → W p l e (headSpec w_MacroExpandModel_defines ({ frames := 9, cells := 0, slots := 0, locals := 219 } : Room)).room s m ([.ref a0, .int i1] : List Value).toArray below meth c H locs 0 0 (MQ below (va_Qv (fun (_ : Unit) => True) (fun (_ : Unit) t => hW D dA classes b0 nx h' t.heap) (hA b0)) ([.ref a0, .int i1] : List Value).toArray s 0 0 (hA b0)) (F0 m 90 ls [])) → (∀ (z3 : Int32), q9 = .inr z3 → ∀ (H : Heap) (locs : List Loc) (ls : Array Slot), hW D dA classes b0 nx h9 H → va_S (hA b0) s.heap H locs → lv_has ls 10 [(0, .ref a0), (1, .int x1), (2, .int x2), (3, .int z3), (4, .int x4)] → W p l e (headSpec w_MacroExpandModel_defines ({ frames := 9, cells := 0, slots := 0, locals := 219 } : Room)).room s m ([.ref a0, .int i1] : List Value).toArray below meth c H locs 0 0 (MQ below (va_Qv (fun (_ : Unit) => True) (fun (_ : Unit) t => hW D dA classes b0 nx h' t.heap) (hA b0)) ([.ref a0, .int i1] : List Value).toArray s 0 0 (hA b0)) (F0 m 270 ls [])) → W p l e (headSpec w_MacroExpandModel_defines ({ frames := 9, cells := 0, slots := 0, locals := 219 } : Room)).room s m ([.ref a0, .int i1] : List Value).toArray below meth c H locs 0 0 (MQ below (va_Qv (fun (_ : Unit) => True) (fun (_ : Unit) t => hW D dA classes b0 nx h' t.heap) (hA b0)) ([.ref a0, .int i1] : List Value).toArray s 0 0 (hA b0)) (F0 m 267 ls []) := by
        intro x1 x2 x3 x4 x5 q9 h9 h H locs ls hrun hw hS hl k0 k1
        unfold f_MacroExpandModel_defines_j267 at hrun
        refine lv_goto (tgt := 90) hx hb d_MacroExpandModel_defines_267 (by decide) ?_
        cases hrun
        exact k0 x3 x5 rfl H locs ls hw hS (lv_sub hl [0, 1, 2, 3, 4, 5] rfl)
      have j_254 : ∀  (x1 : Int32) (x2 : Int32) (x3 : Int32) (x4 : Int32) (x5 : Int32) (q9 : (Int32 × Int32) ⊕ ((Int32))) (h9 : hH) (h : hH) (H : Heap) (locs : List Loc) (ls : Array Slot), f_MacroExpandModel_defines_j254 n a0 x1 x2 x3 x4 x5 h = some (q9, h9) → hW D dA classes b0 nx h H → va_S (hA b0) s.heap H locs → lv_has ls 10 [(0, .ref a0), (1, .int x1), (2, .int x2), (3, .int x3), (4, .int x4), (5, .int x5)] → (∀ (z3 : Int32) (z5 : Int32), q9 = .inl (z3, z5) → ∀ (H : Heap) (locs : List Loc) (ls : Array Slot), hW D dA classes b0 nx h9 H → va_S (hA b0) s.heap H locs → lv_has ls 10 [(0, .ref a0), (1, .int x1), (2, .int x2), (3, .int z3), (4, .int x4), (5, .int z5)] → W p l e (headSpec w_MacroExpandModel_defines ({ frames := 9, cells := 0, slots := 0, locals := 219 } : Room)).room s m ([.ref a0, .int i1] : List Value).toArray below meth c H locs 0 0 (MQ below (va_Qv (fun (_ : Unit) => True) (fun (_ : Unit) t => hW D dA classes b0 nx h' t.heap) (hA b0)) ([.ref a0, .int i1] : List Value).toArray s 0 0 (hA b0)) (F0 m 90 ls [])) → (∀ (z3 : Int32), q9 = .inr z3 → ∀ (H : Heap) (locs : List Loc) (ls : Array Slot), hW D dA classes b0 nx h9 H → va_S (hA b0) s.heap H locs → lv_has ls 10 [(0, .ref a0), (1, .int x1), (2, .int x2), (3, .int z3), (4, .int x4)] → W p l e (headSpec w_MacroExpandModel_defines ({ frames := 9, cells := 0, slots := 0, locals := 219 } : Room)).room s m ([.ref a0, .int i1] : List Value).toArray below meth c H locs 0 0 (MQ below (va_Qv (fun (_ : Unit) => True) (fun (_ : Unit) t => hW D dA classes b0 nx h' t.heap) (hA b0)) ([.ref a0, .int i1] : List Value).toArray s 0 0 (hA b0)) (F0 m 270 ls [])) → W p l e (headSpec w_MacroExpandModel_defines ({ frames := 9, cells := 0, slots := 0, locals := 219 } : Room)).room s m ([.ref a0, .int i1] : List Value).toArray below meth c H locs 0 0 (MQ below (va_Qv (fun (_ : Unit) => True) (fun (_ : Unit) t => hW D dA classes b0 nx h' t.heap) (hA b0)) ([.ref a0, .int i1] : List Value).toArray s 0 0 (hA b0)) (F0 m 254 ls []) := by
        intro x1 x2 x3 x4 x5 q9 h9 h H locs ls hrun hw hS hl k0 k1
        unfold f_MacroExpandModel_defines_j254 at hrun
        refine lv_aload_n hx hb d_MacroExpandModel_defines_254 rfl (lv_at hl 0 rfl) ?_
        replace hrun := hb_some hrun
        obtain ⟨v255, g255, hrun⟩ := hrun
        refine h_getI S (fun w q => hT w (i_MacroExpandModel w q)) hK (ci := 1) rfl 21 (by decide) (hT _ fl_MacroExpandModel_113) hw g255 d_MacroExpandModel_defines_255 ?_
        refine lv_if_ne (tgt := 267) hx hb d_MacroExpandModel_defines_258 (by decide) (fun c258 => ?_) (fun c258 => ?_)
        · rw [if_neg c258] at hrun
          exact j_267 x1 x2 x3 x4 x5 _ _ h _ _ _ hrun hw hS (lv_sub hl [0, 1, 2, 3, 4, 5] rfl) k0 k1
        · rw [if_pos c258] at hrun
          refine lv_aload_n hx hb d_MacroExpandModel_defines_261 rfl (lv_at hl 0 rfl) ?_
          refine lv_iconst (v := (0 : Int32)) hx hb d_MacroExpandModel_defines_262 (by decide) ?_
          refine lv_iconst (v := (1 : Int32)) hx hb d_MacroExpandModel_defines_263 (by decide) ?_
          replace hrun := hb_some hrun
          obtain ⟨c264, k264, hrun⟩ := hrun
          replace hrun := hbW_some hrun
          obtain ⟨_u264, h264, g264, hrun⟩ := hrun
          refine h_cv (h_runV S (As := [.int (0 : Int32), .int (1 : Int32)]) (rest := []) (c_MacroExpandModel_take l D dA b0 n a0 (0 : Int32) (1 : Int32) nx g264) (cwV 2 S.2.2.2.2 (h_good _ (h_in4 ml_MacroExpandModel_160 im_MacroExpandModel_take se_MacroExpandModel_take it_MacroExpandModel) cd_MacroExpandModel_take) rfl rfl rfl (by decide +kernel) ⟨Nat.le_of_ble_eq_true rfl, Nat.le_of_ble_eq_true rfl⟩) hK hN hw (ci := 1) rfl k264 rfl hl.1 (lv_room (Nat.le_of_ble_eq_true rfl)) d_MacroExpandModel_defines_264 ⟨Nat.le_refl _, Nat.le_refl _⟩) hS (fun H locs hw hS => ?_)
          exact j_267 x1 x2 x3 x4 x5 _ _ h264 _ _ _ hrun hw hS (lv_sub hl [0, 1, 2, 3, 4, 5] rfl) k0 k1
      have j_176 : ∀  (x1 : Int32) (x2 : Int32) (x3 : Int32) (x4 : Int32) (x5 : Int32) (x6 : Int32) (q9 : (Int32 × Int32) ⊕ ((Int32))) (h9 : hH) (h : hH) (H : Heap) (locs : List Loc) (ls : Array Slot), f_MacroExpandModel_defines_j176 n a0 x1 x2 x3 x4 x5 x6 h = some (q9, h9) → hW D dA classes b0 nx h H → va_S (hA b0) s.heap H locs → lv_has ls 10 [(0, .ref a0), (1, .int x1), (2, .int x2), (3, .int x3), (4, .int x4), (5, .int x5), (6, .int x6)] → (∀ (z3 : Int32) (z5 : Int32), q9 = .inl (z3, z5) → ∀ (H : Heap) (locs : List Loc) (ls : Array Slot), hW D dA classes b0 nx h9 H → va_S (hA b0) s.heap H locs → lv_has ls 10 [(0, .ref a0), (1, .int x1), (2, .int x2), (3, .int z3), (4, .int x4), (5, .int z5)] → W p l e (headSpec w_MacroExpandModel_defines ({ frames := 9, cells := 0, slots := 0, locals := 219 } : Room)).room s m ([.ref a0, .int i1] : List Value).toArray below meth c H locs 0 0 (MQ below (va_Qv (fun (_ : Unit) => True) (fun (_ : Unit) t => hW D dA classes b0 nx h' t.heap) (hA b0)) ([.ref a0, .int i1] : List Value).toArray s 0 0 (hA b0)) (F0 m 90 ls [])) → (∀ (z3 : Int32), q9 = .inr z3 → ∀ (H : Heap) (locs : List Loc) (ls : Array Slot), hW D dA classes b0 nx h9 H → va_S (hA b0) s.heap H locs → lv_has ls 10 [(0, .ref a0), (1, .int x1), (2, .int x2), (3, .int z3), (4, .int x4)] → W p l e (headSpec w_MacroExpandModel_defines ({ frames := 9, cells := 0, slots := 0, locals := 219 } : Room)).room s m ([.ref a0, .int i1] : List Value).toArray below meth c H locs 0 0 (MQ below (va_Qv (fun (_ : Unit) => True) (fun (_ : Unit) t => hW D dA classes b0 nx h' t.heap) (hA b0)) ([.ref a0, .int i1] : List Value).toArray s 0 0 (hA b0)) (F0 m 270 ls [])) → W p l e (headSpec w_MacroExpandModel_defines ({ frames := 9, cells := 0, slots := 0, locals := 219 } : Room)).room s m ([.ref a0, .int i1] : List Value).toArray below meth c H locs 0 0 (MQ below (va_Qv (fun (_ : Unit) => True) (fun (_ : Unit) t => hW D dA classes b0 nx h' t.heap) (hA b0)) ([.ref a0, .int i1] : List Value).toArray s 0 0 (hA b0)) (F0 m 176 ls []) := by
        intro x1 x2 x3 x4 x5 x6 q9 h9 h H locs ls hrun hw hS hl k0 k1
        unfold f_MacroExpandModel_defines_j176 at hrun
        refine lv_iload hx hb d_MacroExpandModel_defines_176 (lv_at hl 6 rfl) ?_
        refine lv_sipush (v := (257 : Int32)) hx hb d_MacroExpandModel_defines_178 (by decide) ?_
        refine lv_icmp_ne (tgt := 190) hx hb d_MacroExpandModel_defines_181 (by decide) (fun c181 => ?_) (fun c181 => ?_)
        · rw [if_neg c181] at hrun
          refine lv_iload hx hb d_MacroExpandModel_defines_190 (lv_at hl 6 rfl) ?_
          replace hrun := hb_some hrun
          obtain ⟨v192, g192, hrun⟩ := hrun
          refine h_ci (h_runS S (As := [.int x6]) (rest := []) (c_MacroExpandModel_isParameter l D dA b0 x6 nx g192) (va_cwS 1 S.2.2.2.2 (h_good _ (h_in3 ml_MacroExpandModel_87 sm_MacroExpandModel_isParameter it_MacroExpandModel) cd_MacroExpandModel_isParameter) rfl rfl rfl (by decide +kernel) ⟨Nat.le_of_ble_eq_true rfl, Nat.le_of_ble_eq_true rfl⟩) hK hN hw rfl hl.1 (lv_room (Nat.le_of_ble_eq_true rfl)) d_MacroExpandModel_defines_192 ⟨Nat.le_refl _, Nat.le_refl _⟩) hS (fun H locs hw hS => ?_)
          refine lv_if_eq (tgt := 204) hx hb d_MacroExpandModel_defines_195 (by decide) (fun c195 => ?_) (fun c195 => ?_)
          · rw [if_pos c195] at hrun
            refine lv_aload_n hx hb d_MacroExpandModel_defines_204 rfl (lv_at hl 0 rfl) ?_
            replace hrun := hb_some hrun
            obtain ⟨v205, g205, hrun⟩ := hrun
            refine h_getR S (fun w q => hT w (i_MacroExpandModel w q)) hK (ci := 1) rfl 35 (by decide) (hT _ fl_MacroExpandModel_71) hw g205 d_MacroExpandModel_defines_205 ?_
            refine lv_iload_n hx hb d_MacroExpandModel_defines_208 rfl (lv_at hl 3 rfl) ?_
            replace hrun := hb_some hrun
            obtain ⟨p209, rfl, hrun⟩ := hrun
            replace hrun := hb_some hrun
            obtain ⟨v209, g209, hrun⟩ := hrun
            refine h_iald S hK (kd := 0) rfl hw g209 d_MacroExpandModel_defines_209 ?_
            refine lv_sipush (v := (200 : Int32)) hx hb d_MacroExpandModel_defines_210 (by decide) ?_
            refine lv_icmp_ne (tgt := 225) hx hb d_MacroExpandModel_defines_213 (by decide) (fun c213 => ?_) (fun c213 => ?_)
            · rw [if_neg c213] at hrun
              refine lv_aload_n hx hb d_MacroExpandModel_defines_225 rfl (lv_at hl 0 rfl) ?_
              replace hrun := hb_some hrun
              obtain ⟨v226, g226, hrun⟩ := hrun
              refine h_getR S (fun w q => hT w (i_MacroExpandModel w q)) hK (ci := 1) rfl 34 (by decide) (hT _ fl_MacroExpandModel_68) hw g226 d_MacroExpandModel_defines_226 ?_
              refine lv_sipush (v := (200 : Int32)) hx hb d_MacroExpandModel_defines_229 (by decide) ?_
              refine lv_iload_n hx hb d_MacroExpandModel_defines_232 rfl (lv_at hl 3 rfl) ?_
              refine lv_imul hx hb d_MacroExpandModel_defines_233 ?_
              refine lv_aload_n hx hb d_MacroExpandModel_defines_234 rfl (lv_at hl 0 rfl) ?_
              replace hrun := hb_some hrun
              obtain ⟨v235, g235, hrun⟩ := hrun
              refine h_getR S (fun w q => hT w (i_MacroExpandModel w q)) hK (ci := 1) rfl 35 (by decide) (hT _ fl_MacroExpandModel_71) hw g235 d_MacroExpandModel_defines_235 ?_
              refine lv_iload_n hx hb d_MacroExpandModel_defines_238 rfl (lv_at hl 3 rfl) ?_
              replace hrun := hb_some hrun
              obtain ⟨p239, rfl, hrun⟩ := hrun
              replace hrun := hb_some hrun
              obtain ⟨v239, g239, hrun⟩ := hrun
              refine h_iald S hK (kd := 0) rfl hw g239 d_MacroExpandModel_defines_239 ?_
              refine lv_iadd hx hb d_MacroExpandModel_defines_240 ?_
              refine lv_iload hx hb d_MacroExpandModel_defines_241 (lv_at hl 6 rfl) ?_
              replace hrun := hb_some hrun
              obtain ⟨p243, rfl, hrun⟩ := hrun
              replace hrun := hb_some hrun
              obtain ⟨h243, g243, hrun⟩ := hrun
              refine h_iast S hK (kd := 0) rfl hw hS g243 d_MacroExpandModel_defines_243 (fun H locs hw hS => ?_)
              refine lv_aload_n hx hb d_MacroExpandModel_defines_244 rfl (lv_at hl 0 rfl) ?_
              replace hrun := hb_some hrun
              obtain ⟨v245, g245, hrun⟩ := hrun
              refine h_getR S (fun w q => hT w (i_MacroExpandModel w q)) hK (ci := 1) rfl 35 (by decide) (hT _ fl_MacroExpandModel_71) hw g245 d_MacroExpandModel_defines_245 ?_
              refine lv_iload_n hx hb d_MacroExpandModel_defines_248 rfl (lv_at hl 3 rfl) ?_
              refine lv_dup2_11 hx hb d_MacroExpandModel_defines_249 rfl (h_cat _) ?_
              replace hrun := hb_some hrun
              obtain ⟨p250, rfl, hrun⟩ := hrun
              replace hrun := hb_some hrun
              obtain ⟨v250, g250, hrun⟩ := hrun
              refine h_iald S hK (kd := 0) rfl hw g250 d_MacroExpandModel_defines_250 ?_
              refine lv_iconst (v := (1 : Int32)) hx hb d_MacroExpandModel_defines_251 (by decide) ?_
              refine lv_iadd hx hb d_MacroExpandModel_defines_252 ?_
              replace hrun := hb_some hrun
              obtain ⟨h253, g253, hrun⟩ := hrun
              refine h_iast S hK (kd := 0) rfl hw hS g253 d_MacroExpandModel_defines_253 (fun H locs hw hS => ?_)
              exact j_254 x1 x2 x3 x4 x5 _ _ h253 _ _ _ hrun hw hS (lv_sub hl [0, 1, 2, 3, 4, 5] rfl) k0 k1
            · rw [if_pos c213] at hrun
              refine lv_aload_n hx hb d_MacroExpandModel_defines_216 rfl (lv_at hl 0 rfl) ?_
              refine lv_bipush (v := (8 : Int32)) hx hb d_MacroExpandModel_defines_217 (by decide) ?_
              replace hrun := hb_some hrun
              obtain ⟨c219, k219, hrun⟩ := hrun
              replace hrun := hbW_some hrun
              obtain ⟨_u219, h219, g219, hrun⟩ := hrun
              refine h_cv (h_runV S (As := [.int (8 : Int32)]) (rest := []) (c_MacroExpandModel_mark l D dA b0 a0 (8 : Int32) nx g219) (cwV 1 S.2.2.2.2 (h_good _ (h_in4 ml_MacroExpandModel_123 im_MacroExpandModel_mark se_MacroExpandModel_mark it_MacroExpandModel) cd_MacroExpandModel_mark) rfl rfl rfl (by decide +kernel) ⟨Nat.le_of_ble_eq_true rfl, Nat.le_of_ble_eq_true rfl⟩) hK hN hw (ci := 1) rfl k219 rfl hl.1 (lv_room (Nat.le_of_ble_eq_true rfl)) d_MacroExpandModel_defines_219 ⟨Nat.le_refl _, Nat.le_refl _⟩) hS (fun H locs hw hS => ?_)
              refine lv_goto (tgt := 254) hx hb d_MacroExpandModel_defines_222 (by decide) ?_
              exact j_254 x1 x2 x3 x4 x5 _ _ h219 _ _ _ hrun hw hS (lv_sub hl [0, 1, 2, 3, 4, 5] rfl) k0 k1
          · rw [if_neg c195] at hrun
            refine lv_iinc (v := (x3 + (1 : Int32))) (lv' := [(3, .int (x3 + (1 : Int32))), (0, .ref a0), (1, .int x1), (2, .int x2), (4, .int x4), (5, .int x5), (6, .int x6)]) hx hb d_MacroExpandModel_defines_198 hl (k := 3) rfl rfl (by decide) rfl (fun ls hl => ?_)
            refine lv_goto (tgt := 254) hx hb d_MacroExpandModel_defines_201 (by decide) ?_
            exact j_254 x1 x2 (x3 + (1 : Int32)) x4 x5 _ _ h _ _ _ hrun hw hS (lv_sub hl [1, 2, 3, 0, 4, 5] rfl) k0 k1
        · rw [if_pos c181] at hrun
          refine lv_iconst (v := (0 : Int32)) hx hb d_MacroExpandModel_defines_184 (by decide) ?_
          refine lv_istore (lv' := [(5, .int (0 : Int32)), (0, .ref a0), (1, .int x1), (2, .int x2), (3, .int x3), (4, .int x4), (6, .int x6)]) hx hb d_MacroExpandModel_defines_185 hl (by decide) rfl (fun ls hl => ?_)
          refine lv_goto (tgt := 254) hx hb d_MacroExpandModel_defines_187 (by decide) ?_
          exact j_254 x1 x2 x3 x4 (0 : Int32) _ _ h _ _ _ hrun hw hS (lv_sub hl [1, 2, 3, 4, 5, 0] rfl) k0 k1
      have j_167 : ∀  (x1 : Int32) (x2 : Int32) (x3 : Int32) (x4 : Int32) (x5 : Int32) (q9 : (Int32 × Int32) ⊕ ((Int32))) (h9 : hH) (h : hH) (H : Heap) (locs : List Loc) (ls : Array Slot), f_MacroExpandModel_defines_j167 n a0 x1 x2 x3 x4 x5 h = some (q9, h9) → hW D dA classes b0 nx h H → va_S (hA b0) s.heap H locs → lv_has ls 10 [(0, .ref a0), (1, .int x1), (2, .int x2), (3, .int x3), (4, .int x4), (5, .int x5)] → (∀ (z3 : Int32) (z5 : Int32), q9 = .inl (z3, z5) → ∀ (H : Heap) (locs : List Loc) (ls : Array Slot), hW D dA classes b0 nx h9 H → va_S (hA b0) s.heap H locs → lv_has ls 10 [(0, .ref a0), (1, .int x1), (2, .int x2), (3, .int z3), (4, .int x4), (5, .int z5)] → W p l e (headSpec w_MacroExpandModel_defines ({ frames := 9, cells := 0, slots := 0, locals := 219 } : Room)).room s m ([.ref a0, .int i1] : List Value).toArray below meth c H locs 0 0 (MQ below (va_Qv (fun (_ : Unit) => True) (fun (_ : Unit) t => hW D dA classes b0 nx h' t.heap) (hA b0)) ([.ref a0, .int i1] : List Value).toArray s 0 0 (hA b0)) (F0 m 90 ls [])) → (∀ (z3 : Int32), q9 = .inr z3 → ∀ (H : Heap) (locs : List Loc) (ls : Array Slot), hW D dA classes b0 nx h9 H → va_S (hA b0) s.heap H locs → lv_has ls 10 [(0, .ref a0), (1, .int x1), (2, .int x2), (3, .int z3), (4, .int x4)] → W p l e (headSpec w_MacroExpandModel_defines ({ frames := 9, cells := 0, slots := 0, locals := 219 } : Room)).room s m ([.ref a0, .int i1] : List Value).toArray below meth c H locs 0 0 (MQ below (va_Qv (fun (_ : Unit) => True) (fun (_ : Unit) t => hW D dA classes b0 nx h' t.heap) (hA b0)) ([.ref a0, .int i1] : List Value).toArray s 0 0 (hA b0)) (F0 m 270 ls [])) → W p l e (headSpec w_MacroExpandModel_defines ({ frames := 9, cells := 0, slots := 0, locals := 219 } : Room)).room s m ([.ref a0, .int i1] : List Value).toArray below meth c H locs 0 0 (MQ below (va_Qv (fun (_ : Unit) => True) (fun (_ : Unit) t => hW D dA classes b0 nx h' t.heap) (hA b0)) ([.ref a0, .int i1] : List Value).toArray s 0 0 (hA b0)) (F0 m 167 ls []) := by
        intro x1 x2 x3 x4 x5 q9 h9 h H locs ls hrun hw hS hl k0 k1
        unfold f_MacroExpandModel_defines_j167 at hrun
        refine lv_aload_n hx hb d_MacroExpandModel_defines_167 rfl (lv_at hl 0 rfl) ?_
        refine lv_bipush (v := (6 : Int32)) hx hb d_MacroExpandModel_defines_168 (by decide) ?_
        replace hrun := hb_some hrun
        obtain ⟨c170, k170, hrun⟩ := hrun
        replace hrun := hbW_some hrun
        obtain ⟨_u170, h170, g170, hrun⟩ := hrun
        refine h_cv (h_runV S (As := [.int (6 : Int32)]) (rest := []) (c_MacroExpandModel_mark l D dA b0 a0 (6 : Int32) nx g170) (cwV 1 S.2.2.2.2 (h_good _ (h_in4 ml_MacroExpandModel_123 im_MacroExpandModel_mark se_MacroExpandModel_mark it_MacroExpandModel) cd_MacroExpandModel_mark) rfl rfl rfl (by decide +kernel) ⟨Nat.le_of_ble_eq_true rfl, Nat.le_of_ble_eq_true rfl⟩) hK hN hw (ci := 1) rfl k170 rfl hl.1 (lv_room (Nat.le_of_ble_eq_true rfl)) d_MacroExpandModel_defines_170 ⟨Nat.le_refl _, Nat.le_refl _⟩) hS (fun H locs hw hS => ?_)
        refine lv_goto (tgt := 254) hx hb d_MacroExpandModel_defines_173 (by decide) ?_
        exact j_254 x1 x2 x3 x4 x5 _ _ h170 _ _ _ hrun hw hS (lv_sub hl [0, 1, 2, 3, 4, 5] rfl) k0 k1
      have j_118 : ∀  (x1 : Int32) (x2 : Int32) (x3 : Int32) (x4 : Int32) (x5 : Int32) (y0 : Int32) (q9 : (Int32 × Int32) ⊕ ((Int32))) (h9 : hH) (h : hH) (H : Heap) (locs : List Loc) (ls : Array Slot), f_MacroExpandModel_defines_j118 n a0 x1 x2 x3 x4 x5 y0 h = some (q9, h9) → hW D dA classes b0 nx h H → va_S (hA b0) s.heap H locs → lv_has ls 10 [(0, .ref a0), (1, .int x1), (2, .int x2), (3, .int x3), (4, .int x4), (5, .int x5)] → (∀ (z3 : Int32) (z5 : Int32), q9 = .inl (z3, z5) → ∀ (H : Heap) (locs : List Loc) (ls : Array Slot), hW D dA classes b0 nx h9 H → va_S (hA b0) s.heap H locs → lv_has ls 10 [(0, .ref a0), (1, .int x1), (2, .int x2), (3, .int z3), (4, .int x4), (5, .int z5)] → W p l e (headSpec w_MacroExpandModel_defines ({ frames := 9, cells := 0, slots := 0, locals := 219 } : Room)).room s m ([.ref a0, .int i1] : List Value).toArray below meth c H locs 0 0 (MQ below (va_Qv (fun (_ : Unit) => True) (fun (_ : Unit) t => hW D dA classes b0 nx h' t.heap) (hA b0)) ([.ref a0, .int i1] : List Value).toArray s 0 0 (hA b0)) (F0 m 90 ls [])) → (∀ (z3 : Int32), q9 = .inr z3 → ∀ (H : Heap) (locs : List Loc) (ls : Array Slot), hW D dA classes b0 nx h9 H → va_S (hA b0) s.heap H locs → lv_has ls 10 [(0, .ref a0), (1, .int x1), (2, .int x2), (3, .int z3), (4, .int x4)] → W p l e (headSpec w_MacroExpandModel_defines ({ frames := 9, cells := 0, slots := 0, locals := 219 } : Room)).room s m ([.ref a0, .int i1] : List Value).toArray below meth c H locs 0 0 (MQ below (va_Qv (fun (_ : Unit) => True) (fun (_ : Unit) t => hW D dA classes b0 nx h' t.heap) (hA b0)) ([.ref a0, .int i1] : List Value).toArray s 0 0 (hA b0)) (F0 m 270 ls [])) → W p l e (headSpec w_MacroExpandModel_defines ({ frames := 9, cells := 0, slots := 0, locals := 219 } : Room)).room s m ([.ref a0, .int i1] : List Value).toArray below meth c H locs 0 0 (MQ below (va_Qv (fun (_ : Unit) => True) (fun (_ : Unit) t => hW D dA classes b0 nx h' t.heap) (hA b0)) ([.ref a0, .int i1] : List Value).toArray s 0 0 (hA b0)) (F0 m 118 ls [.int y0]) := by
        intro x1 x2 x3 x4 x5 y0 q9 h9 h H locs ls hrun hw hS hl k0 k1
        unfold f_MacroExpandModel_defines_j118 at hrun
        refine lv_istore (lv' := [(6, .int y0), (0, .ref a0), (1, .int x1), (2, .int x2), (3, .int x3), (4, .int x4), (5, .int x5)]) hx hb d_MacroExpandModel_defines_118 hl (by decide) rfl (fun ls hl => ?_)
        refine lv_aload_n hx hb d_MacroExpandModel_defines_120 rfl (lv_at hl 1 rfl) ?_
        replace hrun := hb_some hrun
        obtain ⟨v121, g121, hrun⟩ := hrun
        refine h_getI S (fun w q => hT w (i_MacroExpandModel w q)) hK (ci := 1) rfl 3 (by decide) (hT _ fl_MacroExpandModel_107) hw g121 d_MacroExpandModel_defines_121 ?_
        refine lv_if_ne (tgt := 135) hx hb d_MacroExpandModel_defines_124 (by decide) (fun c124 => ?_) (fun c124 => ?_)
        · rw [if_neg c124] at hrun
          refine lv_iload hx hb d_MacroExpandModel_defines_135 (lv_at hl 0 rfl) ?_
          refine lv_sipush (v := (258 : Int32)) hx hb d_MacroExpandModel_defines_137 (by decide) ?_
          refine lv_icmp_eq (tgt := 167) hx hb d_MacroExpandModel_defines_140 (by decide) (fun c140 => ?_) (fun c140 => ?_)
          · rw [if_pos c140] at hrun
            exact j_167 x1 x2 x3 x4 x5 _ _ h _ _ _ hrun hw hS (lv_sub hl [1, 2, 3, 4, 5, 6] rfl) k0 k1
          · rw [if_neg c140] at hrun
            refine lv_iload hx hb d_MacroExpandModel_defines_143 (lv_at hl 0 rfl) ?_
            replace hrun := hb_some hrun
            obtain ⟨v145, g145, hrun⟩ := hrun
            refine h_ci (h_runS S (As := [.int y0]) (rest := []) (c_MacroExpandModel_isParameter l D dA b0 y0 nx g145) (va_cwS 1 S.2.2.2.2 (h_good _ (h_in3 ml_MacroExpandModel_87 sm_MacroExpandModel_isParameter it_MacroExpandModel) cd_MacroExpandModel_isParameter) rfl rfl rfl (by decide +kernel) ⟨Nat.le_of_ble_eq_true rfl, Nat.le_of_ble_eq_true rfl⟩) hK hN hw rfl hl.1 (lv_room (Nat.le_of_ble_eq_true rfl)) d_MacroExpandModel_defines_145 ⟨Nat.le_refl _, Nat.le_refl _⟩) hS (fun H locs hw hS => ?_)
            refine lv_if_eq (tgt := 176) hx hb d_MacroExpandModel_defines_148 (by decide) (fun c148 => ?_) (fun c148 => ?_)
            · rw [if_pos c148] at hrun
              exact j_176 x1 x2 x3 x4 x5 y0 _ _ h _ _ _ hrun hw hS (lv_sub hl [1, 2, 3, 4, 5, 6, 0] rfl) k0 k1
            · rw [if_neg c148] at hrun
              refine lv_iload hx hb d_MacroExpandModel_defines_151 (lv_at hl 0 rfl) ?_
              refine lv_sipush (v := (311 : Int32)) hx hb d_MacroExpandModel_defines_153 (by decide) ?_
              refine lv_iload_n hx hb d_MacroExpandModel_defines_156 rfl (lv_at hl 4 rfl) ?_
              refine lv_iadd hx hb d_MacroExpandModel_defines_157 ?_
              refine lv_icmp_ne (tgt := 167) hx hb d_MacroExpandModel_defines_158 (by decide) (fun c158 => ?_) (fun c158 => ?_)
              · rw [if_neg c158] at hrun
                exact j_167 x1 x2 x3 x4 x5 _ _ h _ _ _ hrun hw hS (lv_sub hl [1, 2, 3, 4, 5, 6] rfl) k0 k1
              · rw [if_pos c158] at hrun
                refine lv_iload_n hx hb d_MacroExpandModel_defines_161 rfl (lv_at hl 4 rfl) ?_
                refine lv_bipush (v := (9 : Int32)) hx hb d_MacroExpandModel_defines_162 (by decide) ?_
                refine lv_icmp_ne (tgt := 176) hx hb d_MacroExpandModel_defines_164 (by decide) (fun c164 => ?_) (fun c164 => ?_)
                · rw [if_neg c164] at hrun
                  exact j_176 x1 x2 x3 x4 x5 y0 _ _ h _ _ _ hrun hw hS (lv_sub hl [1, 2, 3, 4, 5, 6, 0] rfl) k0 k1
                · rw [if_pos c164] at hrun
                  exact j_167 x1 x2 x3 x4 x5 _ _ h _ _ _ hrun hw hS (lv_sub hl [1, 2, 3, 4, 5, 6] rfl) k0 k1
        · rw [if_pos c124] at hrun
          refine lv_aload_n hx hb d_MacroExpandModel_defines_127 rfl (lv_at hl 1 rfl) ?_
          refine lv_iconst (v := (1 : Int32)) hx hb d_MacroExpandModel_defines_128 (by decide) ?_
          replace hrun := hb_some hrun
          obtain ⟨c129, k129, hrun⟩ := hrun
          replace hrun := hbW_some hrun
          obtain ⟨_u129, h129, g129, hrun⟩ := hrun
          refine h_cv (h_runV S (As := [.int (1 : Int32)]) (rest := []) (c_MacroExpandModel_mark l D dA b0 a0 (1 : Int32) nx g129) (cwV 1 S.2.2.2.2 (h_good _ (h_in4 ml_MacroExpandModel_123 im_MacroExpandModel_mark se_MacroExpandModel_mark it_MacroExpandModel) cd_MacroExpandModel_mark) rfl rfl rfl (by decide +kernel) ⟨Nat.le_of_ble_eq_true rfl, Nat.le_of_ble_eq_true rfl⟩) hK hN hw (ci := 1) rfl k129 rfl hl.1 (lv_room (Nat.le_of_ble_eq_true rfl)) d_MacroExpandModel_defines_129 ⟨Nat.le_refl _, Nat.le_refl _⟩) hS (fun H locs hw hS => ?_)
          refine lv_goto (tgt := 254) hx hb d_MacroExpandModel_defines_132 (by decide) ?_
          exact j_254 x1 x2 x3 x4 x5 _ _ h129 _ _ _ hrun hw hS (lv_sub hl [1, 2, 3, 4, 5, 6] rfl) k0 k1
      dsimp only [f_MacroExpandModel_defines_b90] at hrun
      refine lv_iload hx hb d_MacroExpandModel_defines_90 (lv_at hl 5 rfl) ?_
      refine lv_if_eq (tgt := 270) hx hb d_MacroExpandModel_defines_92 (by decide) (fun c92 => ?_) (fun c92 => ?_)
      · rw [if_pos c92] at hrun
        cases hrun
        exact K1 x3 rfl H locs ls hw hS (lv_sub hl [0, 1, 2, 3, 4] rfl)
      · rw [if_neg c92] at hrun
        refine lv_aload_n hx hb d_MacroExpandModel_defines_95 rfl (lv_at hl 0 rfl) ?_
        replace hrun := hb_some hrun
        obtain ⟨v96, g96, hrun⟩ := hrun
        refine h_getI S (fun w q => hT w (i_MacroExpandModel w q)) hK (ci := 1) rfl 21 (by decide) (hT _ fl_MacroExpandModel_113) hw g96 d_MacroExpandModel_defines_96 ?_
        refine lv_if_ne (tgt := 270) hx hb d_MacroExpandModel_defines_99 (by decide) (fun c99 => ?_) (fun c99 => ?_)
        · rw [if_neg c99] at hrun
          cases hrun
          exact K1 x3 rfl H locs ls hw hS (lv_sub hl [0, 1, 2, 3, 4] rfl)
        · rw [if_pos c99] at hrun
          refine lv_aload_n hx hb d_MacroExpandModel_defines_102 rfl (lv_at hl 0 rfl) ?_
          replace hrun := hb_some hrun
          obtain ⟨v103, g103, hrun⟩ := hrun
          refine h_getI S (fun w q => hT w (i_MacroExpandModel w q)) hK (ci := 1) rfl 3 (by decide) (hT _ fl_MacroExpandModel_107) hw g103 d_MacroExpandModel_defines_103 ?_
          refine lv_if_le (tgt := 117) hx hb d_MacroExpandModel_defines_106 (by decide) (fun c106 => ?_) (fun c106 => ?_)
          · rw [if_pos c106] at hrun
            refine lv_iconst (v := (-1 : Int32)) hx hb d_MacroExpandModel_defines_117 (by decide) ?_
            exact j_118 x1 x2 x3 x4 x5 (-1 : Int32) _ _ h _ _ _ hrun hw hS (lv_sub hl [0, 1, 2, 3, 4, 5] rfl) K0 K1
          · rw [if_neg c106] at hrun
            refine lv_aload_n hx hb d_MacroExpandModel_defines_109 rfl (lv_at hl 0 rfl) ?_
            refine lv_iconst (v := (0 : Int32)) hx hb d_MacroExpandModel_defines_110 (by decide) ?_
            replace hrun := hb_some hrun
            obtain ⟨c111, k111, hrun⟩ := hrun
            replace hrun := hb_some hrun
            obtain ⟨v111, g111, hrun⟩ := hrun
            refine h_ci (h_runV S (As := [.int (0 : Int32)]) (rest := []) (c_MacroExpandModel_get l D dA b0 a0 (0 : Int32) nx g111) (cwV 1 S.2.2.2.2 (h_good _ (h_in4 ml_MacroExpandModel_116 im_MacroExpandModel_get se_MacroExpandModel_get it_MacroExpandModel) cd_MacroExpandModel_get) rfl rfl rfl (by decide +kernel) ⟨Nat.le_of_ble_eq_true rfl, Nat.le_of_ble_eq_true rfl⟩) hK hN hw (ci := 1) rfl k111 rfl hl.1 (lv_room (Nat.le_of_ble_eq_true rfl)) d_MacroExpandModel_defines_111 ⟨Nat.le_refl _, Nat.le_refl _⟩) hS (fun H locs hw hS => ?_)
            refine lv_goto (tgt := 118) hx hb d_MacroExpandModel_defines_114 (by decide) ?_
            exact j_118 x1 x2 x3 x4 x5 v111 _ _ h _ _ _ hrun hw hS (lv_sub hl [0, 1, 2, 3, 4, 5] rfl) K0 K1
  have l_63 : ∀ (x1 : Int32) (x2 : Int32) (n9 : Nat) (x9 : Int32) (h : hH) (b9 : (Unit)) (h9 : hH) (H : Heap) (locs : List Loc) (ls : Array Slot), hloopW (f_MacroExpandModel_defines_b63 n a0 x1 x2) n9 x9 h = some (b9, h9) → hW D dA classes b0 nx h H → va_S (hA b0) s.heap H locs → lv_has ls 10 (match x9 with | x3 => [(0, .ref a0), (1, .int x1), (2, .int x2), (3, .int x3)]) → (b9 = () → ∀ (H : Heap) (locs : List Loc) (ls : Array Slot), hW D dA classes b0 nx h9 H → va_S (hA b0) s.heap H locs → lv_has ls 10 [(0, .ref a0), (1, .int x1), (2, .int x2)] → W p l e (headSpec w_MacroExpandModel_defines ({ frames := 9, cells := 0, slots := 0, locals := 219 } : Room)).room s m ([.ref a0, .int i1] : List Value).toArray below meth c H locs 0 0 (MQ below (va_Qv (fun (_ : Unit) => True) (fun (_ : Unit) t => hW D dA classes b0 nx h' t.heap) (hA b0)) ([.ref a0, .int i1] : List Value).toArray s 0 0 (hA b0)) (F0 m 82 ls [])) → W p l e (headSpec w_MacroExpandModel_defines ({ frames := 9, cells := 0, slots := 0, locals := 219 } : Room)).room s m ([.ref a0, .int i1] : List Value).toArray below meth c H locs 0 0 (MQ below (va_Qv (fun (_ : Unit) => True) (fun (_ : Unit) t => hW D dA classes b0 nx h' t.heap) (hA b0)) ([.ref a0, .int i1] : List Value).toArray s 0 0 (hA b0)) (F0 m 63 ls []) := by
    intro x1 x2 n9
    induction n9 with
    | zero =>
      intro x9 h b9 h9 H locs ls hrun
      cases hrun
    | succ n9 ih =>
      rintro x3 h b9 h9 H locs ls hrun hw hS hl k0
      have hl : lv_has ls 10 [(0, .ref a0), (1, .int x1), (2, .int x2), (3, .int x3)] := hl
      unfold hloopW at hrun
      obtain ⟨q9, h9b, hbody, hrun9⟩ := hbW_some hrun
      have K0 : (∀ (z3 : Int32), q9 = .inl z3 → ∀ (H : Heap) (locs : List Loc) (ls : Array Slot), hW D dA classes b0 nx h9b H → va_S (hA b0) s.heap H locs → lv_has ls 10 [(0, .ref a0), (1, .int x1), (2, .int x2), (3, .int z3)] → W p l e (headSpec w_MacroExpandModel_defines ({ frames := 9, cells := 0, slots := 0, locals := 219 } : Room)).room s m ([.ref a0, .int i1] : List Value).toArray below meth c H locs 0 0 (MQ below (va_Qv (fun (_ : Unit) => True) (fun (_ : Unit) t => hW D dA classes b0 nx h' t.heap) (hA b0)) ([.ref a0, .int i1] : List Value).toArray s 0 0 (hA b0)) (F0 m 63 ls [])) := by
        intro z3 eq9 H locs ls hw hS hl
        subst eq9
        exact ih z3 h9b b9 h9 H locs ls hrun9 hw hS hl k0
      have K1 : (q9 = .inr () → ∀ (H : Heap) (locs : List Loc) (ls : Array Slot), hW D dA classes b0 nx h9b H → va_S (hA b0) s.heap H locs → lv_has ls 10 [(0, .ref a0), (1, .int x1), (2, .int x2)] → W p l e (headSpec w_MacroExpandModel_defines ({ frames := 9, cells := 0, slots := 0, locals := 219 } : Room)).room s m ([.ref a0, .int i1] : List Value).toArray below meth c H locs 0 0 (MQ below (va_Qv (fun (_ : Unit) => True) (fun (_ : Unit) t => hW D dA classes b0 nx h' t.heap) (hA b0)) ([.ref a0, .int i1] : List Value).toArray s 0 0 (hA b0)) (F0 m 82 ls [])) := by
        intro  eq9 H locs ls hw hS hl
        subst eq9
        cases hrun9
        exact k0  rfl H locs ls hw hS hl
      clear hrun hrun9 ih k0
      have hrun := hbody
      clear hbody
      dsimp only [f_MacroExpandModel_defines_b63] at hrun
      refine lv_iload_n hx hb d_MacroExpandModel_defines_63 rfl (lv_at hl 3 rfl) ?_
      refine lv_bipush (v := (10 : Int32)) hx hb d_MacroExpandModel_defines_64 (by decide) ?_
      refine lv_icmp_ge (tgt := 82) hx hb d_MacroExpandModel_defines_66 (by decide) (fun c66 => ?_) (fun c66 => ?_)
      · rw [if_pos c66] at hrun
        cases hrun
        exact K1  rfl H locs ls hw hS (lv_sub hl [0, 1, 2] rfl)
      · rw [if_neg c66] at hrun
        refine lv_aload_n hx hb d_MacroExpandModel_defines_69 rfl (lv_at hl 0 rfl) ?_
        replace hrun := hb_some hrun
        obtain ⟨v70, g70, hrun⟩ := hrun
        refine h_getR S (fun w q => hT w (i_MacroExpandModel w q)) hK (ci := 1) rfl 35 (by decide) (hT _ fl_MacroExpandModel_71) hw g70 d_MacroExpandModel_defines_70 ?_
        refine lv_iload_n hx hb d_MacroExpandModel_defines_73 rfl (lv_at hl 3 rfl) ?_
        refine lv_iconst (v := (0 : Int32)) hx hb d_MacroExpandModel_defines_74 (by decide) ?_
        replace hrun := hb_some hrun
        obtain ⟨p75, rfl, hrun⟩ := hrun
        replace hrun := hb_some hrun
        obtain ⟨h75, g75, hrun⟩ := hrun
        refine h_iast S hK (kd := 0) rfl hw hS g75 d_MacroExpandModel_defines_75 (fun H locs hw hS => ?_)
        refine lv_iinc (v := (x3 + (1 : Int32))) (lv' := [(3, .int (x3 + (1 : Int32))), (0, .ref a0), (1, .int x1), (2, .int x2)]) hx hb d_MacroExpandModel_defines_76 hl (k := 3) rfl rfl (by decide) rfl (fun ls hl => ?_)
        refine lv_goto (tgt := 63) hx hb d_MacroExpandModel_defines_79 (by decide) ?_
        cases hrun
        exact K0 (x3 + (1 : Int32)) rfl H locs ls hw hS (lv_sub hl [1, 2, 3, 0] rfl)
  unfold f_MacroExpandModel_defines at hrun
  refine lv_aload_n hx hb d_MacroExpandModel_defines_0 rfl (lv_at hl 0 rfl) ?_
  refine lv_iconst (v := (0 : Int32)) hx hb d_MacroExpandModel_defines_1 (by decide) ?_
  refine lv_iconst (v := (1 : Int32)) hx hb d_MacroExpandModel_defines_2 (by decide) ?_
  replace hrun := hb_some hrun
  obtain ⟨c3, k3, hrun⟩ := hrun
  replace hrun := hbW_some hrun
  obtain ⟨_u3, h3, g3, hrun⟩ := hrun
  refine h_cv (h_runV S (As := [.int (0 : Int32), .int (1 : Int32)]) (rest := []) (c_MacroExpandModel_take l D dA b0 n a0 (0 : Int32) (1 : Int32) nx g3) (cwV 2 S.2.2.2.2 (h_good _ (h_in4 ml_MacroExpandModel_160 im_MacroExpandModel_take se_MacroExpandModel_take it_MacroExpandModel) cd_MacroExpandModel_take) rfl rfl rfl (by decide +kernel) ⟨Nat.le_of_ble_eq_true rfl, Nat.le_of_ble_eq_true rfl⟩) hK hN hw (ci := 1) rfl k3 rfl hl.1 (lv_room (Nat.le_of_ble_eq_true rfl)) d_MacroExpandModel_defines_3 ⟨Nat.le_refl _, Nat.le_refl _⟩) hS (fun H locs hw hS => ?_)
  refine lv_aload_n hx hb d_MacroExpandModel_defines_6 rfl (lv_at hl 0 rfl) ?_
  replace hrun := hb_some hrun
  obtain ⟨v7, g7, hrun⟩ := hrun
  refine h_getI S (fun w q => hT w (i_MacroExpandModel w q)) hK (ci := 1) rfl 3 (by decide) (hT _ fl_MacroExpandModel_107) hw g7 d_MacroExpandModel_defines_7 ?_
  refine lv_if_ne (tgt := 19) hx hb d_MacroExpandModel_defines_10 (by decide) (fun c10 => ?_) (fun c10 => ?_)
  · rw [if_neg c10] at hrun
    refine lv_aload_n hx hb d_MacroExpandModel_defines_19 rfl (lv_at hl 0 rfl) ?_
    refine lv_iconst (v := (0 : Int32)) hx hb d_MacroExpandModel_defines_20 (by decide) ?_
    replace hrun := hb_some hrun
    obtain ⟨c21, k21, hrun⟩ := hrun
    replace hrun := hb_some hrun
    obtain ⟨v21, g21, hrun⟩ := hrun
    refine h_ci (h_runV S (As := [.int (0 : Int32)]) (rest := []) (c_MacroExpandModel_get l D dA b0 a0 (0 : Int32) nx g21) (cwV 1 S.2.2.2.2 (h_good _ (h_in4 ml_MacroExpandModel_116 im_MacroExpandModel_get se_MacroExpandModel_get it_MacroExpandModel) cd_MacroExpandModel_get) rfl rfl rfl (by decide +kernel) ⟨Nat.le_of_ble_eq_true rfl, Nat.le_of_ble_eq_true rfl⟩) hK hN hw (ci := 1) rfl k21 rfl hl.1 (lv_room (Nat.le_of_ble_eq_true rfl)) d_MacroExpandModel_defines_21 ⟨Nat.le_refl _, Nat.le_refl _⟩) hS (fun H locs hw hS => ?_)
    replace hrun := hb_some hrun
    obtain ⟨v24, g24, hrun⟩ := hrun
    refine h_ci (h_runS S (As := [.int v21]) (rest := []) (c_MacroExpandModel_isName l D dA b0 v21 nx g24) (va_cwS 1 S.2.2.2.2 (h_good _ (h_in3 ml_MacroExpandModel_91 sm_MacroExpandModel_isName it_MacroExpandModel) cd_MacroExpandModel_isName) rfl rfl rfl (by decide +kernel) ⟨Nat.le_of_ble_eq_true rfl, Nat.le_of_ble_eq_true rfl⟩) hK hN hw rfl hl.1 (lv_room (Nat.le_of_ble_eq_true rfl)) d_MacroExpandModel_defines_24 ⟨Nat.le_refl _, Nat.le_refl _⟩) hS (fun H locs hw hS => ?_)
    refine lv_if_ne (tgt := 37) hx hb d_MacroExpandModel_defines_27 (by decide) (fun c27 => ?_) (fun c27 => ?_)
    · rw [if_neg c27] at hrun
      refine lv_aload_n hx hb d_MacroExpandModel_defines_37 rfl (lv_at hl 0 rfl) ?_
      refine lv_aload_n hx hb d_MacroExpandModel_defines_38 rfl (lv_at hl 0 rfl) ?_
      refine lv_iconst (v := (0 : Int32)) hx hb d_MacroExpandModel_defines_39 (by decide) ?_
      replace hrun := hb_some hrun
      obtain ⟨c40, k40, hrun⟩ := hrun
      replace hrun := hb_some hrun
      obtain ⟨v40, g40, hrun⟩ := hrun
      refine h_ci (h_runV S (As := [.int (0 : Int32)]) (rest := [.ref a0]) (c_MacroExpandModel_get l D dA b0 a0 (0 : Int32) nx g40) (cwV 1 S.2.2.2.2 (h_good _ (h_in4 ml_MacroExpandModel_116 im_MacroExpandModel_get se_MacroExpandModel_get it_MacroExpandModel) cd_MacroExpandModel_get) rfl rfl rfl (by decide +kernel) ⟨Nat.le_of_ble_eq_true rfl, Nat.le_of_ble_eq_true rfl⟩) hK hN hw (ci := 1) rfl k40 rfl hl.1 (lv_room (Nat.le_of_ble_eq_true rfl)) d_MacroExpandModel_defines_40 ⟨Nat.le_refl _, Nat.le_refl _⟩) hS (fun H locs hw hS => ?_)
      replace hrun := hb_some hrun
      obtain ⟨h43, g43, hrun⟩ := hrun
      refine h_put S (fun w q => hT w (i_MacroExpandModel w q)) t_MacroExpandModel t_MacroExpandModel_ok n_MacroExpandModel hK (ci := 1) rfl 22 (by decide) (hT _ fl_MacroExpandModel_142) rfl rfl rfl hw hS g43 d_MacroExpandModel_defines_43 (fun H locs hw hS => ?_)
      refine lv_aload_n hx hb d_MacroExpandModel_defines_46 rfl (lv_at hl 0 rfl) ?_
      replace hrun := hb_some hrun
      obtain ⟨v47, g47, hrun⟩ := hrun
      refine h_getI S (fun w q => hT w (i_MacroExpandModel w q)) hK (ci := 1) rfl 22 (by decide) (hT _ fl_MacroExpandModel_142) hw g47 d_MacroExpandModel_defines_47 ?_
      refine lv_sipush (v := (1000 : Int32)) hx hb d_MacroExpandModel_defines_50 (by decide) ?_
      refine lv_isub hx hb d_MacroExpandModel_defines_53 ?_
      refine lv_istore_n (lv' := [(2, .int (v47 - (1000 : Int32))), (0, .ref a0), (1, .int i1)]) hx hb d_MacroExpandModel_defines_54 rfl hl (by decide) rfl (fun ls hl => ?_)
      refine lv_aload_n hx hb d_MacroExpandModel_defines_55 rfl (lv_at hl 1 rfl) ?_
      refine lv_iconst (v := (0 : Int32)) hx hb d_MacroExpandModel_defines_56 (by decide) ?_
      refine lv_iconst (v := (1 : Int32)) hx hb d_MacroExpandModel_defines_57 (by decide) ?_
      replace hrun := hb_some hrun
      obtain ⟨c58, k58, hrun⟩ := hrun
      replace hrun := hbW_some hrun
      obtain ⟨_u58, h58, g58, hrun⟩ := hrun
      refine h_cv (h_runV S (As := [.int (0 : Int32), .int (1 : Int32)]) (rest := []) (c_MacroExpandModel_take l D dA b0 n a0 (0 : Int32) (1 : Int32) nx g58) (cwV 2 S.2.2.2.2 (h_good _ (h_in4 ml_MacroExpandModel_160 im_MacroExpandModel_take se_MacroExpandModel_take it_MacroExpandModel) cd_MacroExpandModel_take) rfl rfl rfl (by decide +kernel) ⟨Nat.le_of_ble_eq_true rfl, Nat.le_of_ble_eq_true rfl⟩) hK hN hw (ci := 1) rfl k58 rfl hl.1 (lv_room (Nat.le_of_ble_eq_true rfl)) d_MacroExpandModel_defines_58 ⟨Nat.le_refl _, Nat.le_refl _⟩) hS (fun H locs hw hS => ?_)
      refine lv_iconst (v := (0 : Int32)) hx hb d_MacroExpandModel_defines_61 (by decide) ?_
      refine lv_istore_n (lv' := [(3, .int (0 : Int32)), (2, .int (v47 - (1000 : Int32))), (0, .ref a0), (1, .int i1)]) hx hb d_MacroExpandModel_defines_62 rfl hl (by decide) rfl (fun ls hl => ?_)
      replace hrun := hbW_some hrun
      obtain ⟨b63, h63l, g63, hrun⟩ := hrun
      refine l_63 i1 (v47 - (1000 : Int32)) n (0 : Int32) h58 _ _ _ _ _ g63 hw hS (lv_sub hl [2, 3, 1, 0] rfl) ?_
      · rintro  eq9 H locs ls hw hS hl
        obtain rfl := eq9.symm
        try dsimp only at hrun
        refine lv_iconst (v := (0 : Int32)) hx hb d_MacroExpandModel_defines_82 (by decide) ?_
        refine lv_istore_n (lv' := [(3, .int (0 : Int32)), (0, .ref a0), (1, .int i1), (2, .int (v47 - (1000 : Int32)))]) hx hb d_MacroExpandModel_defines_83 rfl hl (by decide) rfl (fun ls hl => ?_)
        refine lv_iconst (v := (0 : Int32)) hx hb d_MacroExpandModel_defines_84 (by decide) ?_
        refine lv_istore (lv' := [(4, .int (0 : Int32)), (3, .int (0 : Int32)), (0, .ref a0), (1, .int i1), (2, .int (v47 - (1000 : Int32)))]) hx hb d_MacroExpandModel_defines_85 hl (by decide) rfl (fun ls hl => ?_)
        refine lv_iconst (v := (1 : Int32)) hx hb d_MacroExpandModel_defines_87 (by decide) ?_
        refine lv_istore (lv' := [(5, .int (1 : Int32)), (4, .int (0 : Int32)), (3, .int (0 : Int32)), (0, .ref a0), (1, .int i1), (2, .int (v47 - (1000 : Int32)))]) hx hb d_MacroExpandModel_defines_88 hl (by decide) rfl (fun ls hl => ?_)
        replace hrun := hbW_some hrun
        obtain ⟨b90, h90l, g90, hrun⟩ := hrun
        refine l_90 i1 (v47 - (1000 : Int32)) (0 : Int32) n ((0 : Int32), (1 : Int32)) h63l _ _ _ _ _ g90 hw hS (lv_sub hl [3, 4, 5, 2, 1, 0] rfl) ?_
        · rintro x3_90 eq9 H locs ls hw hS hl
          obtain rfl := eq9.symm
          try dsimp only at hrun
          refine lv_iconst (v := (1 : Int32)) hx hb d_MacroExpandModel_defines_270 (by decide) ?_
          refine lv_istore (lv' := [(6, .int (1 : Int32)), (0, .ref a0), (1, .int i1), (2, .int (v47 - (1000 : Int32))), (3, .int x3_90), (4, .int (0 : Int32))]) hx hb d_MacroExpandModel_defines_271 hl (by decide) rfl (fun ls hl => ?_)
          refine lv_aload_n hx hb d_MacroExpandModel_defines_273 rfl (lv_at hl 1 rfl) ?_
          refine lv_iconst (v := (0 : Int32)) hx hb d_MacroExpandModel_defines_274 (by decide) ?_
          replace hrun := hb_some hrun
          obtain ⟨h275, g275, hrun⟩ := hrun
          obtain ⟨n275, f275, g275⟩ := hpZ_spec g275
          refine h_put S (fun w q => hT w (i_MacroExpandModel w q)) t_MacroExpandModel t_MacroExpandModel_ok n_MacroExpandModel hK (ci := 1) rfl 24 (by decide) (hT _ fl_MacroExpandModel_178) rfl n275 f275 hw hS g275 d_MacroExpandModel_defines_275 (fun H locs hw hS => ?_)
          replace hrun := hbW_some hrun
          obtain ⟨b278, h278l, g278, hrun⟩ := hrun
          refine l_278 i1 (v47 - (1000 : Int32)) x3_90 n ((0 : Int32), (1 : Int32)) h275 _ _ _ _ _ g278 hw hS (lv_sub hl [1, 2, 3, 4, 5, 0] rfl) ?_
          · rintro x4_278 eq9 H locs ls hw hS hl
            obtain rfl := eq9.symm
            try dsimp only at hrun
            refine lv_aload_n hx hb d_MacroExpandModel_defines_466 rfl (lv_at hl 0 rfl) ?_
            replace hrun := hb_some hrun
            obtain ⟨v467, g467, hrun⟩ := hrun
            refine h_getI S (fun w q => hT w (i_MacroExpandModel w q)) hK (ci := 1) rfl 21 (by decide) (hT _ fl_MacroExpandModel_113) hw g467 d_MacroExpandModel_defines_467 ?_
            refine lv_if_ne (tgt := 488) hx hb d_MacroExpandModel_defines_470 (by decide) (fun c470 => ?_) (fun c470 => ?_)
            · rw [if_neg c470] at hrun
              exact j_488 (v47 - (1000 : Int32)) x3_90 x4_278 h278l _ _ _ hrun hw hS (lv_sub hl [0, 1, 2, 3] rfl)
            · rw [if_pos c470] at hrun
              refine lv_aload_n hx hb d_MacroExpandModel_defines_473 rfl (lv_at hl 0 rfl) ?_
              replace hrun := hb_some hrun
              obtain ⟨v474, g474, hrun⟩ := hrun
              refine h_getI S (fun w q => hT w (i_MacroExpandModel w q)) hK (ci := 1) rfl 6 (by decide) (hT _ fl_MacroExpandModel_94) hw g474 d_MacroExpandModel_defines_474 ?_
              refine lv_bipush (v := (100 : Int32)) hx hb d_MacroExpandModel_defines_477 (by decide) ?_
              refine lv_icmp_ne (tgt := 488) hx hb d_MacroExpandModel_defines_479 (by decide) (fun c479 => ?_) (fun c479 => ?_)
              · rw [if_neg c479] at hrun
                exact j_488 (v47 - (1000 : Int32)) x3_90 x4_278 h278l _ _ _ hrun hw hS (lv_sub hl [0, 1, 2, 3] rfl)
              · rw [if_pos c479] at hrun
                refine lv_aload_n hx hb d_MacroExpandModel_defines_482 rfl (lv_at hl 0 rfl) ?_
                refine lv_bipush (v := (8 : Int32)) hx hb d_MacroExpandModel_defines_483 (by decide) ?_
                replace hrun := hb_some hrun
                obtain ⟨c485, k485, hrun⟩ := hrun
                replace hrun := hbW_some hrun
                obtain ⟨_u485, h485, g485, hrun⟩ := hrun
                refine h_cv (h_runV S (As := [.int (8 : Int32)]) (rest := []) (c_MacroExpandModel_mark l D dA b0 a0 (8 : Int32) nx g485) (cwV 1 S.2.2.2.2 (h_good _ (h_in4 ml_MacroExpandModel_123 im_MacroExpandModel_mark se_MacroExpandModel_mark it_MacroExpandModel) cd_MacroExpandModel_mark) rfl rfl rfl (by decide +kernel) ⟨Nat.le_of_ble_eq_true rfl, Nat.le_of_ble_eq_true rfl⟩) hK hN hw (ci := 1) rfl k485 rfl hl.1 (lv_room (Nat.le_of_ble_eq_true rfl)) d_MacroExpandModel_defines_485 ⟨Nat.le_refl _, Nat.le_refl _⟩) hS (fun H locs hw hS => ?_)
                exact j_488 (v47 - (1000 : Int32)) x3_90 x4_278 h485 _ _ _ hrun hw hS (lv_sub hl [0, 1, 2, 3] rfl)
    · rw [if_pos c27] at hrun
      refine lv_aload_n hx hb d_MacroExpandModel_defines_30 rfl (lv_at hl 0 rfl) ?_
      refine lv_bipush (v := (6 : Int32)) hx hb d_MacroExpandModel_defines_31 (by decide) ?_
      replace hrun := hb_some hrun
      obtain ⟨c33, k33, hrun⟩ := hrun
      replace hrun := hbW_some hrun
      obtain ⟨_u33, h33, g33, hrun⟩ := hrun
      refine h_cv (h_runV S (As := [.int (6 : Int32)]) (rest := []) (c_MacroExpandModel_mark l D dA b0 a0 (6 : Int32) nx g33) (cwV 1 S.2.2.2.2 (h_good _ (h_in4 ml_MacroExpandModel_123 im_MacroExpandModel_mark se_MacroExpandModel_mark it_MacroExpandModel) cd_MacroExpandModel_mark) rfl rfl rfl (by decide +kernel) ⟨Nat.le_of_ble_eq_true rfl, Nat.le_of_ble_eq_true rfl⟩) hK hN hw (ci := 1) rfl k33 rfl hl.1 (lv_room (Nat.le_of_ble_eq_true rfl)) d_MacroExpandModel_defines_33 ⟨Nat.le_refl _, Nat.le_refl _⟩) hS (fun H locs hw hS => ?_)
      cases hrun
      exact W.vret hx hb hr (fun t ht hW9 => ⟨⟨(), rfl, trivial, by show hW D dA classes b0 _ _ t.heap; rw [ht]; exact hw⟩, hS.F ht⟩) hS.2.2 d_MacroExpandModel_defines_36
  · rw [if_pos c10] at hrun
    refine lv_aload_n hx hb d_MacroExpandModel_defines_13 rfl (lv_at hl 0 rfl) ?_
    refine lv_iconst (v := (1 : Int32)) hx hb d_MacroExpandModel_defines_14 (by decide) ?_
    replace hrun := hb_some hrun
    obtain ⟨c15, k15, hrun⟩ := hrun
    replace hrun := hbW_some hrun
    obtain ⟨_u15, h15, g15, hrun⟩ := hrun
    refine h_cv (h_runV S (As := [.int (1 : Int32)]) (rest := []) (c_MacroExpandModel_mark l D dA b0 a0 (1 : Int32) nx g15) (cwV 1 S.2.2.2.2 (h_good _ (h_in4 ml_MacroExpandModel_123 im_MacroExpandModel_mark se_MacroExpandModel_mark it_MacroExpandModel) cd_MacroExpandModel_mark) rfl rfl rfl (by decide +kernel) ⟨Nat.le_of_ble_eq_true rfl, Nat.le_of_ble_eq_true rfl⟩) hK hN hw (ci := 1) rfl k15 rfl hl.1 (lv_room (Nat.le_of_ble_eq_true rfl)) d_MacroExpandModel_defines_15 ⟨Nat.le_refl _, Nat.le_refl _⟩) hS (fun H locs hw hS => ?_)
    cases hrun
    exact W.vret hx hb hr (fun t ht hW9 => ⟨⟨(), rfl, trivial, by show hW D dA classes b0 _ _ t.heap; rw [ht]; exact hw⟩, hS.F ht⟩) hS.2.2 d_MacroExpandModel_defines_18
