set_option maxHeartbeats 4000000 in
set_option maxRecDepth 100000 in
theorem c_MacroExpandModel_carryOut (l : Launch) (D : va_G) (dA : Nat → ClassId) (b0 : Nat) (n : Nat) (a0 : Nat) (nx : Nat) {h h' : hH} {r : Unit} (hrun : f_MacroExpandModel_carryOut n a0 h = some (r, h')) : Met l y_MacroExpandModel_carryOut w_MacroExpandModel_carryOut ({ frames := 10, cells := 0, slots := 0, locals := 248 } : Room) (va_Pc [.ref a0] (hB D dA b0 nx h)) (va_Qv (fun (_ : Unit) => True) (fun (_ : Unit) t => hW D dA classes b0 nx h' t.heap) (hA b0)) 0 0 (hA b0) := by
  refine Met.ofW (cc := b_MacroExpandModel_carryOut) (maxL := 2) (ret := none) (by decide) rfl ?_
  intro p e s m args below meth c s₁ B hml hv
  obtain ⟨rfl, hw, hK, hN⟩ := hv
  have hx := B.exec
  have hb := B.bytes
  have hr := B.returns
  have hlocks := B.notSynchronized
  have S : CallFix p m c b_MacroExpandModel_carryOut 2 s ([.ref a0] : List Value).toArray w_MacroExpandModel_carryOut R_MacroExpandModel := ⟨hx, hb, hml, findClass_of_methodNamed B.named, atoms_spec (ws := w_MacroExpandModel_carryOut) B.pre⟩
  have hT : ∀ w ∈ tbl, w ∈ w_MacroExpandModel_carryOut := fun _ q => List.mem_cons_of_mem _ q
  have hS : va_S (hA b0) s.heap s.heap [] := va_S.rf
  have hl := lv_entry ([.ref a0]) (n := 2) (Nat.le_of_ble_eq_true rfl)
  rw [lg_entry_eq]
  generalize (lg_sl ([.ref a0]) ++ List.replicate (2 - (lg_sl ([.ref a0])).length) Slot.unset).toArray = ls at hl ⊢
  have hl : lv_has ls 2 [(0, .ref a0)] := hl
  have j_71 : ∀  (y0 : Option Nat) (y1 : Int32) (h : hH) (H : Heap) (locs : List Loc) (ls : Array Slot), f_MacroExpandModel_carryOut_j71 n y0 y1 h = some (r, h') → hW D dA classes b0 nx h H → va_S (hA b0) s.heap H locs → lv_has ls 2 [] → W p l e (headSpec w_MacroExpandModel_carryOut ({ frames := 10, cells := 0, slots := 0, locals := 248 } : Room)).room s m ([.ref a0] : List Value).toArray below meth c H locs 0 0 (MQ below (va_Qv (fun (_ : Unit) => True) (fun (_ : Unit) t => hW D dA classes b0 nx h' t.heap) (hA b0)) ([.ref a0] : List Value).toArray s 0 0 (hA b0)) (F0 m 71 ls [.int y1, va_rf y0]) := by
    intro y0 y1 h H locs ls hrun hw hS hl
    unfold f_MacroExpandModel_carryOut_j71 at hrun
    replace hrun := hb_some hrun
    obtain ⟨p71, rfl, hrun⟩ := hrun
    replace hrun := hb_some hrun
    obtain ⟨c71, k71, hrun⟩ := hrun
    replace hrun := hbW_some hrun
    obtain ⟨_u71, h71, g71, hrun⟩ := hrun
    refine h_cv (h_runV S (As := [.int y1]) (rest := []) (c_MacroExpandModel_defines l D dA b0 n p71 y1 nx g71) (cwV 1 S.2.2.2.2 (h_good _ (h_in4 ml_MacroExpandModel_210 im_MacroExpandModel_defines se_MacroExpandModel_defines it_MacroExpandModel) cd_MacroExpandModel_defines) rfl rfl rfl (by decide +kernel) ⟨Nat.le_of_ble_eq_true rfl, Nat.le_of_ble_eq_true rfl⟩) hK hN hw (ci := 1) rfl k71 rfl hl.1 (lv_room (Nat.le_of_ble_eq_true rfl)) d_MacroExpandModel_carryOut_71 ⟨Nat.le_refl _, Nat.le_refl _⟩) hS (fun H locs hw hS => ?_)
    refine lv_goto (tgt := 177) hx hb d_MacroExpandModel_carryOut_74 (by decide) ?_
    cases hrun
    exact W.vret hx hb hr (fun t ht hW9 => ⟨⟨(), rfl, trivial, by show hW D dA classes b0 _ _ t.heap; rw [ht]; exact hw⟩, hS.F ht⟩) hS.2.2 d_MacroExpandModel_carryOut_177
  have j_58 : ∀  (x1 : Int32) (h : hH) (H : Heap) (locs : List Loc) (ls : Array Slot), f_MacroExpandModel_carryOut_j58 n a0 x1 h = some (r, h') → hW D dA classes b0 nx h H → va_S (hA b0) s.heap H locs → lv_has ls 2 [(0, .ref a0), (1, .int x1)] → W p l e (headSpec w_MacroExpandModel_carryOut ({ frames := 10, cells := 0, slots := 0, locals := 248 } : Room)).room s m ([.ref a0] : List Value).toArray below meth c H locs 0 0 (MQ below (va_Qv (fun (_ : Unit) => True) (fun (_ : Unit) t => hW D dA classes b0 nx h' t.heap) (hA b0)) ([.ref a0] : List Value).toArray s 0 0 (hA b0)) (F0 m 58 ls []) := by
    intro x1 h H locs ls hrun hw hS hl
    unfold f_MacroExpandModel_carryOut_j58 at hrun
    refine lv_aload_n hx hb d_MacroExpandModel_carryOut_58 rfl (lv_at hl 0 rfl) ?_
    refine lv_iload_n hx hb d_MacroExpandModel_carryOut_59 rfl (lv_at hl 1 rfl) ?_
    refine lv_sipush (v := (265 : Int32)) hx hb d_MacroExpandModel_carryOut_60 (by decide) ?_
    refine lv_icmp_ne (tgt := 70) hx hb d_MacroExpandModel_carryOut_63 (by decide) (fun c63 => ?_) (fun c63 => ?_)
    · rw [if_neg c63] at hrun
      refine lv_iconst (v := (0 : Int32)) hx hb d_MacroExpandModel_carryOut_70 (by decide) ?_
      exact j_71 (some a0) (0 : Int32) h _ _ _ hrun hw hS (lv_sub hl [] rfl)
    · rw [if_pos c63] at hrun
      refine lv_iconst (v := (1 : Int32)) hx hb d_MacroExpandModel_carryOut_66 (by decide) ?_
      refine lv_goto (tgt := 71) hx hb d_MacroExpandModel_carryOut_67 (by decide) ?_
      exact j_71 (some a0) (1 : Int32) h _ _ _ hrun hw hS (lv_sub hl [] rfl)
  unfold f_MacroExpandModel_carryOut at hrun
  refine lv_aload_n hx hb d_MacroExpandModel_carryOut_0 rfl (lv_at hl 0 rfl) ?_
  refine lv_iconst (v := (0 : Int32)) hx hb d_MacroExpandModel_carryOut_1 (by decide) ?_
  replace hrun := hb_some hrun
  obtain ⟨c2, k2, hrun⟩ := hrun
  replace hrun := hb_some hrun
  obtain ⟨v2, g2, hrun⟩ := hrun
  refine h_ci (h_runV S (As := [.int (0 : Int32)]) (rest := []) (c_MacroExpandModel_get l D dA b0 a0 (0 : Int32) nx g2) (cwV 1 S.2.2.2.2 (h_good _ (h_in4 ml_MacroExpandModel_116 im_MacroExpandModel_get se_MacroExpandModel_get it_MacroExpandModel) cd_MacroExpandModel_get) rfl rfl rfl (by decide +kernel) ⟨Nat.le_of_ble_eq_true rfl, Nat.le_of_ble_eq_true rfl⟩) hK hN hw (ci := 1) rfl k2 rfl hl.1 (lv_room (Nat.le_of_ble_eq_true rfl)) d_MacroExpandModel_carryOut_2 ⟨Nat.le_refl _, Nat.le_refl _⟩) hS (fun H locs hw hS => ?_)
  refine lv_istore_n (lv' := [(1, .int v2), (0, .ref a0)]) hx hb d_MacroExpandModel_carryOut_5 rfl hl (by decide) rfl (fun ls hl => ?_)
  refine lv_iload_n hx hb d_MacroExpandModel_carryOut_6 rfl (lv_at hl 0 rfl) ?_
  refine lv_sipush (v := (266 : Int32)) hx hb d_MacroExpandModel_carryOut_7 (by decide) ?_
  refine lv_sipush (v := (268 : Int32)) hx hb d_MacroExpandModel_carryOut_10 (by decide) ?_
  replace hrun := hb_some hrun
  obtain ⟨v13, g13, hrun⟩ := hrun
  refine h_ci (h_runS S (As := [.int v2, .int (266 : Int32), .int (268 : Int32)]) (rest := []) (c_MacroExpandModel_in l D dA b0 v2 (266 : Int32) (268 : Int32) nx g13) (va_cwS 3 S.2.2.2.2 (h_good _ (h_in3 ml_MacroExpandModel_83 sm_MacroExpandModel_in it_MacroExpandModel) cd_MacroExpandModel_in) rfl rfl rfl (by decide +kernel) ⟨Nat.le_of_ble_eq_true rfl, Nat.le_of_ble_eq_true rfl⟩) hK hN hw rfl hl.1 (lv_room (Nat.le_of_ble_eq_true rfl)) d_MacroExpandModel_carryOut_13 ⟨Nat.le_refl _, Nat.le_refl _⟩) hS (fun H locs hw hS => ?_)
  refine lv_if_eq (tgt := 44) hx hb d_MacroExpandModel_carryOut_16 (by decide) (fun c16 => ?_) (fun c16 => ?_)
  · rw [if_pos c16] at hrun
    refine lv_iload_n hx hb d_MacroExpandModel_carryOut_44 rfl (lv_at hl 0 rfl) ?_
    refine lv_sipush (v := (264 : Int32)) hx hb d_MacroExpandModel_carryOut_45 (by decide) ?_
    refine lv_icmp_eq (tgt := 58) hx hb d_MacroExpandModel_carryOut_48 (by decide) (fun c48 => ?_) (fun c48 => ?_)
    · rw [if_pos c48] at hrun
      exact j_58 v2 h _ _ _ hrun hw hS (lv_sub hl [1, 0] rfl)
    · rw [if_neg c48] at hrun
      refine lv_iload_n hx hb d_MacroExpandModel_carryOut_51 rfl (lv_at hl 0 rfl) ?_
      refine lv_sipush (v := (265 : Int32)) hx hb d_MacroExpandModel_carryOut_52 (by decide) ?_
      refine lv_icmp_ne (tgt := 77) hx hb d_MacroExpandModel_carryOut_55 (by decide) (fun c55 => ?_) (fun c55 => ?_)
      · rw [if_neg c55] at hrun
        refine lv_aload_n hx hb d_MacroExpandModel_carryOut_77 rfl (lv_at hl 1 rfl) ?_
        replace hrun := hb_some hrun
        obtain ⟨v78, g78, hrun⟩ := hrun
        refine h_getI S (fun w q => hT w (i_MacroExpandModel w q)) hK (ci := 1) rfl 32 (by decide) (hT _ fl_MacroExpandModel_201) hw g78 d_MacroExpandModel_carryOut_78 ?_
        refine lv_if_eq (tgt := 93) hx hb d_MacroExpandModel_carryOut_81 (by decide) (fun c81 => ?_) (fun c81 => ?_)
        · rw [if_pos c81] at hrun
          refine lv_iload_n hx hb d_MacroExpandModel_carryOut_93 rfl (lv_at hl 0 rfl) ?_
          refine lv_sipush (v := (269 : Int32)) hx hb d_MacroExpandModel_carryOut_94 (by decide) ?_
          refine lv_icmp_ne (tgt := 132) hx hb d_MacroExpandModel_carryOut_97 (by decide) (fun c97 => ?_) (fun c97 => ?_)
          · rw [if_neg c97] at hrun
            refine lv_aload_n hx hb d_MacroExpandModel_carryOut_132 rfl (lv_at hl 1 rfl) ?_
            replace hrun := hb_some hrun
            obtain ⟨v133, g133, hrun⟩ := hrun
            refine h_getI S (fun w q => hT w (i_MacroExpandModel w q)) hK (ci := 1) rfl 4 (by decide) (hT _ fl_MacroExpandModel_214) hw g133 d_MacroExpandModel_carryOut_133 ?_
            refine lv_sipush (v := (3000 : Int32)) hx hb d_MacroExpandModel_carryOut_136 (by decide) ?_
            refine lv_icmp_ne (tgt := 151) hx hb d_MacroExpandModel_carryOut_139 (by decide) (fun c139 => ?_) (fun c139 => ?_)
            · rw [if_neg c139] at hrun
              refine lv_aload_n hx hb d_MacroExpandModel_carryOut_151 rfl (lv_at hl 1 rfl) ?_
              replace hrun := hb_some hrun
              obtain ⟨v152, g152, hrun⟩ := hrun
              refine h_getR S (fun w q => hT w (i_MacroExpandModel w q)) hK (ci := 1) rfl 5 (by decide) (hT _ fl_MacroExpandModel_13) hw g152 d_MacroExpandModel_carryOut_152 ?_
              refine lv_aload_n hx hb d_MacroExpandModel_carryOut_155 rfl (lv_at hl 1 rfl) ?_
              replace hrun := hb_some hrun
              obtain ⟨v156, g156, hrun⟩ := hrun
              refine h_getI S (fun w q => hT w (i_MacroExpandModel w q)) hK (ci := 1) rfl 4 (by decide) (hT _ fl_MacroExpandModel_214) hw g156 d_MacroExpandModel_carryOut_156 ?_
              refine lv_iload_n hx hb d_MacroExpandModel_carryOut_159 rfl (lv_at hl 0 rfl) ?_
              replace hrun := hb_some hrun
              obtain ⟨p160, rfl, hrun⟩ := hrun
              replace hrun := hb_some hrun
              obtain ⟨h160, g160, hrun⟩ := hrun
              refine h_iast S hK (kd := 0) rfl hw hS g160 d_MacroExpandModel_carryOut_160 (fun H locs hw hS => ?_)
              refine lv_aload_n hx hb d_MacroExpandModel_carryOut_161 rfl (lv_at hl 1 rfl) ?_
              refine lv_dup hx hb d_MacroExpandModel_carryOut_162 rfl ?_
              replace hrun := hb_some hrun
              obtain ⟨v163, g163, hrun⟩ := hrun
              refine h_getI S (fun w q => hT w (i_MacroExpandModel w q)) hK (ci := 1) rfl 4 (by decide) (hT _ fl_MacroExpandModel_214) hw g163 d_MacroExpandModel_carryOut_163 ?_
              refine lv_iconst (v := (1 : Int32)) hx hb d_MacroExpandModel_carryOut_166 (by decide) ?_
              refine lv_iadd hx hb d_MacroExpandModel_carryOut_167 ?_
              replace hrun := hb_some hrun
              obtain ⟨h168, g168, hrun⟩ := hrun
              refine h_put S (fun w q => hT w (i_MacroExpandModel w q)) t_MacroExpandModel t_MacroExpandModel_ok n_MacroExpandModel hK (ci := 1) rfl 4 (by decide) (hT _ fl_MacroExpandModel_214) rfl rfl rfl hw hS g168 d_MacroExpandModel_carryOut_168 (fun H locs hw hS => ?_)
              refine lv_aload_n hx hb d_MacroExpandModel_carryOut_171 rfl (lv_at hl 1 rfl) ?_
              refine lv_iconst (v := (0 : Int32)) hx hb d_MacroExpandModel_carryOut_172 (by decide) ?_
              refine lv_iconst (v := (1 : Int32)) hx hb d_MacroExpandModel_carryOut_173 (by decide) ?_
              replace hrun := hb_some hrun
              obtain ⟨c174, k174, hrun⟩ := hrun
              replace hrun := hbW_some hrun
              obtain ⟨_u174, h174, g174, hrun⟩ := hrun
              refine h_cv (h_runV S (As := [.int (0 : Int32), .int (1 : Int32)]) (rest := []) (c_MacroExpandModel_take l D dA b0 n a0 (0 : Int32) (1 : Int32) nx g174) (cwV 2 S.2.2.2.2 (h_good _ (h_in4 ml_MacroExpandModel_160 im_MacroExpandModel_take se_MacroExpandModel_take it_MacroExpandModel) cd_MacroExpandModel_take) rfl rfl rfl (by decide +kernel) ⟨Nat.le_of_ble_eq_true rfl, Nat.le_of_ble_eq_true rfl⟩) hK hN hw (ci := 1) rfl k174 rfl hl.1 (lv_room (Nat.le_of_ble_eq_true rfl)) d_MacroExpandModel_carryOut_174 ⟨Nat.le_refl _, Nat.le_refl _⟩) hS (fun H locs hw hS => ?_)
              cases hrun
              exact W.vret hx hb hr (fun t ht hW9 => ⟨⟨(), rfl, trivial, by show hW D dA classes b0 _ _ t.heap; rw [ht]; exact hw⟩, hS.F ht⟩) hS.2.2 d_MacroExpandModel_carryOut_177
            · rw [if_pos c139] at hrun
              refine lv_aload_n hx hb d_MacroExpandModel_carryOut_142 rfl (lv_at hl 1 rfl) ?_
              refine lv_bipush (v := (8 : Int32)) hx hb d_MacroExpandModel_carryOut_143 (by decide) ?_
              replace hrun := hb_some hrun
              obtain ⟨c145, k145, hrun⟩ := hrun
              replace hrun := hbW_some hrun
              obtain ⟨_u145, h145, g145, hrun⟩ := hrun
              refine h_cv (h_runV S (As := [.int (8 : Int32)]) (rest := []) (c_MacroExpandModel_mark l D dA b0 a0 (8 : Int32) nx g145) (cwV 1 S.2.2.2.2 (h_good _ (h_in4 ml_MacroExpandModel_123 im_MacroExpandModel_mark se_MacroExpandModel_mark it_MacroExpandModel) cd_MacroExpandModel_mark) rfl rfl rfl (by decide +kernel) ⟨Nat.le_of_ble_eq_true rfl, Nat.le_of_ble_eq_true rfl⟩) hK hN hw (ci := 1) rfl k145 rfl hl.1 (lv_room (Nat.le_of_ble_eq_true rfl)) d_MacroExpandModel_carryOut_145 ⟨Nat.le_refl _, Nat.le_refl _⟩) hS (fun H locs hw hS => ?_)
              refine lv_goto (tgt := 177) hx hb d_MacroExpandModel_carryOut_148 (by decide) ?_
              cases hrun
              exact W.vret hx hb hr (fun t ht hW9 => ⟨⟨(), rfl, trivial, by show hW D dA classes b0 _ _ t.heap; rw [ht]; exact hw⟩, hS.F ht⟩) hS.2.2 d_MacroExpandModel_carryOut_177
          · rw [if_pos c97] at hrun
            refine lv_aload_n hx hb d_MacroExpandModel_carryOut_100 rfl (lv_at hl 1 rfl) ?_
            replace hrun := hb_some hrun
            obtain ⟨v101, g101, hrun⟩ := hrun
            refine h_getI S (fun w q => hT w (i_MacroExpandModel w q)) hK (ci := 1) rfl 3 (by decide) (hT _ fl_MacroExpandModel_107) hw g101 d_MacroExpandModel_carryOut_101 ?_
            refine lv_iconst (v := (2 : Int32)) hx hb d_MacroExpandModel_carryOut_104 (by decide) ?_
            refine lv_icmp_ge (tgt := 114) hx hb d_MacroExpandModel_carryOut_105 (by decide) (fun c105 => ?_) (fun c105 => ?_)
            · rw [if_pos c105] at hrun
              refine lv_aload_n hx hb d_MacroExpandModel_carryOut_114 rfl (lv_at hl 1 rfl) ?_
              refine lv_aload_n hx hb d_MacroExpandModel_carryOut_115 rfl (lv_at hl 1 rfl) ?_
              refine lv_iconst (v := (1 : Int32)) hx hb d_MacroExpandModel_carryOut_116 (by decide) ?_
              replace hrun := hb_some hrun
              obtain ⟨c117, k117, hrun⟩ := hrun
              replace hrun := hb_some hrun
              obtain ⟨v117, g117, hrun⟩ := hrun
              refine h_ci (h_runV S (As := [.int (1 : Int32)]) (rest := [.ref a0]) (c_MacroExpandModel_get l D dA b0 a0 (1 : Int32) nx g117) (cwV 1 S.2.2.2.2 (h_good _ (h_in4 ml_MacroExpandModel_116 im_MacroExpandModel_get se_MacroExpandModel_get it_MacroExpandModel) cd_MacroExpandModel_get) rfl rfl rfl (by decide +kernel) ⟨Nat.le_of_ble_eq_true rfl, Nat.le_of_ble_eq_true rfl⟩) hK hN hw (ci := 1) rfl k117 rfl hl.1 (lv_room (Nat.le_of_ble_eq_true rfl)) d_MacroExpandModel_carryOut_117 ⟨Nat.le_refl _, Nat.le_refl _⟩) hS (fun H locs hw hS => ?_)
              replace hrun := hb_some hrun
              obtain ⟨h120, g120, hrun⟩ := hrun
              refine h_put S (fun w q => hT w (i_MacroExpandModel w q)) t_MacroExpandModel t_MacroExpandModel_ok n_MacroExpandModel hK (ci := 1) rfl 33 (by decide) (hT _ fl_MacroExpandModel_204) rfl rfl rfl hw hS g120 d_MacroExpandModel_carryOut_120 (fun H locs hw hS => ?_)
              refine lv_aload_n hx hb d_MacroExpandModel_carryOut_123 rfl (lv_at hl 1 rfl) ?_
              refine lv_iconst (v := (0 : Int32)) hx hb d_MacroExpandModel_carryOut_124 (by decide) ?_
              refine lv_iconst (v := (2 : Int32)) hx hb d_MacroExpandModel_carryOut_125 (by decide) ?_
              replace hrun := hb_some hrun
              obtain ⟨c126, k126, hrun⟩ := hrun
              replace hrun := hbW_some hrun
              obtain ⟨_u126, h126, g126, hrun⟩ := hrun
              refine h_cv (h_runV S (As := [.int (0 : Int32), .int (2 : Int32)]) (rest := []) (c_MacroExpandModel_take l D dA b0 n a0 (0 : Int32) (2 : Int32) nx g126) (cwV 2 S.2.2.2.2 (h_good _ (h_in4 ml_MacroExpandModel_160 im_MacroExpandModel_take se_MacroExpandModel_take it_MacroExpandModel) cd_MacroExpandModel_take) rfl rfl rfl (by decide +kernel) ⟨Nat.le_of_ble_eq_true rfl, Nat.le_of_ble_eq_true rfl⟩) hK hN hw (ci := 1) rfl k126 rfl hl.1 (lv_room (Nat.le_of_ble_eq_true rfl)) d_MacroExpandModel_carryOut_126 ⟨Nat.le_refl _, Nat.le_refl _⟩) hS (fun H locs hw hS => ?_)
              refine lv_goto (tgt := 177) hx hb d_MacroExpandModel_carryOut_129 (by decide) ?_
              cases hrun
              exact W.vret hx hb hr (fun t ht hW9 => ⟨⟨(), rfl, trivial, by show hW D dA classes b0 _ _ t.heap; rw [ht]; exact hw⟩, hS.F ht⟩) hS.2.2 d_MacroExpandModel_carryOut_177
            · rw [if_neg c105] at hrun
              refine lv_aload_n hx hb d_MacroExpandModel_carryOut_108 rfl (lv_at hl 1 rfl) ?_
              refine lv_iconst (v := (1 : Int32)) hx hb d_MacroExpandModel_carryOut_109 (by decide) ?_
              replace hrun := hb_some hrun
              obtain ⟨c110, k110, hrun⟩ := hrun
              replace hrun := hbW_some hrun
              obtain ⟨_u110, h110, g110, hrun⟩ := hrun
              refine h_cv (h_runV S (As := [.int (1 : Int32)]) (rest := []) (c_MacroExpandModel_mark l D dA b0 a0 (1 : Int32) nx g110) (cwV 1 S.2.2.2.2 (h_good _ (h_in4 ml_MacroExpandModel_123 im_MacroExpandModel_mark se_MacroExpandModel_mark it_MacroExpandModel) cd_MacroExpandModel_mark) rfl rfl rfl (by decide +kernel) ⟨Nat.le_of_ble_eq_true rfl, Nat.le_of_ble_eq_true rfl⟩) hK hN hw (ci := 1) rfl k110 rfl hl.1 (lv_room (Nat.le_of_ble_eq_true rfl)) d_MacroExpandModel_carryOut_110 ⟨Nat.le_refl _, Nat.le_refl _⟩) hS (fun H locs hw hS => ?_)
              cases hrun
              exact W.vret hx hb hr (fun t ht hW9 => ⟨⟨(), rfl, trivial, by show hW D dA classes b0 _ _ t.heap; rw [ht]; exact hw⟩, hS.F ht⟩) hS.2.2 d_MacroExpandModel_carryOut_113
        · rw [if_neg c81] at hrun
          refine lv_aload_n hx hb d_MacroExpandModel_carryOut_84 rfl (lv_at hl 1 rfl) ?_
          refine lv_bipush (v := (6 : Int32)) hx hb d_MacroExpandModel_carryOut_85 (by decide) ?_
          replace hrun := hb_some hrun
          obtain ⟨c87, k87, hrun⟩ := hrun
          replace hrun := hbW_some hrun
          obtain ⟨_u87, h87, g87, hrun⟩ := hrun
          refine h_cv (h_runV S (As := [.int (6 : Int32)]) (rest := []) (c_MacroExpandModel_mark l D dA b0 a0 (6 : Int32) nx g87) (cwV 1 S.2.2.2.2 (h_good _ (h_in4 ml_MacroExpandModel_123 im_MacroExpandModel_mark se_MacroExpandModel_mark it_MacroExpandModel) cd_MacroExpandModel_mark) rfl rfl rfl (by decide +kernel) ⟨Nat.le_of_ble_eq_true rfl, Nat.le_of_ble_eq_true rfl⟩) hK hN hw (ci := 1) rfl k87 rfl hl.1 (lv_room (Nat.le_of_ble_eq_true rfl)) d_MacroExpandModel_carryOut_87 ⟨Nat.le_refl _, Nat.le_refl _⟩) hS (fun H locs hw hS => ?_)
          refine lv_goto (tgt := 177) hx hb d_MacroExpandModel_carryOut_90 (by decide) ?_
          cases hrun
          exact W.vret hx hb hr (fun t ht hW9 => ⟨⟨(), rfl, trivial, by show hW D dA classes b0 _ _ t.heap; rw [ht]; exact hw⟩, hS.F ht⟩) hS.2.2 d_MacroExpandModel_carryOut_177
      · rw [if_pos c55] at hrun
        exact j_58 v2 h _ _ _ hrun hw hS (lv_sub hl [1, 0] rfl)
  · rw [if_neg c16] at hrun
    refine lv_aload_n hx hb d_MacroExpandModel_carryOut_19 rfl (lv_at hl 1 rfl) ?_
    refine lv_dup hx hb d_MacroExpandModel_carryOut_20 rfl ?_
    replace hrun := hb_some hrun
    obtain ⟨v21, g21, hrun⟩ := hrun
    refine h_getI S (fun w q => hT w (i_MacroExpandModel w q)) hK (ci := 1) rfl 32 (by decide) (hT _ fl_MacroExpandModel_201) hw g21 d_MacroExpandModel_carryOut_21 ?_
    refine lv_iconst (v := (1 : Int32)) hx hb d_MacroExpandModel_carryOut_24 (by decide) ?_
    refine lv_iload_n hx hb d_MacroExpandModel_carryOut_25 rfl (lv_at hl 0 rfl) ?_
    refine lv_sipush (v := (266 : Int32)) hx hb d_MacroExpandModel_carryOut_26 (by decide) ?_
    refine lv_isub hx hb d_MacroExpandModel_carryOut_29 ?_
    refine lv_ishl hx hb d_MacroExpandModel_carryOut_30 ?_
    refine lv_ior hx hb d_MacroExpandModel_carryOut_31 ?_
    replace hrun := hb_some hrun
    obtain ⟨h32, g32, hrun⟩ := hrun
    refine h_put S (fun w q => hT w (i_MacroExpandModel w q)) t_MacroExpandModel t_MacroExpandModel_ok n_MacroExpandModel hK (ci := 1) rfl 32 (by decide) (hT _ fl_MacroExpandModel_201) rfl rfl rfl hw hS g32 d_MacroExpandModel_carryOut_32 (fun H locs hw hS => ?_)
    refine lv_aload_n hx hb d_MacroExpandModel_carryOut_35 rfl (lv_at hl 1 rfl) ?_
    refine lv_iconst (v := (0 : Int32)) hx hb d_MacroExpandModel_carryOut_36 (by decide) ?_
    refine lv_iconst (v := (1 : Int32)) hx hb d_MacroExpandModel_carryOut_37 (by decide) ?_
    replace hrun := hb_some hrun
    obtain ⟨c38, k38, hrun⟩ := hrun
    replace hrun := hbW_some hrun
    obtain ⟨_u38, h38, g38, hrun⟩ := hrun
    refine h_cv (h_runV S (As := [.int (0 : Int32), .int (1 : Int32)]) (rest := []) (c_MacroExpandModel_take l D dA b0 n a0 (0 : Int32) (1 : Int32) nx g38) (cwV 2 S.2.2.2.2 (h_good _ (h_in4 ml_MacroExpandModel_160 im_MacroExpandModel_take se_MacroExpandModel_take it_MacroExpandModel) cd_MacroExpandModel_take) rfl rfl rfl (by decide +kernel) ⟨Nat.le_of_ble_eq_true rfl, Nat.le_of_ble_eq_true rfl⟩) hK hN hw (ci := 1) rfl k38 rfl hl.1 (lv_room (Nat.le_of_ble_eq_true rfl)) d_MacroExpandModel_carryOut_38 ⟨Nat.le_refl _, Nat.le_refl _⟩) hS (fun H locs hw hS => ?_)
    refine lv_goto (tgt := 177) hx hb d_MacroExpandModel_carryOut_41 (by decide) ?_
    cases hrun
    exact W.vret hx hb hr (fun t ht hW9 => ⟨⟨(), rfl, trivial, by show hW D dA classes b0 _ _ t.heap; rw [ht]; exact hw⟩, hS.F ht⟩) hS.2.2 d_MacroExpandModel_carryOut_177
set_option maxHeartbeats 4000000 in
set_option maxRecDepth 100000 in
theorem c_MacroExpandModel_ended (l : Launch) (D : va_G) (dA : Nat → ClassId) (b0 : Nat) (a0 : Nat) (i1 : Int32) (nx : Nat) {h h' : hH} {r : Int32} (hrun : f_MacroExpandModel_ended a0 i1 h = some (r, h')) : Met l y_MacroExpandModel_ended w_MacroExpandModel_ended ({ frames := 0, cells := 0, slots := 0, locals := 0 } : Room) (va_Pc [.ref a0, .int i1] (hB D dA b0 nx h)) (va_Qi (fun r' (_ : Unit) => r' = r) (fun (_ : Unit) t => hW D dA classes b0 nx h' t.heap) (hA b0)) 0 0 (hA b0) := by
  refine Met.ofW (cc := b_MacroExpandModel_ended) (maxL := 2) (ret := (some .int)) (by decide) rfl ?_
  intro p e s m args below meth c s₁ B hml hv
  obtain ⟨rfl, hw, hK, hN⟩ := hv
  have hx := B.exec
  have hb := B.bytes
  have hr := B.returns
  have hlocks := B.notSynchronized
  have S : CallFix p m c b_MacroExpandModel_ended 2 s ([.ref a0, .int i1] : List Value).toArray w_MacroExpandModel_ended R_MacroExpandModel := ⟨hx, hb, hml, findClass_of_methodNamed B.named, atoms_spec (ws := w_MacroExpandModel_ended) B.pre⟩
  have hT : ∀ w ∈ tbl, w ∈ w_MacroExpandModel_ended := fun _ q => List.mem_cons_of_mem _ q
  have hS : va_S (hA b0) s.heap s.heap [] := va_S.rf
  have hl := lv_entry ([.ref a0, .int i1]) (n := 2) (Nat.le_of_ble_eq_true rfl)
  rw [lg_entry_eq]
  generalize (lg_sl ([.ref a0, .int i1]) ++ List.replicate (2 - (lg_sl ([.ref a0, .int i1])).length) Slot.unset).toArray = ls at hl ⊢
  have hl : lv_has ls 2 [(0, .ref a0), (1, .int i1)] := hl
  unfold f_MacroExpandModel_ended at hrun
  refine lv_aload_n hx hb d_MacroExpandModel_ended_0 rfl (lv_at hl 0 rfl) ?_
  replace hrun := hb_some hrun
  obtain ⟨v1, g1, hrun⟩ := hrun
  refine h_getI S (fun w q => hT w (i_MacroExpandModel w q)) hK (ci := 1) rfl 21 (by decide) (hT _ fl_MacroExpandModel_113) hw g1 d_MacroExpandModel_ended_1 ?_
  refine lv_if_ne (tgt := 9) hx hb d_MacroExpandModel_ended_4 (by decide) (fun c4 => ?_) (fun c4 => ?_)
  · rw [if_neg c4] at hrun
    refine lv_aload_n hx hb d_MacroExpandModel_ended_9 rfl (lv_at hl 0 rfl) ?_
    refine lv_iconst (v := (0 : Int32)) hx hb d_MacroExpandModel_ended_10 (by decide) ?_
    replace hrun := hb_some hrun
    obtain ⟨h11, g11, hrun⟩ := hrun
    refine h_put S (fun w q => hT w (i_MacroExpandModel w q)) t_MacroExpandModel t_MacroExpandModel_ok n_MacroExpandModel hK (ci := 1) rfl 3 (by decide) (hT _ fl_MacroExpandModel_107) rfl rfl rfl hw hS g11 d_MacroExpandModel_ended_11 (fun H locs hw hS => ?_)
    refine lv_aload_n hx hb d_MacroExpandModel_ended_14 rfl (lv_at hl 0 rfl) ?_
    replace hrun := hb_some hrun
    obtain ⟨v15, g15, hrun⟩ := hrun
    refine h_getI S (fun w q => hT w (i_MacroExpandModel w q)) hK (ci := 1) rfl 21 (by decide) (hT _ fl_MacroExpandModel_113) hw g15 d_MacroExpandModel_ended_15 ?_
    refine lv_ineg hx hb d_MacroExpandModel_ended_18 ?_
    cases hrun
    exact W.iret hx hb hr (fun t ht hW9 => ⟨⟨_, (), rfl, rfl, by show hW D dA classes b0 _ _ t.heap; rw [ht]; exact hw⟩, hS.F ht⟩) hS.2.2 d_MacroExpandModel_ended_19
  · rw [if_pos c4] at hrun
    refine lv_iload_n hx hb d_MacroExpandModel_ended_7 rfl (lv_at hl 1 rfl) ?_
    cases hrun
    exact W.iret hx hb hr (fun t ht hW9 => ⟨⟨_, (), rfl, rfl, by show hW D dA classes b0 _ _ t.heap; rw [ht]; exact hw⟩, hS.F ht⟩) hS.2.2 d_MacroExpandModel_ended_8
set_option maxHeartbeats 4000000 in
set_option maxRecDepth 100000 in
theorem c_MacroExpandModel_expand (l : Launch) (D : va_G) (dA : Nat → ClassId) (b0 : Nat) (n : Nat) (a0 : Nat) (i1 : Int32) (nx : Nat) {h h' : hH} {r : Int32} (hrun : f_MacroExpandModel_expand n a0 i1 h = some (r, h')) : Met l y_MacroExpandModel_expand w_MacroExpandModel_expand ({ frames := 11, cells := 0, slots := 0, locals := 269 } : Room) (va_Pc [.ref a0, .int i1] (hB D dA b0 nx h)) (va_Qi (fun r' (_ : Unit) => r' = r) (fun (_ : Unit) t => hW D dA classes b0 nx h' t.heap) (hA b0)) 0 0 (hA b0) := by
  refine Met.ofW (cc := b_MacroExpandModel_expand) (maxL := 3) (ret := (some .int)) (by decide) rfl ?_
  intro p e s m args below meth c s₁ B hml hv
  obtain ⟨rfl, hw, hK, hN⟩ := hv
  have hx := B.exec
  have hb := B.bytes
  have hr := B.returns
  have hlocks := B.notSynchronized
  have S : CallFix p m c b_MacroExpandModel_expand 3 s ([.ref a0, .int i1] : List Value).toArray w_MacroExpandModel_expand R_MacroExpandModel := ⟨hx, hb, hml, findClass_of_methodNamed B.named, atoms_spec (ws := w_MacroExpandModel_expand) B.pre⟩
  have hT : ∀ w ∈ tbl, w ∈ w_MacroExpandModel_expand := fun _ q => List.mem_cons_of_mem _ q
  have hS : va_S (hA b0) s.heap s.heap [] := va_S.rf
  have hl := lv_entry ([.ref a0, .int i1]) (n := 3) (Nat.le_of_ble_eq_true rfl)
  rw [lg_entry_eq]
  generalize (lg_sl ([.ref a0, .int i1]) ++ List.replicate (3 - (lg_sl ([.ref a0, .int i1])).length) Slot.unset).toArray = ls at hl ⊢
  have hl : lv_has ls 3 [(0, .ref a0), (1, .int i1)] := hl
  have j_112 : ∀   (h : hH) (H : Heap) (locs : List Loc) (ls : Array Slot), f_MacroExpandModel_expand_j112 n a0 h = some (r, h') → hW D dA classes b0 nx h H → va_S (hA b0) s.heap H locs → lv_has ls 3 [(0, .ref a0)] → W p l e (headSpec w_MacroExpandModel_expand ({ frames := 11, cells := 0, slots := 0, locals := 269 } : Room)).room s m ([.ref a0, .int i1] : List Value).toArray below meth c H locs 0 0 (MQ below (va_Qi (fun r' (_ : Unit) => r' = r) (fun (_ : Unit) t => hW D dA classes b0 nx h' t.heap) (hA b0)) ([.ref a0, .int i1] : List Value).toArray s 0 0 (hA b0)) (F0 m 112 ls []) := by
    intro h H locs ls hrun hw hS hl
    unfold f_MacroExpandModel_expand_j112 at hrun
    refine lv_aload_n hx hb d_MacroExpandModel_expand_112 rfl (lv_at hl 0 rfl) ?_
    refine lv_aload_n hx hb d_MacroExpandModel_expand_113 rfl (lv_at hl 0 rfl) ?_
    replace hrun := hb_some hrun
    obtain ⟨v114, g114, hrun⟩ := hrun
    refine h_getI S (fun w q => hT w (i_MacroExpandModel w q)) hK (ci := 1) rfl 4 (by decide) (hT _ fl_MacroExpandModel_214) hw g114 d_MacroExpandModel_expand_114 ?_
    replace hrun := hb_some hrun
    obtain ⟨c117, k117, hrun⟩ := hrun
    replace hrun := hbW_some hrun
    obtain ⟨v117, h117, g117, hrun⟩ := hrun
    refine h_ci (h_runV S (As := [.int v114]) (rest := []) (c_MacroExpandModel_ended l D dA b0 a0 v114 nx g117) (cwV 1 S.2.2.2.2 (h_good _ (h_in4 ml_MacroExpandModel_220 im_MacroExpandModel_ended se_MacroExpandModel_ended it_MacroExpandModel) cd_MacroExpandModel_ended) rfl rfl rfl (by decide +kernel) ⟨Nat.le_of_ble_eq_true rfl, Nat.le_of_ble_eq_true rfl⟩) hK hN hw (ci := 1) rfl k117 rfl hl.1 (lv_room (Nat.le_of_ble_eq_true rfl)) d_MacroExpandModel_expand_117 ⟨Nat.le_refl _, Nat.le_refl _⟩) hS (fun H locs hw hS => ?_)
    cases hrun
    exact W.iret hx hb hr (fun t ht hW9 => ⟨⟨_, (), rfl, rfl, by show hW D dA classes b0 _ _ t.heap; rw [ht]; exact hw⟩, hS.F ht⟩) hS.2.2 d_MacroExpandModel_expand_120
  have l_42 : ∀ (n9 : Nat) (x9 : Unit) (h : hH) (b9 : (Unit)) (h9 : hH) (H : Heap) (locs : List Loc) (ls : Array Slot), hloopW (f_MacroExpandModel_expand_b42 n a0) n9 x9 h = some (b9, h9) → hW D dA classes b0 nx h H → va_S (hA b0) s.heap H locs → lv_has ls 3 (match x9 with | _ => [(0, .ref a0)]) → (b9 = () → ∀ (H : Heap) (locs : List Loc) (ls : Array Slot), hW D dA classes b0 nx h9 H → va_S (hA b0) s.heap H locs → lv_has ls 3 [(0, .ref a0)] → W p l e (headSpec w_MacroExpandModel_expand ({ frames := 11, cells := 0, slots := 0, locals := 269 } : Room)).room s m ([.ref a0, .int i1] : List Value).toArray below meth c H locs 0 0 (MQ below (va_Qi (fun r' (_ : Unit) => r' = r) (fun (_ : Unit) t => hW D dA classes b0 nx h' t.heap) (hA b0)) ([.ref a0, .int i1] : List Value).toArray s 0 0 (hA b0)) (F0 m 93 ls [])) → W p l e (headSpec w_MacroExpandModel_expand ({ frames := 11, cells := 0, slots := 0, locals := 269 } : Room)).room s m ([.ref a0, .int i1] : List Value).toArray below meth c H locs 0 0 (MQ below (va_Qi (fun r' (_ : Unit) => r' = r) (fun (_ : Unit) t => hW D dA classes b0 nx h' t.heap) (hA b0)) ([.ref a0, .int i1] : List Value).toArray s 0 0 (hA b0)) (F0 m 42 ls []) := by
    intro  n9
    induction n9 with
    | zero =>
      intro x9 h b9 h9 H locs ls hrun
      cases hrun
    | succ n9 ih =>
      rintro ⟨⟩ h b9 h9 H locs ls hrun hw hS hl k0
      have hl : lv_has ls 3 [(0, .ref a0)] := hl
      unfold hloopW at hrun
      obtain ⟨q9, h9b, hbody, hrun9⟩ := hbW_some hrun
      have K0 : (q9 = .inl () → ∀ (H : Heap) (locs : List Loc) (ls : Array Slot), hW D dA classes b0 nx h9b H → va_S (hA b0) s.heap H locs → lv_has ls 3 [(0, .ref a0)] → W p l e (headSpec w_MacroExpandModel_expand ({ frames := 11, cells := 0, slots := 0, locals := 269 } : Room)).room s m ([.ref a0, .int i1] : List Value).toArray below meth c H locs 0 0 (MQ below (va_Qi (fun r' (_ : Unit) => r' = r) (fun (_ : Unit) t => hW D dA classes b0 nx h' t.heap) (hA b0)) ([.ref a0, .int i1] : List Value).toArray s 0 0 (hA b0)) (F0 m 42 ls [])) := by
        intro  eq9 H locs ls hw hS hl
        subst eq9
        exact ih () h9b b9 h9 H locs ls hrun9 hw hS hl k0
      have K1 : (q9 = .inr () → ∀ (H : Heap) (locs : List Loc) (ls : Array Slot), hW D dA classes b0 nx h9b H → va_S (hA b0) s.heap H locs → lv_has ls 3 [(0, .ref a0)] → W p l e (headSpec w_MacroExpandModel_expand ({ frames := 11, cells := 0, slots := 0, locals := 269 } : Room)).room s m ([.ref a0, .int i1] : List Value).toArray below meth c H locs 0 0 (MQ below (va_Qi (fun r' (_ : Unit) => r' = r) (fun (_ : Unit) t => hW D dA classes b0 nx h' t.heap) (hA b0)) ([.ref a0, .int i1] : List Value).toArray s 0 0 (hA b0)) (F0 m 93 ls [])) := by
        intro  eq9 H locs ls hw hS hl
        subst eq9
        cases hrun9
        exact k0  rfl H locs ls hw hS hl
      clear hrun hrun9 ih k0
      have hrun := hbody
      clear hbody
      have j_90 : ∀   (q9 : (Unit) ⊕ ((Unit))) (h9 : hH) (h : hH) (H : Heap) (locs : List Loc) (ls : Array Slot), f_MacroExpandModel_expand_j90 n a0 h = some (q9, h9) → hW D dA classes b0 nx h H → va_S (hA b0) s.heap H locs → lv_has ls 3 [(0, .ref a0)] → (q9 = .inl () → ∀ (H : Heap) (locs : List Loc) (ls : Array Slot), hW D dA classes b0 nx h9 H → va_S (hA b0) s.heap H locs → lv_has ls 3 [(0, .ref a0)] → W p l e (headSpec w_MacroExpandModel_expand ({ frames := 11, cells := 0, slots := 0, locals := 269 } : Room)).room s m ([.ref a0, .int i1] : List Value).toArray below meth c H locs 0 0 (MQ below (va_Qi (fun r' (_ : Unit) => r' = r) (fun (_ : Unit) t => hW D dA classes b0 nx h' t.heap) (hA b0)) ([.ref a0, .int i1] : List Value).toArray s 0 0 (hA b0)) (F0 m 42 ls [])) → (q9 = .inr () → ∀ (H : Heap) (locs : List Loc) (ls : Array Slot), hW D dA classes b0 nx h9 H → va_S (hA b0) s.heap H locs → lv_has ls 3 [(0, .ref a0)] → W p l e (headSpec w_MacroExpandModel_expand ({ frames := 11, cells := 0, slots := 0, locals := 269 } : Room)).room s m ([.ref a0, .int i1] : List Value).toArray below meth c H locs 0 0 (MQ below (va_Qi (fun r' (_ : Unit) => r' = r) (fun (_ : Unit) t => hW D dA classes b0 nx h' t.heap) (hA b0)) ([.ref a0, .int i1] : List Value).toArray s 0 0 (hA b0)) (F0 m 93 ls [])) → W p l e (headSpec w_MacroExpandModel_expand ({ frames := 11, cells := 0, slots := 0, locals := 269 } : Room)).room s m ([.ref a0, .int i1] : List Value).toArray below meth c H locs 0 0 (MQ below (va_Qi (fun r' (_ : Unit) => r' = r) (fun (_ : Unit) t => hW D dA classes b0 nx h' t.heap) (hA b0)) ([.ref a0, .int i1] : List Value).toArray s 0 0 (hA b0)) (F0 m 90 ls []) := by
        intro q9 h9 h H locs ls hrun hw hS hl k0 k1
        unfold f_MacroExpandModel_expand_j90 at hrun
        refine lv_goto (tgt := 42) hx hb d_MacroExpandModel_expand_90 (by decide) ?_
        cases hrun
        exact k0  rfl H locs ls hw hS (lv_sub hl [0] rfl)
      have j_86 : ∀   (q9 : (Unit) ⊕ ((Unit))) (h9 : hH) (h : hH) (H : Heap) (locs : List Loc) (ls : Array Slot), f_MacroExpandModel_expand_j86 n a0 h = some (q9, h9) → hW D dA classes b0 nx h H → va_S (hA b0) s.heap H locs → lv_has ls 3 [(0, .ref a0)] → (q9 = .inl () → ∀ (H : Heap) (locs : List Loc) (ls : Array Slot), hW D dA classes b0 nx h9 H → va_S (hA b0) s.heap H locs → lv_has ls 3 [(0, .ref a0)] → W p l e (headSpec w_MacroExpandModel_expand ({ frames := 11, cells := 0, slots := 0, locals := 269 } : Room)).room s m ([.ref a0, .int i1] : List Value).toArray below meth c H locs 0 0 (MQ below (va_Qi (fun r' (_ : Unit) => r' = r) (fun (_ : Unit) t => hW D dA classes b0 nx h' t.heap) (hA b0)) ([.ref a0, .int i1] : List Value).toArray s 0 0 (hA b0)) (F0 m 42 ls [])) → (q9 = .inr () → ∀ (H : Heap) (locs : List Loc) (ls : Array Slot), hW D dA classes b0 nx h9 H → va_S (hA b0) s.heap H locs → lv_has ls 3 [(0, .ref a0)] → W p l e (headSpec w_MacroExpandModel_expand ({ frames := 11, cells := 0, slots := 0, locals := 269 } : Room)).room s m ([.ref a0, .int i1] : List Value).toArray below meth c H locs 0 0 (MQ below (va_Qi (fun r' (_ : Unit) => r' = r) (fun (_ : Unit) t => hW D dA classes b0 nx h' t.heap) (hA b0)) ([.ref a0, .int i1] : List Value).toArray s 0 0 (hA b0)) (F0 m 93 ls [])) → W p l e (headSpec w_MacroExpandModel_expand ({ frames := 11, cells := 0, slots := 0, locals := 269 } : Room)).room s m ([.ref a0, .int i1] : List Value).toArray below meth c H locs 0 0 (MQ below (va_Qi (fun r' (_ : Unit) => r' = r) (fun (_ : Unit) t => hW D dA classes b0 nx h' t.heap) (hA b0)) ([.ref a0, .int i1] : List Value).toArray s 0 0 (hA b0)) (F0 m 86 ls []) := by
        intro q9 h9 h H locs ls hrun hw hS hl k0 k1
        unfold f_MacroExpandModel_expand_j86 at hrun
        refine lv_aload_n hx hb d_MacroExpandModel_expand_86 rfl (lv_at hl 0 rfl) ?_
        replace hrun := hb_some hrun
        obtain ⟨c87, k87, hrun⟩ := hrun
        replace hrun := hbW_some hrun
        obtain ⟨_u87, h87, g87, hrun⟩ := hrun
        refine h_cv (h_runV S (As := []) (rest := []) (c_MacroExpandModel_carryOut l D dA b0 n a0 nx g87) (cwV 0 S.2.2.2.2 (h_good _ (h_in4 ml_MacroExpandModel_223 im_MacroExpandModel_carryOut se_MacroExpandModel_carryOut it_MacroExpandModel) cd_MacroExpandModel_carryOut) rfl rfl rfl (by decide +kernel) ⟨Nat.le_of_ble_eq_true rfl, Nat.le_of_ble_eq_true rfl⟩) hK hN hw (ci := 1) rfl k87 rfl hl.1 (lv_room (Nat.le_of_ble_eq_true rfl)) d_MacroExpandModel_expand_87 ⟨Nat.le_refl _, Nat.le_refl _⟩) hS (fun H locs hw hS => ?_)
        exact j_90 _ _ h87 _ _ _ hrun hw hS (lv_sub hl [0] rfl) k0 k1
      dsimp only [f_MacroExpandModel_expand_b42] at hrun
      refine lv_aload_n hx hb d_MacroExpandModel_expand_42 rfl (lv_at hl 0 rfl) ?_
      replace hrun := hb_some hrun
      obtain ⟨v43, g43, hrun⟩ := hrun
      refine h_getI S (fun w q => hT w (i_MacroExpandModel w q)) hK (ci := 1) rfl 3 (by decide) (hT _ fl_MacroExpandModel_107) hw g43 d_MacroExpandModel_expand_43 ?_
      refine lv_if_le (tgt := 93) hx hb d_MacroExpandModel_expand_46 (by decide) (fun c46 => ?_) (fun c46 => ?_)
      · rw [if_pos c46] at hrun
        cases hrun
        exact K1  rfl H locs ls hw hS (lv_sub hl [0] rfl)
      · rw [if_neg c46] at hrun
        refine lv_aload_n hx hb d_MacroExpandModel_expand_49 rfl (lv_at hl 0 rfl) ?_
        replace hrun := hb_some hrun
        obtain ⟨v50, g50, hrun⟩ := hrun
        refine h_getI S (fun w q => hT w (i_MacroExpandModel w q)) hK (ci := 1) rfl 21 (by decide) (hT _ fl_MacroExpandModel_113) hw g50 d_MacroExpandModel_expand_50 ?_
        refine lv_if_ne (tgt := 93) hx hb d_MacroExpandModel_expand_53 (by decide) (fun c53 => ?_) (fun c53 => ?_)
        · rw [if_neg c53] at hrun
          cases hrun
          exact K1  rfl H locs ls hw hS (lv_sub hl [0] rfl)
        · rw [if_pos c53] at hrun
          refine lv_aload_n hx hb d_MacroExpandModel_expand_56 rfl (lv_at hl 0 rfl) ?_
          replace hrun := hb_some hrun
          obtain ⟨v57, g57, hrun⟩ := hrun
          refine h_getI S (fun w q => hT w (i_MacroExpandModel w q)) hK (ci := 1) rfl 24 (by decide) (hT _ fl_MacroExpandModel_178) hw g57 d_MacroExpandModel_expand_57 ?_
          refine lv_istore_n (lv' := [(2, .int v57), (0, .ref a0)]) hx hb d_MacroExpandModel_expand_60 rfl hl (by decide) rfl (fun ls hl => ?_)
          refine lv_aload_n hx hb d_MacroExpandModel_expand_61 rfl (lv_at hl 1 rfl) ?_
          refine lv_iconst (v := (0 : Int32)) hx hb d_MacroExpandModel_expand_62 (by decide) ?_
          replace hrun := hb_some hrun
          obtain ⟨h63, g63, hrun⟩ := hrun
          obtain ⟨n63, f63, g63⟩ := hpZ_spec g63
          refine h_put S (fun w q => hT w (i_MacroExpandModel w q)) t_MacroExpandModel t_MacroExpandModel_ok n_MacroExpandModel hK (ci := 1) rfl 24 (by decide) (hT _ fl_MacroExpandModel_178) rfl n63 f63 hw hS g63 d_MacroExpandModel_expand_63 (fun H locs hw hS => ?_)
          refine lv_iload_n hx hb d_MacroExpandModel_expand_66 rfl (lv_at hl 0 rfl) ?_
          refine lv_if_ne (tgt := 86) hx hb d_MacroExpandModel_expand_67 (by decide) (fun c67 => ?_) (fun c67 => ?_)
          · rw [if_neg c67] at hrun
            exact j_86 _ _ h63 _ _ _ hrun hw hS (lv_sub hl [1] rfl) K0 K1
          · rw [if_pos c67] at hrun
            refine lv_aload_n hx hb d_MacroExpandModel_expand_70 rfl (lv_at hl 1 rfl) ?_
            refine lv_iconst (v := (0 : Int32)) hx hb d_MacroExpandModel_expand_71 (by decide) ?_
            replace hrun := hb_some hrun
            obtain ⟨c72, k72, hrun⟩ := hrun
            replace hrun := hb_some hrun
            obtain ⟨v72, g72, hrun⟩ := hrun
            refine h_ci (h_runV S (As := [.int (0 : Int32)]) (rest := []) (c_MacroExpandModel_canBeExpanded l D dA b0 a0 (0 : Int32) nx g72) (cwV 1 S.2.2.2.2 (h_good _ (h_in4 ml_MacroExpandModel_182 im_MacroExpandModel_canBeExpanded se_MacroExpandModel_canBeExpanded it_MacroExpandModel) cd_MacroExpandModel_canBeExpanded) rfl rfl rfl (by decide +kernel) ⟨Nat.le_of_ble_eq_true rfl, Nat.le_of_ble_eq_true rfl⟩) hK hN hw (ci := 1) rfl k72 rfl hl.1 (lv_room (Nat.le_of_ble_eq_true rfl)) d_MacroExpandModel_expand_72 ⟨Nat.le_refl _, Nat.le_refl _⟩) hS (fun H locs hw hS => ?_)
            refine lv_if_eq (tgt := 86) hx hb d_MacroExpandModel_expand_75 (by decide) (fun c75 => ?_) (fun c75 => ?_)
            · rw [if_pos c75] at hrun
              exact j_86 _ _ h63 _ _ _ hrun hw hS (lv_sub hl [1] rfl) K0 K1
            · rw [if_neg c75] at hrun
              refine lv_aload_n hx hb d_MacroExpandModel_expand_78 rfl (lv_at hl 1 rfl) ?_
              refine lv_iconst (v := (0 : Int32)) hx hb d_MacroExpandModel_expand_79 (by decide) ?_
              replace hrun := hb_some hrun
              obtain ⟨c80, k80, hrun⟩ := hrun
              replace hrun := hbW_some hrun
              obtain ⟨_u80, h80, g80, hrun⟩ := hrun
              refine h_cv (h_runV S (As := [.int (0 : Int32)]) (rest := []) (c_MacroExpandModel_expandAt l D dA b0 n a0 (0 : Int32) nx g80) (cwV 1 S.2.2.2.2 (h_good _ (h_in4 ml_MacroExpandModel_207 im_MacroExpandModel_expandAt se_MacroExpandModel_expandAt it_MacroExpandModel) cd_MacroExpandModel_expandAt) rfl rfl rfl (by decide +kernel) ⟨Nat.le_of_ble_eq_true rfl, Nat.le_of_ble_eq_true rfl⟩) hK hN hw (ci := 1) rfl k80 rfl hl.1 (lv_room (Nat.le_of_ble_eq_true rfl)) d_MacroExpandModel_expand_80 ⟨Nat.le_refl _, Nat.le_refl _⟩) hS (fun H locs hw hS => ?_)
              refine lv_goto (tgt := 90) hx hb d_MacroExpandModel_expand_83 (by decide) ?_
              exact j_90 _ _ h80 _ _ _ hrun hw hS (lv_sub hl [1] rfl) K0 K1
  have j_28 : ∀   (h : hH) (H : Heap) (locs : List Loc) (ls : Array Slot), f_MacroExpandModel_expand_j28 n a0 h = some (r, h') → hW D dA classes b0 nx h H → va_S (hA b0) s.heap H locs → lv_has ls 3 [(0, .ref a0)] → W p l e (headSpec w_MacroExpandModel_expand ({ frames := 11, cells := 0, slots := 0, locals := 269 } : Room)).room s m ([.ref a0, .int i1] : List Value).toArray below meth c H locs 0 0 (MQ below (va_Qi (fun r' (_ : Unit) => r' = r) (fun (_ : Unit) t => hW D dA classes b0 nx h' t.heap) (hA b0)) ([.ref a0, .int i1] : List Value).toArray s 0 0 (hA b0)) (F0 m 28 ls []) := by
    intro h H locs ls hrun hw hS hl
    unfold f_MacroExpandModel_expand_j28 at hrun
    refine lv_aload_n hx hb d_MacroExpandModel_expand_28 rfl (lv_at hl 0 rfl) ?_
    refine lv_aload_n hx hb d_MacroExpandModel_expand_29 rfl (lv_at hl 0 rfl) ?_
    replace hrun := hb_some hrun
    obtain ⟨v30, g30, hrun⟩ := hrun
    refine h_getI S (fun w q => hT w (i_MacroExpandModel w q)) hK (ci := 1) rfl 3 (by decide) (hT _ fl_MacroExpandModel_107) hw g30 d_MacroExpandModel_expand_30 ?_
    replace hrun := hb_some hrun
    obtain ⟨c33, k33, hrun⟩ := hrun
    replace hrun := hbW_some hrun
    obtain ⟨v33, h33, g33, hrun⟩ := hrun
    refine h_ci (h_runV S (As := [.int v30]) (rest := []) (c_MacroExpandModel_ended l D dA b0 a0 v30 nx g33) (cwV 1 S.2.2.2.2 (h_good _ (h_in4 ml_MacroExpandModel_220 im_MacroExpandModel_ended se_MacroExpandModel_ended it_MacroExpandModel) cd_MacroExpandModel_ended) rfl rfl rfl (by decide +kernel) ⟨Nat.le_of_ble_eq_true rfl, Nat.le_of_ble_eq_true rfl⟩) hK hN hw (ci := 1) rfl k33 rfl hl.1 (lv_room (Nat.le_of_ble_eq_true rfl)) d_MacroExpandModel_expand_33 ⟨Nat.le_refl _, Nat.le_refl _⟩) hS (fun H locs hw hS => ?_)
    cases hrun
    exact W.iret hx hb hr (fun t ht hW9 => ⟨⟨_, (), rfl, rfl, by show hW D dA classes b0 _ _ t.heap; rw [ht]; exact hw⟩, hS.F ht⟩) hS.2.2 d_MacroExpandModel_expand_36
  unfold f_MacroExpandModel_expand at hrun
  refine lv_aload_n hx hb d_MacroExpandModel_expand_0 rfl (lv_at hl 0 rfl) ?_
  replace hrun := hb_some hrun
  obtain ⟨c1, k1, hrun⟩ := hrun
  replace hrun := hbW_some hrun
  obtain ⟨_u1, h1, g1, hrun⟩ := hrun
  refine h_cv (h_runV S (As := []) (rest := []) (c_MacroExpandModel_begin l D dA b0 a0 nx g1) (cwV 0 S.2.2.2.2 (h_good _ (h_in4 ml_MacroExpandModel_217 im_MacroExpandModel_begin se_MacroExpandModel_begin it_MacroExpandModel) cd_MacroExpandModel_begin) rfl rfl rfl (by decide +kernel) ⟨Nat.le_of_ble_eq_true rfl, Nat.le_of_ble_eq_true rfl⟩) hK hN hw (ci := 1) rfl k1 rfl hl.1 (lv_room (Nat.le_of_ble_eq_true rfl)) d_MacroExpandModel_expand_1 ⟨Nat.le_refl _, Nat.le_refl _⟩) hS (fun H locs hw hS => ?_)
  refine lv_iload_n hx hb d_MacroExpandModel_expand_4 rfl (lv_at hl 1 rfl) ?_
  refine lv_if_ne (tgt := 37) hx hb d_MacroExpandModel_expand_5 (by decide) (fun c5 => ?_) (fun c5 => ?_)
  · rw [if_neg c5] at hrun
    refine lv_aload_n hx hb d_MacroExpandModel_expand_37 rfl (lv_at hl 0 rfl) ?_
    refine lv_iconst (v := (0 : Int32)) hx hb d_MacroExpandModel_expand_38 (by decide) ?_
    replace hrun := hb_some hrun
    obtain ⟨h39, g39, hrun⟩ := hrun
    refine h_put S (fun w q => hT w (i_MacroExpandModel w q)) t_MacroExpandModel t_MacroExpandModel_ok n_MacroExpandModel hK (ci := 1) rfl 4 (by decide) (hT _ fl_MacroExpandModel_214) rfl rfl rfl hw hS g39 d_MacroExpandModel_expand_39 (fun H locs hw hS => ?_)
    replace hrun := hbW_some hrun
    obtain ⟨b42, h42l, g42, hrun⟩ := hrun
    refine l_42 n () h39 _ _ _ _ _ g42 hw hS (lv_sub hl [0] rfl) ?_
    · rintro  eq9 H locs ls hw hS hl
      obtain rfl := eq9.symm
      try dsimp only at hrun
      refine lv_aload_n hx hb d_MacroExpandModel_expand_93 rfl (lv_at hl 0 rfl) ?_
      replace hrun := hb_some hrun
      obtain ⟨v94, g94, hrun⟩ := hrun
      refine h_getI S (fun w q => hT w (i_MacroExpandModel w q)) hK (ci := 1) rfl 21 (by decide) (hT _ fl_MacroExpandModel_113) hw g94 d_MacroExpandModel_expand_94 ?_
      refine lv_if_ne (tgt := 112) hx hb d_MacroExpandModel_expand_97 (by decide) (fun c97 => ?_) (fun c97 => ?_)
      · rw [if_neg c97] at hrun
        exact j_112 h42l _ _ _ hrun hw hS (lv_sub hl [0] rfl)
      · rw [if_pos c97] at hrun
        refine lv_aload_n hx hb d_MacroExpandModel_expand_100 rfl (lv_at hl 0 rfl) ?_
        replace hrun := hb_some hrun
        obtain ⟨v101, g101, hrun⟩ := hrun
        refine h_getI S (fun w q => hT w (i_MacroExpandModel w q)) hK (ci := 1) rfl 32 (by decide) (hT _ fl_MacroExpandModel_201) hw g101 d_MacroExpandModel_expand_101 ?_
        refine lv_if_eq (tgt := 112) hx hb d_MacroExpandModel_expand_104 (by decide) (fun c104 => ?_) (fun c104 => ?_)
        · rw [if_pos c104] at hrun
          exact j_112 h42l _ _ _ hrun hw hS (lv_sub hl [0] rfl)
        · rw [if_neg c104] at hrun
          refine lv_aload_n hx hb d_MacroExpandModel_expand_107 rfl (lv_at hl 0 rfl) ?_
          refine lv_iconst (v := (1 : Int32)) hx hb d_MacroExpandModel_expand_108 (by decide) ?_
          replace hrun := hb_some hrun
          obtain ⟨c109, k109, hrun⟩ := hrun
          replace hrun := hbW_some hrun
          obtain ⟨_u109, h109, g109, hrun⟩ := hrun
          refine h_cv (h_runV S (As := [.int (1 : Int32)]) (rest := []) (c_MacroExpandModel_mark l D dA b0 a0 (1 : Int32) nx g109) (cwV 1 S.2.2.2.2 (h_good _ (h_in4 ml_MacroExpandModel_123 im_MacroExpandModel_mark se_MacroExpandModel_mark it_MacroExpandModel) cd_MacroExpandModel_mark) rfl rfl rfl (by decide +kernel) ⟨Nat.le_of_ble_eq_true rfl, Nat.le_of_ble_eq_true rfl⟩) hK hN hw (ci := 1) rfl k109 rfl hl.1 (lv_room (Nat.le_of_ble_eq_true rfl)) d_MacroExpandModel_expand_109 ⟨Nat.le_refl _, Nat.le_refl _⟩) hS (fun H locs hw hS => ?_)
          exact j_112 h109 _ _ _ hrun hw hS (lv_sub hl [0] rfl)
  · rw [if_pos c5] at hrun
    refine lv_aload_n hx hb d_MacroExpandModel_expand_8 rfl (lv_at hl 0 rfl) ?_
    replace hrun := hb_some hrun
    obtain ⟨v9, g9, hrun⟩ := hrun
    refine h_getI S (fun w q => hT w (i_MacroExpandModel w q)) hK (ci := 1) rfl 3 (by decide) (hT _ fl_MacroExpandModel_107) hw g9 d_MacroExpandModel_expand_9 ?_
    refine lv_if_le (tgt := 28) hx hb d_MacroExpandModel_expand_12 (by decide) (fun c12 => ?_) (fun c12 => ?_)
    · rw [if_pos c12] at hrun
      exact j_28 h1 _ _ _ hrun hw hS (lv_sub hl [0] rfl)
    · rw [if_neg c12] at hrun
      refine lv_aload_n hx hb d_MacroExpandModel_expand_15 rfl (lv_at hl 0 rfl) ?_
      refine lv_iconst (v := (0 : Int32)) hx hb d_MacroExpandModel_expand_16 (by decide) ?_
      replace hrun := hb_some hrun
      obtain ⟨c17, k17, hrun⟩ := hrun
      replace hrun := hb_some hrun
      obtain ⟨v17, g17, hrun⟩ := hrun
      refine h_ci (h_runV S (As := [.int (0 : Int32)]) (rest := []) (c_MacroExpandModel_canBeExpanded l D dA b0 a0 (0 : Int32) nx g17) (cwV 1 S.2.2.2.2 (h_good _ (h_in4 ml_MacroExpandModel_182 im_MacroExpandModel_canBeExpanded se_MacroExpandModel_canBeExpanded it_MacroExpandModel) cd_MacroExpandModel_canBeExpanded) rfl rfl rfl (by decide +kernel) ⟨Nat.le_of_ble_eq_true rfl, Nat.le_of_ble_eq_true rfl⟩) hK hN hw (ci := 1) rfl k17 rfl hl.1 (lv_room (Nat.le_of_ble_eq_true rfl)) d_MacroExpandModel_expand_17 ⟨Nat.le_refl _, Nat.le_refl _⟩) hS (fun H locs hw hS => ?_)
      refine lv_if_eq (tgt := 28) hx hb d_MacroExpandModel_expand_20 (by decide) (fun c20 => ?_) (fun c20 => ?_)
      · rw [if_pos c20] at hrun
        exact j_28 h1 _ _ _ hrun hw hS (lv_sub hl [0] rfl)
      · rw [if_neg c20] at hrun
        refine lv_aload_n hx hb d_MacroExpandModel_expand_23 rfl (lv_at hl 0 rfl) ?_
        refine lv_iconst (v := (0 : Int32)) hx hb d_MacroExpandModel_expand_24 (by decide) ?_
        replace hrun := hb_some hrun
        obtain ⟨c25, k25, hrun⟩ := hrun
        replace hrun := hbW_some hrun
        obtain ⟨_u25, h25, g25, hrun⟩ := hrun
        refine h_cv (h_runV S (As := [.int (0 : Int32)]) (rest := []) (c_MacroExpandModel_expandAt l D dA b0 n a0 (0 : Int32) nx g25) (cwV 1 S.2.2.2.2 (h_good _ (h_in4 ml_MacroExpandModel_207 im_MacroExpandModel_expandAt se_MacroExpandModel_expandAt it_MacroExpandModel) cd_MacroExpandModel_expandAt) rfl rfl rfl (by decide +kernel) ⟨Nat.le_of_ble_eq_true rfl, Nat.le_of_ble_eq_true rfl⟩) hK hN hw (ci := 1) rfl k25 rfl hl.1 (lv_room (Nat.le_of_ble_eq_true rfl)) d_MacroExpandModel_expand_25 ⟨Nat.le_refl _, Nat.le_refl _⟩) hS (fun H locs hw hS => ?_)
        exact j_28 h25 _ _ _ hrun hw hS (lv_sub hl [0] rfl)
set_option maxHeartbeats 4000000 in
set_option maxRecDepth 100000 in
theorem c_MacroExpandModel_at (l : Launch) (D : va_G) (dA : Nat → ClassId) (b0 : Nat) (a0 : Nat) (i1 : Int32) (nx : Nat) {h : hH} {r : Int32} (hrun : f_MacroExpandModel_at a0 i1 h = some r) : Met l y_MacroExpandModel_at w_MacroExpandModel_at ({ frames := 1, cells := 0, slots := 0, locals := 22 } : Room) (va_Pc [.ref a0, .int i1] (hB D dA b0 nx h)) (va_Qi (fun r' (_ : Unit) => r' = r) (fun (_ : Unit) t => hW D dA classes b0 nx h t.heap) (hA b0)) 0 0 (hA b0) := by
  refine Met.ofW (cc := b_MacroExpandModel_at) (maxL := 2) (ret := (some .int)) (by decide) rfl ?_
  intro p e s m args below meth c s₁ B hml hv
  obtain ⟨rfl, hw, hK, hN⟩ := hv
  have hx := B.exec
  have hb := B.bytes
  have hr := B.returns
  have hlocks := B.notSynchronized
  have S : CallFix p m c b_MacroExpandModel_at 2 s ([.ref a0, .int i1] : List Value).toArray w_MacroExpandModel_at R_MacroExpandModel := ⟨hx, hb, hml, findClass_of_methodNamed B.named, atoms_spec (ws := w_MacroExpandModel_at) B.pre⟩
  have hT : ∀ w ∈ tbl, w ∈ w_MacroExpandModel_at := fun _ q => List.mem_cons_of_mem _ q
  have hS : va_S (hA b0) s.heap s.heap [] := va_S.rf
  have hl := lv_entry ([.ref a0, .int i1]) (n := 2) (Nat.le_of_ble_eq_true rfl)
  rw [lg_entry_eq]
  generalize (lg_sl ([.ref a0, .int i1]) ++ List.replicate (2 - (lg_sl ([.ref a0, .int i1])).length) Slot.unset).toArray = ls at hl ⊢
  have hl : lv_has ls 2 [(0, .ref a0), (1, .int i1)] := hl
  unfold f_MacroExpandModel_at at hrun
  refine lv_iload_n hx hb d_MacroExpandModel_at_0 rfl (lv_at hl 1 rfl) ?_
  refine lv_iconst (v := (0 : Int32)) hx hb d_MacroExpandModel_at_1 (by decide) ?_
  refine lv_aload_n hx hb d_MacroExpandModel_at_2 rfl (lv_at hl 0 rfl) ?_
  replace hrun := hb_some hrun
  obtain ⟨v3, g3, hrun⟩ := hrun
  refine h_getI S (fun w q => hT w (i_MacroExpandModel w q)) hK (ci := 1) rfl 4 (by decide) (hT _ fl_MacroExpandModel_214) hw g3 d_MacroExpandModel_at_3 ?_
  refine lv_iconst (v := (1 : Int32)) hx hb d_MacroExpandModel_at_6 (by decide) ?_
  refine lv_isub hx hb d_MacroExpandModel_at_7 ?_
  replace hrun := hb_some hrun
  obtain ⟨v8, g8, hrun⟩ := hrun
  refine h_ci (h_runS S (As := [.int i1, .int (0 : Int32), .int (v3 - (1 : Int32))]) (rest := []) (c_MacroExpandModel_in l D dA b0 i1 (0 : Int32) (v3 - (1 : Int32)) nx g8) (va_cwS 3 S.2.2.2.2 (h_good _ (h_in3 ml_MacroExpandModel_83 sm_MacroExpandModel_in it_MacroExpandModel) cd_MacroExpandModel_in) rfl rfl rfl (by decide +kernel) ⟨Nat.le_of_ble_eq_true rfl, Nat.le_of_ble_eq_true rfl⟩) hK hN hw rfl hl.1 (lv_room (Nat.le_of_ble_eq_true rfl)) d_MacroExpandModel_at_8 ⟨Nat.le_refl _, Nat.le_refl _⟩) hS (fun H locs hw hS => ?_)
  refine lv_if_eq (tgt := 23) hx hb d_MacroExpandModel_at_11 (by decide) (fun c11 => ?_) (fun c11 => ?_)
  · rw [if_pos c11] at hrun
    refine lv_iconst (v := (-1 : Int32)) hx hb d_MacroExpandModel_at_23 (by decide) ?_
    cases hrun
    exact W.iret hx hb hr (fun t ht hW9 => ⟨⟨_, (), rfl, rfl, by show hW D dA classes b0 _ _ t.heap; rw [ht]; exact hw⟩, hS.F ht⟩) hS.2.2 d_MacroExpandModel_at_24
  · rw [if_neg c11] at hrun
    refine lv_aload_n hx hb d_MacroExpandModel_at_14 rfl (lv_at hl 0 rfl) ?_
    replace hrun := hb_some hrun
    obtain ⟨v15, g15, hrun⟩ := hrun
    refine h_getR S (fun w q => hT w (i_MacroExpandModel w q)) hK (ci := 1) rfl 5 (by decide) (hT _ fl_MacroExpandModel_13) hw g15 d_MacroExpandModel_at_15 ?_
    refine lv_iload_n hx hb d_MacroExpandModel_at_18 rfl (lv_at hl 1 rfl) ?_
    replace hrun := hb_some hrun
    obtain ⟨p19, rfl, hrun⟩ := hrun
    replace hrun := hb_some hrun
    obtain ⟨v19, g19, hrun⟩ := hrun
    refine h_iald S hK (kd := 0) rfl hw g19 d_MacroExpandModel_at_19 ?_
    refine lv_goto (tgt := 24) hx hb d_MacroExpandModel_at_20 (by decide) ?_
    cases hrun
    exact W.iret hx hb hr (fun t ht hW9 => ⟨⟨_, (), rfl, rfl, by show hW D dA classes b0 _ _ t.heap; rw [ht]; exact hw⟩, hS.F ht⟩) hS.2.2 d_MacroExpandModel_at_24
set_option maxHeartbeats 4000000 in
set_option maxRecDepth 100000 in
theorem c_MacroExpandModel_fault (l : Launch) (D : va_G) (dA : Nat → ClassId) (b0 : Nat) (a0 : Nat) (i1 : Int32) (nx : Nat) {h : hH} {r : Int32} (hrun : f_MacroExpandModel_fault a0 i1 h = some r) : Met l y_MacroExpandModel_fault w_MacroExpandModel_fault ({ frames := 0, cells := 0, slots := 0, locals := 0 } : Room) (va_Pc [.ref a0, .int i1] (hB D dA b0 nx h)) (va_Qi (fun r' (_ : Unit) => r' = r) (fun (_ : Unit) t => hW D dA classes b0 nx h t.heap) (hA b0)) 0 0 (hA b0) := by
  refine Met.ofW (cc := b_MacroExpandModel_fault) (maxL := 2) (ret := (some .int)) (by decide) rfl ?_
  intro p e s m args below meth c s₁ B hml hv
  obtain ⟨rfl, hw, hK, hN⟩ := hv
  have hx := B.exec
  have hb := B.bytes
  have hr := B.returns
  have hlocks := B.notSynchronized
  have S : CallFix p m c b_MacroExpandModel_fault 2 s ([.ref a0, .int i1] : List Value).toArray w_MacroExpandModel_fault R_MacroExpandModel := ⟨hx, hb, hml, findClass_of_methodNamed B.named, atoms_spec (ws := w_MacroExpandModel_fault) B.pre⟩
  have hT : ∀ w ∈ tbl, w ∈ w_MacroExpandModel_fault := fun _ q => List.mem_cons_of_mem _ q
  have hS : va_S (hA b0) s.heap s.heap [] := va_S.rf
  have hl := lv_entry ([.ref a0, .int i1]) (n := 2) (Nat.le_of_ble_eq_true rfl)
  rw [lg_entry_eq]
  generalize (lg_sl ([.ref a0, .int i1]) ++ List.replicate (2 - (lg_sl ([.ref a0, .int i1])).length) Slot.unset).toArray = ls at hl ⊢
  have hl : lv_has ls 2 [(0, .ref a0), (1, .int i1)] := hl
  unfold f_MacroExpandModel_fault at hrun
  refine lv_iload_n hx hb d_MacroExpandModel_fault_0 rfl (lv_at hl 1 rfl) ?_
  refine lv_if_ne (tgt := 11) hx hb d_MacroExpandModel_fault_1 (by decide) (fun c1 => ?_) (fun c1 => ?_)
  · rw [if_neg c1] at hrun
    refine lv_iload_n hx hb d_MacroExpandModel_fault_11 rfl (lv_at hl 1 rfl) ?_
    refine lv_iconst (v := (1 : Int32)) hx hb d_MacroExpandModel_fault_12 (by decide) ?_
    refine lv_icmp_ne (tgt := 34) hx hb d_MacroExpandModel_fault_13 (by decide) (fun c13 => ?_) (fun c13 => ?_)
    · rw [if_neg c13] at hrun
      refine lv_iload_n hx hb d_MacroExpandModel_fault_34 rfl (lv_at hl 1 rfl) ?_
      refine lv_iconst (v := (2 : Int32)) hx hb d_MacroExpandModel_fault_35 (by decide) ?_
      refine lv_icmp_ne (tgt := 46) hx hb d_MacroExpandModel_fault_36 (by decide) (fun c36 => ?_) (fun c36 => ?_)
      · rw [if_neg c36] at hrun
        refine lv_bipush (v := (-2 : Int32)) hx hb d_MacroExpandModel_fault_46 (by decide) ?_
        cases hrun
        exact W.iret hx hb hr (fun t ht hW9 => ⟨⟨_, (), rfl, rfl, by show hW D dA classes b0 _ _ t.heap; rw [ht]; exact hw⟩, hS.F ht⟩) hS.2.2 d_MacroExpandModel_fault_48
      · rw [if_pos c36] at hrun
        refine lv_aload_n hx hb d_MacroExpandModel_fault_39 rfl (lv_at hl 0 rfl) ?_
        replace hrun := hb_some hrun
        obtain ⟨v40, g40, hrun⟩ := hrun
        refine h_getI S (fun w q => hT w (i_MacroExpandModel w q)) hK (ci := 1) rfl 23 (by decide) (hT _ fl_MacroExpandModel_175) hw g40 d_MacroExpandModel_fault_40 ?_
        refine lv_goto (tgt := 48) hx hb d_MacroExpandModel_fault_43 (by decide) ?_
        cases hrun
        exact W.iret hx hb hr (fun t ht hW9 => ⟨⟨_, (), rfl, rfl, by show hW D dA classes b0 _ _ t.heap; rw [ht]; exact hw⟩, hS.F ht⟩) hS.2.2 d_MacroExpandModel_fault_48
    · rw [if_pos c13] at hrun
      refine lv_aload_n hx hb d_MacroExpandModel_fault_16 rfl (lv_at hl 0 rfl) ?_
      replace hrun := hb_some hrun
      obtain ⟨v17, g17, hrun⟩ := hrun
      refine h_getI S (fun w q => hT w (i_MacroExpandModel w q)) hK (ci := 1) rfl 21 (by decide) (hT _ fl_MacroExpandModel_113) hw g17 d_MacroExpandModel_fault_17 ?_
      refine lv_if_ne (tgt := 27) hx hb d_MacroExpandModel_fault_20 (by decide) (fun c20 => ?_) (fun c20 => ?_)
      · rw [if_neg c20] at hrun
        refine lv_aload_n hx hb d_MacroExpandModel_fault_27 rfl (lv_at hl 0 rfl) ?_
        replace hrun := hb_some hrun
        obtain ⟨v28, g28, hrun⟩ := hrun
        refine h_getI S (fun w q => hT w (i_MacroExpandModel w q)) hK (ci := 1) rfl 22 (by decide) (hT _ fl_MacroExpandModel_142) hw g28 d_MacroExpandModel_fault_28 ?_
        refine lv_goto (tgt := 48) hx hb d_MacroExpandModel_fault_31 (by decide) ?_
        cases hrun
        exact W.iret hx hb hr (fun t ht hW9 => ⟨⟨_, (), rfl, rfl, by show hW D dA classes b0 _ _ t.heap; rw [ht]; exact hw⟩, hS.F ht⟩) hS.2.2 d_MacroExpandModel_fault_48
      · rw [if_pos c20] at hrun
        refine lv_iconst (v := (0 : Int32)) hx hb d_MacroExpandModel_fault_23 (by decide) ?_
        refine lv_goto (tgt := 48) hx hb d_MacroExpandModel_fault_24 (by decide) ?_
        cases hrun
        exact W.iret hx hb hr (fun t ht hW9 => ⟨⟨_, (), rfl, rfl, by show hW D dA classes b0 _ _ t.heap; rw [ht]; exact hw⟩, hS.F ht⟩) hS.2.2 d_MacroExpandModel_fault_48
  · rw [if_pos c1] at hrun
    refine lv_aload_n hx hb d_MacroExpandModel_fault_4 rfl (lv_at hl 0 rfl) ?_
    replace hrun := hb_some hrun
    obtain ⟨v5, g5, hrun⟩ := hrun
    refine h_getI S (fun w q => hT w (i_MacroExpandModel w q)) hK (ci := 1) rfl 21 (by decide) (hT _ fl_MacroExpandModel_113) hw g5 d_MacroExpandModel_fault_5 ?_
    refine lv_goto (tgt := 48) hx hb d_MacroExpandModel_fault_8 (by decide) ?_
    cases hrun
    exact W.iret hx hb hr (fun t ht hW9 => ⟨⟨_, (), rfl, rfl, by show hW D dA classes b0 _ _ t.heap; rw [ht]; exact hw⟩, hS.F ht⟩) hS.2.2 d_MacroExpandModel_fault_48
set_option maxHeartbeats 4000000 in
set_option maxRecDepth 100000 in
theorem c_MacroExpandModel_named (l : Launch) (D : va_G) (dA : Nat → ClassId) (b0 : Nat) (a0 : Nat) (i1 : Int32) (nx : Nat) {h : hH} {r : Int32} (hrun : f_MacroExpandModel_named a0 i1 h = some r) : Met l y_MacroExpandModel_named w_MacroExpandModel_named ({ frames := 1, cells := 0, slots := 0, locals := 22 } : Room) (va_Pc [.ref a0, .int i1] (hB D dA b0 nx h)) (va_Qi (fun r' (_ : Unit) => r' = r) (fun (_ : Unit) t => hW D dA classes b0 nx h t.heap) (hA b0)) 0 0 (hA b0) := by
  refine Met.ofW (cc := b_MacroExpandModel_named) (maxL := 2) (ret := (some .int)) (by decide) rfl ?_
  intro p e s m args below meth c s₁ B hml hv
  obtain ⟨rfl, hw, hK, hN⟩ := hv
  have hx := B.exec
  have hb := B.bytes
  have hr := B.returns
  have hlocks := B.notSynchronized
  have S : CallFix p m c b_MacroExpandModel_named 2 s ([.ref a0, .int i1] : List Value).toArray w_MacroExpandModel_named R_MacroExpandModel := ⟨hx, hb, hml, findClass_of_methodNamed B.named, atoms_spec (ws := w_MacroExpandModel_named) B.pre⟩
  have hT : ∀ w ∈ tbl, w ∈ w_MacroExpandModel_named := fun _ q => List.mem_cons_of_mem _ q
  have hS : va_S (hA b0) s.heap s.heap [] := va_S.rf
  have hl := lv_entry ([.ref a0, .int i1]) (n := 2) (Nat.le_of_ble_eq_true rfl)
  rw [lg_entry_eq]
  generalize (lg_sl ([.ref a0, .int i1]) ++ List.replicate (2 - (lg_sl ([.ref a0, .int i1])).length) Slot.unset).toArray = ls at hl ⊢
  have hl : lv_has ls 2 [(0, .ref a0), (1, .int i1)] := hl
  unfold f_MacroExpandModel_named at hrun
  refine lv_iload_n hx hb d_MacroExpandModel_named_0 rfl (lv_at hl 1 rfl) ?_
  refine lv_iconst (v := (-1 : Int32)) hx hb d_MacroExpandModel_named_1 (by decide) ?_
  refine lv_icmp_ne (tgt := 12) hx hb d_MacroExpandModel_named_2 (by decide) (fun c2 => ?_) (fun c2 => ?_)
  · rw [if_neg c2] at hrun
    refine lv_iload_n hx hb d_MacroExpandModel_named_12 rfl (lv_at hl 1 rfl) ?_
    refine lv_iconst (v := (0 : Int32)) hx hb d_MacroExpandModel_named_13 (by decide) ?_
    refine lv_aload_n hx hb d_MacroExpandModel_named_14 rfl (lv_at hl 0 rfl) ?_
    replace hrun := hb_some hrun
    obtain ⟨v15, g15, hrun⟩ := hrun
    refine h_getI S (fun w q => hT w (i_MacroExpandModel w q)) hK (ci := 1) rfl 16 (by decide) (hT _ fl_MacroExpandModel_172) hw g15 d_MacroExpandModel_named_15 ?_
    refine lv_iconst (v := (1 : Int32)) hx hb d_MacroExpandModel_named_18 (by decide) ?_
    refine lv_isub hx hb d_MacroExpandModel_named_19 ?_
    replace hrun := hb_some hrun
    obtain ⟨v20, g20, hrun⟩ := hrun
    refine h_ci (h_runS S (As := [.int i1, .int (0 : Int32), .int (v15 - (1 : Int32))]) (rest := []) (c_MacroExpandModel_in l D dA b0 i1 (0 : Int32) (v15 - (1 : Int32)) nx g20) (va_cwS 3 S.2.2.2.2 (h_good _ (h_in3 ml_MacroExpandModel_83 sm_MacroExpandModel_in it_MacroExpandModel) cd_MacroExpandModel_in) rfl rfl rfl (by decide +kernel) ⟨Nat.le_of_ble_eq_true rfl, Nat.le_of_ble_eq_true rfl⟩) hK hN hw rfl hl.1 (lv_room (Nat.le_of_ble_eq_true rfl)) d_MacroExpandModel_named_20 ⟨Nat.le_refl _, Nat.le_refl _⟩) hS (fun H locs hw hS => ?_)
    refine lv_if_eq (tgt := 35) hx hb d_MacroExpandModel_named_23 (by decide) (fun c23 => ?_) (fun c23 => ?_)
    · rw [if_pos c23] at hrun
      refine lv_iconst (v := (-1 : Int32)) hx hb d_MacroExpandModel_named_35 (by decide) ?_
      cases hrun
      exact W.iret hx hb hr (fun t ht hW9 => ⟨⟨_, (), rfl, rfl, by show hW D dA classes b0 _ _ t.heap; rw [ht]; exact hw⟩, hS.F ht⟩) hS.2.2 d_MacroExpandModel_named_36
    · rw [if_neg c23] at hrun
      refine lv_aload_n hx hb d_MacroExpandModel_named_26 rfl (lv_at hl 0 rfl) ?_
      replace hrun := hb_some hrun
      obtain ⟨v27, g27, hrun⟩ := hrun
      refine h_getR S (fun w q => hT w (i_MacroExpandModel w q)) hK (ci := 1) rfl 17 (by decide) (hT _ fl_MacroExpandModel_41) hw g27 d_MacroExpandModel_named_27 ?_
      refine lv_iload_n hx hb d_MacroExpandModel_named_30 rfl (lv_at hl 1 rfl) ?_
      replace hrun := hb_some hrun
      obtain ⟨p31, rfl, hrun⟩ := hrun
      replace hrun := hb_some hrun
      obtain ⟨v31, g31, hrun⟩ := hrun
      refine h_iald S hK (kd := 0) rfl hw g31 d_MacroExpandModel_named_31 ?_
      refine lv_goto (tgt := 36) hx hb d_MacroExpandModel_named_32 (by decide) ?_
      cases hrun
      exact W.iret hx hb hr (fun t ht hW9 => ⟨⟨_, (), rfl, rfl, by show hW D dA classes b0 _ _ t.heap; rw [ht]; exact hw⟩, hS.F ht⟩) hS.2.2 d_MacroExpandModel_named_36
  · rw [if_pos c2] at hrun
    refine lv_aload_n hx hb d_MacroExpandModel_named_5 rfl (lv_at hl 0 rfl) ?_
    replace hrun := hb_some hrun
    obtain ⟨v6, g6, hrun⟩ := hrun
    refine h_getI S (fun w q => hT w (i_MacroExpandModel w q)) hK (ci := 1) rfl 16 (by decide) (hT _ fl_MacroExpandModel_172) hw g6 d_MacroExpandModel_named_6 ?_
    refine lv_goto (tgt := 36) hx hb d_MacroExpandModel_named_9 (by decide) ?_
    cases hrun
    exact W.iret hx hb hr (fun t ht hW9 => ⟨⟨_, (), rfl, rfl, by show hW D dA classes b0 _ _ t.heap; rw [ht]; exact hw⟩, hS.F ht⟩) hS.2.2 d_MacroExpandModel_named_36
set_option maxHeartbeats 4000000 in
set_option maxRecDepth 100000 in
theorem c_MacroExpandModel_traced (l : Launch) (D : va_G) (dA : Nat → ClassId) (b0 : Nat) (a0 : Nat) (i1 : Int32) (i2 : Int32) (nx : Nat) {h : hH} {r : Int32} (hrun : f_MacroExpandModel_traced a0 i1 i2 h = some r) : Met l y_MacroExpandModel_traced w_MacroExpandModel_traced ({ frames := 1, cells := 0, slots := 0, locals := 22 } : Room) (va_Pc [.ref a0, .int i1, .int i2] (hB D dA b0 nx h)) (va_Qi (fun r' (_ : Unit) => r' = r) (fun (_ : Unit) t => hW D dA classes b0 nx h t.heap) (hA b0)) 0 0 (hA b0) := by
  refine Met.ofW (cc := b_MacroExpandModel_traced) (maxL := 3) (ret := (some .int)) (by decide) rfl ?_
  intro p e s m args below meth c s₁ B hml hv
  obtain ⟨rfl, hw, hK, hN⟩ := hv
  have hx := B.exec
  have hb := B.bytes
  have hr := B.returns
  have hlocks := B.notSynchronized
  have S : CallFix p m c b_MacroExpandModel_traced 3 s ([.ref a0, .int i1, .int i2] : List Value).toArray w_MacroExpandModel_traced R_MacroExpandModel := ⟨hx, hb, hml, findClass_of_methodNamed B.named, atoms_spec (ws := w_MacroExpandModel_traced) B.pre⟩
  have hT : ∀ w ∈ tbl, w ∈ w_MacroExpandModel_traced := fun _ q => List.mem_cons_of_mem _ q
  have hS : va_S (hA b0) s.heap s.heap [] := va_S.rf
  have hl := lv_entry ([.ref a0, .int i1, .int i2]) (n := 3) (Nat.le_of_ble_eq_true rfl)
  rw [lg_entry_eq]
  generalize (lg_sl ([.ref a0, .int i1, .int i2]) ++ List.replicate (3 - (lg_sl ([.ref a0, .int i1, .int i2])).length) Slot.unset).toArray = ls at hl ⊢
  have hl : lv_has ls 3 [(0, .ref a0), (1, .int i1), (2, .int i2)] := hl
  unfold f_MacroExpandModel_traced at hrun
  refine lv_iload_n hx hb d_MacroExpandModel_traced_0 rfl (lv_at hl 1 rfl) ?_
  refine lv_iconst (v := (0 : Int32)) hx hb d_MacroExpandModel_traced_1 (by decide) ?_
  refine lv_aload_n hx hb d_MacroExpandModel_traced_2 rfl (lv_at hl 0 rfl) ?_
  replace hrun := hb_some hrun
  obtain ⟨v3, g3, hrun⟩ := hrun
  refine h_getI S (fun w q => hT w (i_MacroExpandModel w q)) hK (ci := 1) rfl 25 (by decide) (hT _ fl_MacroExpandModel_169) hw g3 d_MacroExpandModel_traced_3 ?_
  refine lv_iconst (v := (1 : Int32)) hx hb d_MacroExpandModel_traced_6 (by decide) ?_
  refine lv_isub hx hb d_MacroExpandModel_traced_7 ?_
  replace hrun := hb_some hrun
  obtain ⟨v8, g8, hrun⟩ := hrun
  refine h_ci (h_runS S (As := [.int i1, .int (0 : Int32), .int (v3 - (1 : Int32))]) (rest := []) (c_MacroExpandModel_in l D dA b0 i1 (0 : Int32) (v3 - (1 : Int32)) nx g8) (va_cwS 3 S.2.2.2.2 (h_good _ (h_in3 ml_MacroExpandModel_83 sm_MacroExpandModel_in it_MacroExpandModel) cd_MacroExpandModel_in) rfl rfl rfl (by decide +kernel) ⟨Nat.le_of_ble_eq_true rfl, Nat.le_of_ble_eq_true rfl⟩) hK hN hw rfl hl.1 (lv_room (Nat.le_of_ble_eq_true rfl)) d_MacroExpandModel_traced_8 ⟨Nat.le_refl _, Nat.le_refl _⟩) hS (fun H locs hw hS => ?_)
  refine lv_if_eq (tgt := 36) hx hb d_MacroExpandModel_traced_11 (by decide) (fun c11 => ?_) (fun c11 => ?_)
  · rw [if_pos c11] at hrun
    refine lv_iconst (v := (-1 : Int32)) hx hb d_MacroExpandModel_traced_36 (by decide) ?_
    cases hrun
    exact W.iret hx hb hr (fun t ht hW9 => ⟨⟨_, (), rfl, rfl, by show hW D dA classes b0 _ _ t.heap; rw [ht]; exact hw⟩, hS.F ht⟩) hS.2.2 d_MacroExpandModel_traced_37
  · rw [if_neg c11] at hrun
    refine lv_iload_n hx hb d_MacroExpandModel_traced_14 rfl (lv_at hl 2 rfl) ?_
    refine lv_iconst (v := (0 : Int32)) hx hb d_MacroExpandModel_traced_15 (by decide) ?_
    refine lv_iconst (v := (2 : Int32)) hx hb d_MacroExpandModel_traced_16 (by decide) ?_
    replace hrun := hb_some hrun
    obtain ⟨v17, g17, hrun⟩ := hrun
    refine h_ci (h_runS S (As := [.int i2, .int (0 : Int32), .int (2 : Int32)]) (rest := []) (c_MacroExpandModel_in l D dA b0 i2 (0 : Int32) (2 : Int32) nx g17) (va_cwS 3 S.2.2.2.2 (h_good _ (h_in3 ml_MacroExpandModel_83 sm_MacroExpandModel_in it_MacroExpandModel) cd_MacroExpandModel_in) rfl rfl rfl (by decide +kernel) ⟨Nat.le_of_ble_eq_true rfl, Nat.le_of_ble_eq_true rfl⟩) hK hN hw rfl hl.1 (lv_room (Nat.le_of_ble_eq_true rfl)) d_MacroExpandModel_traced_17 ⟨Nat.le_refl _, Nat.le_refl _⟩) hS (fun H locs hw hS => ?_)
    refine lv_if_eq (tgt := 36) hx hb d_MacroExpandModel_traced_20 (by decide) (fun c20 => ?_) (fun c20 => ?_)
    · rw [if_pos c20] at hrun
      refine lv_iconst (v := (-1 : Int32)) hx hb d_MacroExpandModel_traced_36 (by decide) ?_
      cases hrun
      exact W.iret hx hb hr (fun t ht hW9 => ⟨⟨_, (), rfl, rfl, by show hW D dA classes b0 _ _ t.heap; rw [ht]; exact hw⟩, hS.F ht⟩) hS.2.2 d_MacroExpandModel_traced_37
    · rw [if_neg c20] at hrun
      refine lv_aload_n hx hb d_MacroExpandModel_traced_23 rfl (lv_at hl 0 rfl) ?_
      replace hrun := hb_some hrun
      obtain ⟨v24, g24, hrun⟩ := hrun
      refine h_getR S (fun w q => hT w (i_MacroExpandModel w q)) hK (ci := 1) rfl 26 (by decide) (hT _ fl_MacroExpandModel_53) hw g24 d_MacroExpandModel_traced_24 ?_
      refine lv_iconst (v := (3 : Int32)) hx hb d_MacroExpandModel_traced_27 (by decide) ?_
      refine lv_iload_n hx hb d_MacroExpandModel_traced_28 rfl (lv_at hl 1 rfl) ?_
      refine lv_imul hx hb d_MacroExpandModel_traced_29 ?_
      refine lv_iload_n hx hb d_MacroExpandModel_traced_30 rfl (lv_at hl 2 rfl) ?_
      refine lv_iadd hx hb d_MacroExpandModel_traced_31 ?_
      replace hrun := hb_some hrun
      obtain ⟨p32, rfl, hrun⟩ := hrun
      replace hrun := hb_some hrun
      obtain ⟨v32, g32, hrun⟩ := hrun
      refine h_iald S hK (kd := 0) rfl hw g32 d_MacroExpandModel_traced_32 ?_
      refine lv_goto (tgt := 37) hx hb d_MacroExpandModel_traced_33 (by decide) ?_
      cases hrun
      exact W.iret hx hb hr (fun t ht hW9 => ⟨⟨_, (), rfl, rfl, by show hW D dA classes b0 _ _ t.heap; rw [ht]; exact hw⟩, hS.F ht⟩) hS.2.2 d_MacroExpandModel_traced_37
