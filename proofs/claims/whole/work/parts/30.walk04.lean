set_option maxHeartbeats 4000000 in
set_option maxRecDepth 100000 in
theorem c_MacroExpandModel_plain (l : Launch) (D : va_G) (dA : Nat → ClassId) (b0 : Nat) (n : Nat) (a0 : Nat) (i1 : Int32) (i2 : Int32) (i3 : Int32) (nx : Nat) {h h' : hH} {r : Int32} (hrun : f_MacroExpandModel_plain n a0 i1 i2 i3 h = some (r, h')) : Met l y_MacroExpandModel_plain w_MacroExpandModel_plain ({ frames := 4, cells := 0, slots := 0, locals := 86 } : Room) (va_Pc [.ref a0, .int i1, .int i2, .int i3] (hB D dA b0 nx h)) (va_Qi (fun r' (_ : Unit) => r' = r) (fun (_ : Unit) t => hW D dA classes b0 nx h' t.heap) (hA b0)) 0 0 (hA b0) := by
  refine Met.ofW (cc := b_MacroExpandModel_plain) (maxL := 6) (ret := (some .int)) (by decide) rfl ?_
  intro p e s m args below meth c s₁ B hml hv
  obtain ⟨rfl, hw, hK, hN⟩ := hv
  have hx := B.exec
  have hb := B.bytes
  have hr := B.returns
  have hlocks := B.notSynchronized
  have S : CallFix p m c b_MacroExpandModel_plain 6 s ([.ref a0, .int i1, .int i2, .int i3] : List Value).toArray w_MacroExpandModel_plain R_MacroExpandModel := ⟨hx, hb, hml, findClass_of_methodNamed B.named, atoms_spec (ws := w_MacroExpandModel_plain) B.pre⟩
  have hT : ∀ w ∈ tbl, w ∈ w_MacroExpandModel_plain := fun _ q => List.mem_cons_of_mem _ q
  have hS : va_S (hA b0) s.heap s.heap [] := va_S.rf
  have hl := lv_entry ([.ref a0, .int i1, .int i2, .int i3]) (n := 6) (Nat.le_of_ble_eq_true rfl)
  rw [lg_entry_eq]
  generalize (lg_sl ([.ref a0, .int i1, .int i2, .int i3]) ++ List.replicate (6 - (lg_sl ([.ref a0, .int i1, .int i2, .int i3])).length) Slot.unset).toArray = ls at hl ⊢
  have hl : lv_has ls 6 [(0, .ref a0), (1, .int i1), (2, .int i2), (3, .int i3)] := hl
  have l_98 : ∀ (x1 : Int32) (x3 : Int32) (n9 : Nat) (x9 : Int32 × Int32) (h : hH) (b9 : (Int32)) (h9 : hH) (H : Heap) (locs : List Loc) (ls : Array Slot), hloopW (f_MacroExpandModel_plain_b98 n a0 x1 x3) n9 x9 h = some (b9, h9) → hW D dA classes b0 nx h H → va_S (hA b0) s.heap H locs → lv_has ls 6 (match x9 with | (x4, x5) => [(0, .ref a0), (1, .int x1), (3, .int x3), (4, .int x4), (5, .int x5)]) → (∀ (z4 : Int32), b9 = z4 → ∀ (H : Heap) (locs : List Loc) (ls : Array Slot), hW D dA classes b0 nx h9 H → va_S (hA b0) s.heap H locs → lv_has ls 6 [(4, .int z4)] → W p l e (headSpec w_MacroExpandModel_plain ({ frames := 4, cells := 0, slots := 0, locals := 86 } : Room)).room s m ([.ref a0, .int i1, .int i2, .int i3] : List Value).toArray below meth c H locs 0 0 (MQ below (va_Qi (fun r' (_ : Unit) => r' = r) (fun (_ : Unit) t => hW D dA classes b0 nx h' t.heap) (hA b0)) ([.ref a0, .int i1, .int i2, .int i3] : List Value).toArray s 0 0 (hA b0)) (F0 m 180 ls [])) → W p l e (headSpec w_MacroExpandModel_plain ({ frames := 4, cells := 0, slots := 0, locals := 86 } : Room)).room s m ([.ref a0, .int i1, .int i2, .int i3] : List Value).toArray below meth c H locs 0 0 (MQ below (va_Qi (fun r' (_ : Unit) => r' = r) (fun (_ : Unit) t => hW D dA classes b0 nx h' t.heap) (hA b0)) ([.ref a0, .int i1, .int i2, .int i3] : List Value).toArray s 0 0 (hA b0)) (F0 m 98 ls []) := by
    intro x1 x3 n9
    induction n9 with
    | zero =>
      intro x9 h b9 h9 H locs ls hrun
      cases hrun
    | succ n9 ih =>
      rintro ⟨x4, x5⟩ h b9 h9 H locs ls hrun hw hS hl k0
      have hl : lv_has ls 6 [(0, .ref a0), (1, .int x1), (3, .int x3), (4, .int x4), (5, .int x5)] := hl
      unfold hloopW at hrun
      obtain ⟨q9, h9b, hbody, hrun9⟩ := hbW_some hrun
      have K0 : (∀ (z4 : Int32) (z5 : Int32), q9 = .inl (z4, z5) → ∀ (H : Heap) (locs : List Loc) (ls : Array Slot), hW D dA classes b0 nx h9b H → va_S (hA b0) s.heap H locs → lv_has ls 6 [(0, .ref a0), (1, .int x1), (3, .int x3), (4, .int z4), (5, .int z5)] → W p l e (headSpec w_MacroExpandModel_plain ({ frames := 4, cells := 0, slots := 0, locals := 86 } : Room)).room s m ([.ref a0, .int i1, .int i2, .int i3] : List Value).toArray below meth c H locs 0 0 (MQ below (va_Qi (fun r' (_ : Unit) => r' = r) (fun (_ : Unit) t => hW D dA classes b0 nx h' t.heap) (hA b0)) ([.ref a0, .int i1, .int i2, .int i3] : List Value).toArray s 0 0 (hA b0)) (F0 m 98 ls [])) := by
        intro z4 z5 eq9 H locs ls hw hS hl
        subst eq9
        exact ih (z4, z5) h9b b9 h9 H locs ls hrun9 hw hS hl k0
      have K1 : (∀ (z4 : Int32), q9 = .inr z4 → ∀ (H : Heap) (locs : List Loc) (ls : Array Slot), hW D dA classes b0 nx h9b H → va_S (hA b0) s.heap H locs → lv_has ls 6 [(4, .int z4)] → W p l e (headSpec w_MacroExpandModel_plain ({ frames := 4, cells := 0, slots := 0, locals := 86 } : Room)).room s m ([.ref a0, .int i1, .int i2, .int i3] : List Value).toArray below meth c H locs 0 0 (MQ below (va_Qi (fun r' (_ : Unit) => r' = r) (fun (_ : Unit) t => hW D dA classes b0 nx h' t.heap) (hA b0)) ([.ref a0, .int i1, .int i2, .int i3] : List Value).toArray s 0 0 (hA b0)) (F0 m 180 ls [])) := by
        intro z4 eq9 H locs ls hw hS hl
        subst eq9
        cases hrun9
        exact k0 _ rfl H locs ls hw hS hl
      clear hrun hrun9 ih k0
      have hrun := hbody
      clear hbody
      have j_174 : ∀  (x1 : Int32) (x3 : Int32) (x4 : Int32) (x5 : Int32) (q9 : (Int32 × Int32) ⊕ ((Int32))) (h9 : hH) (h : hH) (H : Heap) (locs : List Loc) (ls : Array Slot), f_MacroExpandModel_plain_j174 n a0 x1 x3 x4 x5 h = some (q9, h9) → hW D dA classes b0 nx h H → va_S (hA b0) s.heap H locs → lv_has ls 6 [(0, .ref a0), (1, .int x1), (3, .int x3), (4, .int x4), (5, .int x5)] → (∀ (z4 : Int32) (z5 : Int32), q9 = .inl (z4, z5) → ∀ (H : Heap) (locs : List Loc) (ls : Array Slot), hW D dA classes b0 nx h9 H → va_S (hA b0) s.heap H locs → lv_has ls 6 [(0, .ref a0), (1, .int x1), (3, .int x3), (4, .int z4), (5, .int z5)] → W p l e (headSpec w_MacroExpandModel_plain ({ frames := 4, cells := 0, slots := 0, locals := 86 } : Room)).room s m ([.ref a0, .int i1, .int i2, .int i3] : List Value).toArray below meth c H locs 0 0 (MQ below (va_Qi (fun r' (_ : Unit) => r' = r) (fun (_ : Unit) t => hW D dA classes b0 nx h' t.heap) (hA b0)) ([.ref a0, .int i1, .int i2, .int i3] : List Value).toArray s 0 0 (hA b0)) (F0 m 98 ls [])) → (∀ (z4 : Int32), q9 = .inr z4 → ∀ (H : Heap) (locs : List Loc) (ls : Array Slot), hW D dA classes b0 nx h9 H → va_S (hA b0) s.heap H locs → lv_has ls 6 [(4, .int z4)] → W p l e (headSpec w_MacroExpandModel_plain ({ frames := 4, cells := 0, slots := 0, locals := 86 } : Room)).room s m ([.ref a0, .int i1, .int i2, .int i3] : List Value).toArray below meth c H locs 0 0 (MQ below (va_Qi (fun r' (_ : Unit) => r' = r) (fun (_ : Unit) t => hW D dA classes b0 nx h' t.heap) (hA b0)) ([.ref a0, .int i1, .int i2, .int i3] : List Value).toArray s 0 0 (hA b0)) (F0 m 180 ls [])) → W p l e (headSpec w_MacroExpandModel_plain ({ frames := 4, cells := 0, slots := 0, locals := 86 } : Room)).room s m ([.ref a0, .int i1, .int i2, .int i3] : List Value).toArray below meth c H locs 0 0 (MQ below (va_Qi (fun r' (_ : Unit) => r' = r) (fun (_ : Unit) t => hW D dA classes b0 nx h' t.heap) (hA b0)) ([.ref a0, .int i1, .int i2, .int i3] : List Value).toArray s 0 0 (hA b0)) (F0 m 174 ls []) := by
        intro x1 x3 x4 x5 q9 h9 h H locs ls hrun hw hS hl k0 k1
        unfold f_MacroExpandModel_plain_j174 at hrun
        refine lv_iinc (v := (x4 + (1 : Int32))) (lv' := [(4, .int (x4 + (1 : Int32))), (0, .ref a0), (1, .int x1), (3, .int x3), (5, .int x5)]) hx hb d_MacroExpandModel_plain_174 hl (k := 3) rfl rfl (by decide) rfl (fun ls hl => ?_)
        refine lv_goto (tgt := 98) hx hb d_MacroExpandModel_plain_177 (by decide) ?_
        cases hrun
        exact k0 (x4 + (1 : Int32)) x5 rfl H locs ls hw hS (lv_sub hl [1, 2, 3, 0, 4] rfl)
      have j_155 : ∀  (x1 : Int32) (x3 : Int32) (x4 : Int32) (y0 : Int32) (y1 : Int32) (q9 : (Int32 × Int32) ⊕ ((Int32))) (h9 : hH) (h : hH) (H : Heap) (locs : List Loc) (ls : Array Slot), f_MacroExpandModel_plain_j155 n a0 x1 x3 x4 y0 y1 h = some (q9, h9) → hW D dA classes b0 nx h H → va_S (hA b0) s.heap H locs → lv_has ls 6 [(0, .ref a0), (1, .int x1), (3, .int x3), (4, .int x4)] → (∀ (z4 : Int32) (z5 : Int32), q9 = .inl (z4, z5) → ∀ (H : Heap) (locs : List Loc) (ls : Array Slot), hW D dA classes b0 nx h9 H → va_S (hA b0) s.heap H locs → lv_has ls 6 [(0, .ref a0), (1, .int x1), (3, .int x3), (4, .int z4), (5, .int z5)] → W p l e (headSpec w_MacroExpandModel_plain ({ frames := 4, cells := 0, slots := 0, locals := 86 } : Room)).room s m ([.ref a0, .int i1, .int i2, .int i3] : List Value).toArray below meth c H locs 0 0 (MQ below (va_Qi (fun r' (_ : Unit) => r' = r) (fun (_ : Unit) t => hW D dA classes b0 nx h' t.heap) (hA b0)) ([.ref a0, .int i1, .int i2, .int i3] : List Value).toArray s 0 0 (hA b0)) (F0 m 98 ls [])) → (∀ (z4 : Int32), q9 = .inr z4 → ∀ (H : Heap) (locs : List Loc) (ls : Array Slot), hW D dA classes b0 nx h9 H → va_S (hA b0) s.heap H locs → lv_has ls 6 [(4, .int z4)] → W p l e (headSpec w_MacroExpandModel_plain ({ frames := 4, cells := 0, slots := 0, locals := 86 } : Room)).room s m ([.ref a0, .int i1, .int i2, .int i3] : List Value).toArray below meth c H locs 0 0 (MQ below (va_Qi (fun r' (_ : Unit) => r' = r) (fun (_ : Unit) t => hW D dA classes b0 nx h' t.heap) (hA b0)) ([.ref a0, .int i1, .int i2, .int i3] : List Value).toArray s 0 0 (hA b0)) (F0 m 180 ls [])) → W p l e (headSpec w_MacroExpandModel_plain ({ frames := 4, cells := 0, slots := 0, locals := 86 } : Room)).room s m ([.ref a0, .int i1, .int i2, .int i3] : List Value).toArray below meth c H locs 0 0 (MQ below (va_Qi (fun r' (_ : Unit) => r' = r) (fun (_ : Unit) t => hW D dA classes b0 nx h' t.heap) (hA b0)) ([.ref a0, .int i1, .int i2, .int i3] : List Value).toArray s 0 0 (hA b0)) (F0 m 155 ls [.int y1, .int y0]) := by
        intro x1 x3 x4 y0 y1 q9 h9 h H locs ls hrun hw hS hl k0 k1
        unfold f_MacroExpandModel_plain_j155 at hrun
        refine lv_iadd hx hb d_MacroExpandModel_plain_155 ?_
        refine lv_istore (lv' := [(5, .int (y0 + y1)), (0, .ref a0), (1, .int x1), (3, .int x3), (4, .int x4)]) hx hb d_MacroExpandModel_plain_156 hl (by decide) rfl (fun ls hl => ?_)
        refine lv_iload hx hb d_MacroExpandModel_plain_158 (lv_at hl 0 rfl) ?_
        refine lv_if_le (tgt := 174) hx hb d_MacroExpandModel_plain_160 (by decide) (fun c160 => ?_) (fun c160 => ?_)
        · rw [if_pos c160] at hrun
          exact j_174 x1 x3 x4 (y0 + y1) _ _ h _ _ _ hrun hw hS (lv_sub hl [1, 2, 3, 4, 0] rfl) k0 k1
        · rw [if_neg c160] at hrun
          refine lv_aload_n hx hb d_MacroExpandModel_plain_163 rfl (lv_at hl 1 rfl) ?_
          refine lv_iload_n hx hb d_MacroExpandModel_plain_164 rfl (lv_at hl 2 rfl) ?_
          refine lv_aload_n hx hb d_MacroExpandModel_plain_165 rfl (lv_at hl 1 rfl) ?_
          refine lv_iload hx hb d_MacroExpandModel_plain_166 (lv_at hl 4 rfl) ?_
          replace hrun := hb_some hrun
          obtain ⟨c168, k168, hrun⟩ := hrun
          replace hrun := hb_some hrun
          obtain ⟨v168, g168, hrun⟩ := hrun
          refine h_ci (h_runV S (As := [.int x4]) (rest := [.int x1, .ref a0]) (c_MacroExpandModel_get l D dA b0 a0 x4 nx g168) (cwV 1 S.2.2.2.2 (h_good _ (h_in4 ml_MacroExpandModel_116 im_MacroExpandModel_get se_MacroExpandModel_get it_MacroExpandModel) cd_MacroExpandModel_get) rfl rfl rfl (by decide +kernel) ⟨Nat.le_of_ble_eq_true rfl, Nat.le_of_ble_eq_true rfl⟩) hK hN hw (ci := 1) rfl k168 rfl hl.1 (lv_room (Nat.le_of_ble_eq_true rfl)) d_MacroExpandModel_plain_168 ⟨Nat.le_refl _, Nat.le_refl _⟩) hS (fun H locs hw hS => ?_)
          replace hrun := hb_some hrun
          obtain ⟨c171, k171, hrun⟩ := hrun
          replace hrun := hbW_some hrun
          obtain ⟨_u171, h171, g171, hrun⟩ := hrun
          refine h_cv (h_runV S (As := [.int x1, .int v168]) (rest := []) (c_MacroExpandModel_give l D dA b0 a0 x1 v168 nx g171) (cwV 2 S.2.2.2.2 (h_good _ (h_in4 ml_MacroExpandModel_131 im_MacroExpandModel_give se_MacroExpandModel_give it_MacroExpandModel) cd_MacroExpandModel_give) rfl rfl rfl (by decide +kernel) ⟨Nat.le_of_ble_eq_true rfl, Nat.le_of_ble_eq_true rfl⟩) hK hN hw (ci := 1) rfl k171 rfl hl.1 (lv_room (Nat.le_of_ble_eq_true rfl)) d_MacroExpandModel_plain_171 ⟨Nat.le_refl _, Nat.le_refl _⟩) hS (fun H locs hw hS => ?_)
          exact j_174 x1 x3 x4 (y0 + y1) _ _ h171 _ _ _ hrun hw hS (lv_sub hl [1, 2, 3, 4, 0] rfl) k0 k1
      dsimp only [f_MacroExpandModel_plain_b98] at hrun
      refine lv_iload hx hb d_MacroExpandModel_plain_98 (lv_at hl 4 rfl) ?_
      refine lv_if_le (tgt := 180) hx hb d_MacroExpandModel_plain_100 (by decide) (fun c100 => ?_) (fun c100 => ?_)
      · rw [if_pos c100] at hrun
        cases hrun
        exact K1 x4 rfl H locs ls hw hS (lv_sub hl [3] rfl)
      · rw [if_neg c100] at hrun
        refine lv_aload_n hx hb d_MacroExpandModel_plain_103 rfl (lv_at hl 0 rfl) ?_
        replace hrun := hb_some hrun
        obtain ⟨v104, g104, hrun⟩ := hrun
        refine h_getI S (fun w q => hT w (i_MacroExpandModel w q)) hK (ci := 1) rfl 21 (by decide) (hT _ fl_MacroExpandModel_113) hw g104 d_MacroExpandModel_plain_104 ?_
        refine lv_if_ne (tgt := 180) hx hb d_MacroExpandModel_plain_107 (by decide) (fun c107 => ?_) (fun c107 => ?_)
        · rw [if_neg c107] at hrun
          cases hrun
          exact K1 x4 rfl H locs ls hw hS (lv_sub hl [3] rfl)
        · rw [if_pos c107] at hrun
          refine lv_aload_n hx hb d_MacroExpandModel_plain_110 rfl (lv_at hl 0 rfl) ?_
          refine lv_iload hx hb d_MacroExpandModel_plain_111 (lv_at hl 3 rfl) ?_
          refine lv_iload_n hx hb d_MacroExpandModel_plain_113 rfl (lv_at hl 2 rfl) ?_
          replace hrun := hb_some hrun
          obtain ⟨c114, k114, hrun⟩ := hrun
          replace hrun := hbW_some hrun
          obtain ⟨v114, h114, g114, hrun⟩ := hrun
          refine h_ci (h_runV S (As := [.int x4, .int x3]) (rest := []) (c_MacroExpandModel_isThere l D dA b0 a0 x4 x3 nx g114) (cwV 2 S.2.2.2.2 (h_good _ (h_in4 ml_MacroExpandModel_127 im_MacroExpandModel_isThere se_MacroExpandModel_isThere it_MacroExpandModel) cd_MacroExpandModel_isThere) rfl rfl rfl (by decide +kernel) ⟨Nat.le_of_ble_eq_true rfl, Nat.le_of_ble_eq_true rfl⟩) hK hN hw (ci := 1) rfl k114 rfl hl.1 (lv_room (Nat.le_of_ble_eq_true rfl)) d_MacroExpandModel_plain_114 ⟨Nat.le_refl _, Nat.le_refl _⟩) hS (fun H locs hw hS => ?_)
          refine lv_if_eq (tgt := 180) hx hb d_MacroExpandModel_plain_117 (by decide) (fun c117 => ?_) (fun c117 => ?_)
          · rw [if_pos c117] at hrun
            cases hrun
            exact K1 x4 rfl H locs ls hw hS (lv_sub hl [3] rfl)
          · rw [if_neg c117] at hrun
            refine lv_iload hx hb d_MacroExpandModel_plain_120 (lv_at hl 4 rfl) ?_
            refine lv_aload_n hx hb d_MacroExpandModel_plain_122 rfl (lv_at hl 0 rfl) ?_
            refine lv_iload hx hb d_MacroExpandModel_plain_123 (lv_at hl 3 rfl) ?_
            replace hrun := hb_some hrun
            obtain ⟨c125, k125, hrun⟩ := hrun
            replace hrun := hb_some hrun
            obtain ⟨v125, g125, hrun⟩ := hrun
            refine h_ci (h_runV S (As := [.int x4]) (rest := [.int x5]) (c_MacroExpandModel_get l D dA b0 a0 x4 nx g125) (cwV 1 S.2.2.2.2 (h_good _ (h_in4 ml_MacroExpandModel_116 im_MacroExpandModel_get se_MacroExpandModel_get it_MacroExpandModel) cd_MacroExpandModel_get) rfl rfl rfl (by decide +kernel) ⟨Nat.le_of_ble_eq_true rfl, Nat.le_of_ble_eq_true rfl⟩) hK hN hw (ci := 1) rfl k125 rfl hl.1 (lv_room (Nat.le_of_ble_eq_true rfl)) d_MacroExpandModel_plain_125 ⟨Nat.le_refl _, Nat.le_refl _⟩) hS (fun H locs hw hS => ?_)
            refine lv_sipush (v := (257 : Int32)) hx hb d_MacroExpandModel_plain_128 (by decide) ?_
            refine lv_icmp_ne (tgt := 138) hx hb d_MacroExpandModel_plain_131 (by decide) (fun c131 => ?_) (fun c131 => ?_)
            · rw [if_neg c131] at hrun
              refine lv_aload_n hx hb d_MacroExpandModel_plain_138 rfl (lv_at hl 0 rfl) ?_
              refine lv_iload hx hb d_MacroExpandModel_plain_139 (lv_at hl 3 rfl) ?_
              replace hrun := hb_some hrun
              obtain ⟨c141, k141, hrun⟩ := hrun
              replace hrun := hb_some hrun
              obtain ⟨v141, g141, hrun⟩ := hrun
              refine h_ci (h_runV S (As := [.int x4]) (rest := [.int x5]) (c_MacroExpandModel_get l D dA b0 a0 x4 nx g141) (cwV 1 S.2.2.2.2 (h_good _ (h_in4 ml_MacroExpandModel_116 im_MacroExpandModel_get se_MacroExpandModel_get it_MacroExpandModel) cd_MacroExpandModel_get) rfl rfl rfl (by decide +kernel) ⟨Nat.le_of_ble_eq_true rfl, Nat.le_of_ble_eq_true rfl⟩) hK hN hw (ci := 1) rfl k141 rfl hl.1 (lv_room (Nat.le_of_ble_eq_true rfl)) d_MacroExpandModel_plain_141 ⟨Nat.le_refl _, Nat.le_refl _⟩) hS (fun H locs hw hS => ?_)
              refine lv_sipush (v := (258 : Int32)) hx hb d_MacroExpandModel_plain_144 (by decide) ?_
              refine lv_icmp_ne (tgt := 154) hx hb d_MacroExpandModel_plain_147 (by decide) (fun c147 => ?_) (fun c147 => ?_)
              · rw [if_neg c147] at hrun
                refine lv_iconst (v := (0 : Int32)) hx hb d_MacroExpandModel_plain_154 (by decide) ?_
                exact j_155 x1 x3 x4 x5 (0 : Int32) _ _ h114 _ _ _ hrun hw hS (lv_sub hl [0, 1, 2, 3] rfl) K0 K1
              · rw [if_pos c147] at hrun
                refine lv_iconst (v := (-1 : Int32)) hx hb d_MacroExpandModel_plain_150 (by decide) ?_
                refine lv_goto (tgt := 155) hx hb d_MacroExpandModel_plain_151 (by decide) ?_
                exact j_155 x1 x3 x4 x5 (-1 : Int32) _ _ h114 _ _ _ hrun hw hS (lv_sub hl [0, 1, 2, 3] rfl) K0 K1
            · rw [if_pos c131] at hrun
              refine lv_iconst (v := (1 : Int32)) hx hb d_MacroExpandModel_plain_134 (by decide) ?_
              refine lv_goto (tgt := 155) hx hb d_MacroExpandModel_plain_135 (by decide) ?_
              exact j_155 x1 x3 x4 x5 (1 : Int32) _ _ h114 _ _ _ hrun hw hS (lv_sub hl [0, 1, 2, 3] rfl) K0 K1
  have l_3 : ∀ (x1 : Int32) (x3 : Int32) (n9 : Nat) (x9 : Int32) (h : hH) (b9 : (Int32)) (h9 : hH) (H : Heap) (locs : List Loc) (ls : Array Slot), hloopW (f_MacroExpandModel_plain_b3 n a0 x1 x3) n9 x9 h = some (b9, h9) → hW D dA classes b0 nx h H → va_S (hA b0) s.heap H locs → lv_has ls 6 (match x9 with | x4 => [(0, .ref a0), (1, .int x1), (3, .int x3), (4, .int x4)]) → (∀ (z4 : Int32), b9 = z4 → ∀ (H : Heap) (locs : List Loc) (ls : Array Slot), hW D dA classes b0 nx h9 H → va_S (hA b0) s.heap H locs → lv_has ls 6 [(0, .ref a0), (1, .int x1), (3, .int x3), (4, .int z4)] → W p l e (headSpec w_MacroExpandModel_plain ({ frames := 4, cells := 0, slots := 0, locals := 86 } : Room)).room s m ([.ref a0, .int i1, .int i2, .int i3] : List Value).toArray below meth c H locs 0 0 (MQ below (va_Qi (fun r' (_ : Unit) => r' = r) (fun (_ : Unit) t => hW D dA classes b0 nx h' t.heap) (hA b0)) ([.ref a0, .int i1, .int i2, .int i3] : List Value).toArray s 0 0 (hA b0)) (F0 m 30 ls [])) → W p l e (headSpec w_MacroExpandModel_plain ({ frames := 4, cells := 0, slots := 0, locals := 86 } : Room)).room s m ([.ref a0, .int i1, .int i2, .int i3] : List Value).toArray below meth c H locs 0 0 (MQ below (va_Qi (fun r' (_ : Unit) => r' = r) (fun (_ : Unit) t => hW D dA classes b0 nx h' t.heap) (hA b0)) ([.ref a0, .int i1, .int i2, .int i3] : List Value).toArray s 0 0 (hA b0)) (F0 m 3 ls []) := by
    intro x1 x3 n9
    induction n9 with
    | zero =>
      intro x9 h b9 h9 H locs ls hrun
      cases hrun
    | succ n9 ih =>
      rintro x4 h b9 h9 H locs ls hrun hw hS hl k0
      have hl : lv_has ls 6 [(0, .ref a0), (1, .int x1), (3, .int x3), (4, .int x4)] := hl
      unfold hloopW at hrun
      obtain ⟨q9, h9b, hbody, hrun9⟩ := hbW_some hrun
      have K0 : (∀ (z4 : Int32), q9 = .inl z4 → ∀ (H : Heap) (locs : List Loc) (ls : Array Slot), hW D dA classes b0 nx h9b H → va_S (hA b0) s.heap H locs → lv_has ls 6 [(0, .ref a0), (1, .int x1), (3, .int x3), (4, .int z4)] → W p l e (headSpec w_MacroExpandModel_plain ({ frames := 4, cells := 0, slots := 0, locals := 86 } : Room)).room s m ([.ref a0, .int i1, .int i2, .int i3] : List Value).toArray below meth c H locs 0 0 (MQ below (va_Qi (fun r' (_ : Unit) => r' = r) (fun (_ : Unit) t => hW D dA classes b0 nx h' t.heap) (hA b0)) ([.ref a0, .int i1, .int i2, .int i3] : List Value).toArray s 0 0 (hA b0)) (F0 m 3 ls [])) := by
        intro z4 eq9 H locs ls hw hS hl
        subst eq9
        exact ih z4 h9b b9 h9 H locs ls hrun9 hw hS hl k0
      have K1 : (∀ (z4 : Int32), q9 = .inr z4 → ∀ (H : Heap) (locs : List Loc) (ls : Array Slot), hW D dA classes b0 nx h9b H → va_S (hA b0) s.heap H locs → lv_has ls 6 [(0, .ref a0), (1, .int x1), (3, .int x3), (4, .int z4)] → W p l e (headSpec w_MacroExpandModel_plain ({ frames := 4, cells := 0, slots := 0, locals := 86 } : Room)).room s m ([.ref a0, .int i1, .int i2, .int i3] : List Value).toArray below meth c H locs 0 0 (MQ below (va_Qi (fun r' (_ : Unit) => r' = r) (fun (_ : Unit) t => hW D dA classes b0 nx h' t.heap) (hA b0)) ([.ref a0, .int i1, .int i2, .int i3] : List Value).toArray s 0 0 (hA b0)) (F0 m 30 ls [])) := by
        intro z4 eq9 H locs ls hw hS hl
        subst eq9
        cases hrun9
        exact k0 _ rfl H locs ls hw hS hl
      clear hrun hrun9 ih k0
      have hrun := hbody
      clear hbody
      dsimp only [f_MacroExpandModel_plain_b3] at hrun
      refine lv_iload hx hb d_MacroExpandModel_plain_3 (lv_at hl 3 rfl) ?_
      refine lv_aload_n hx hb d_MacroExpandModel_plain_5 rfl (lv_at hl 0 rfl) ?_
      replace hrun := hb_some hrun
      obtain ⟨v6, g6, hrun⟩ := hrun
      refine h_getI S (fun w q => hT w (i_MacroExpandModel w q)) hK (ci := 1) rfl 3 (by decide) (hT _ fl_MacroExpandModel_107) hw g6 d_MacroExpandModel_plain_6 ?_
      refine lv_icmp_ge (tgt := 30) hx hb d_MacroExpandModel_plain_9 (by decide) (fun c9 => ?_) (fun c9 => ?_)
      · rw [if_pos c9] at hrun
        cases hrun
        exact K1 x4 rfl H locs ls hw hS (lv_sub hl [0, 1, 2, 3] rfl)
      · rw [if_neg c9] at hrun
        refine lv_aload_n hx hb d_MacroExpandModel_plain_12 rfl (lv_at hl 0 rfl) ?_
        refine lv_iload hx hb d_MacroExpandModel_plain_13 (lv_at hl 3 rfl) ?_
        replace hrun := hb_some hrun
        obtain ⟨c15, k15, hrun⟩ := hrun
        replace hrun := hb_some hrun
        obtain ⟨v15, g15, hrun⟩ := hrun
        refine h_ci (h_runV S (As := [.int x4]) (rest := []) (c_MacroExpandModel_get l D dA b0 a0 x4 nx g15) (cwV 1 S.2.2.2.2 (h_good _ (h_in4 ml_MacroExpandModel_116 im_MacroExpandModel_get se_MacroExpandModel_get it_MacroExpandModel) cd_MacroExpandModel_get) rfl rfl rfl (by decide +kernel) ⟨Nat.le_of_ble_eq_true rfl, Nat.le_of_ble_eq_true rfl⟩) hK hN hw (ci := 1) rfl k15 rfl hl.1 (lv_room (Nat.le_of_ble_eq_true rfl)) d_MacroExpandModel_plain_15 ⟨Nat.le_refl _, Nat.le_refl _⟩) hS (fun H locs hw hS => ?_)
        refine lv_sipush (v := (256 : Int32)) hx hb d_MacroExpandModel_plain_18 (by decide) ?_
        refine lv_icmp_ne (tgt := 30) hx hb d_MacroExpandModel_plain_21 (by decide) (fun c21 => ?_) (fun c21 => ?_)
        · rw [if_neg c21] at hrun
          cases hrun
          exact K1 x4 rfl H locs ls hw hS (lv_sub hl [0, 1, 2, 3] rfl)
        · rw [if_pos c21] at hrun
          refine lv_iinc (v := (x4 + (1 : Int32))) (lv' := [(4, .int (x4 + (1 : Int32))), (0, .ref a0), (1, .int x1), (3, .int x3)]) hx hb d_MacroExpandModel_plain_24 hl (k := 3) rfl rfl (by decide) rfl (fun ls hl => ?_)
          refine lv_goto (tgt := 3) hx hb d_MacroExpandModel_plain_27 (by decide) ?_
          cases hrun
          exact K0 (x4 + (1 : Int32)) rfl H locs ls hw hS (lv_sub hl [1, 2, 3, 0] rfl)
  unfold f_MacroExpandModel_plain at hrun
  refine lv_iload_n hx hb d_MacroExpandModel_plain_0 rfl (lv_at hl 2 rfl) ?_
  refine lv_istore (lv' := [(4, .int i2), (0, .ref a0), (1, .int i1), (2, .int i2), (3, .int i3)]) hx hb d_MacroExpandModel_plain_1 hl (by decide) rfl (fun ls hl => ?_)
  replace hrun := hbW_some hrun
  obtain ⟨b3, h3l, g3, hrun⟩ := hrun
  refine l_3 i1 i3 n i2 h _ _ _ _ _ g3 hw hS (lv_sub hl [1, 2, 4, 0] rfl) ?_
  · rintro x4_3 eq9 H locs ls hw hS hl
    obtain rfl := eq9.symm
    try dsimp only at hrun
    refine lv_aload_n hx hb d_MacroExpandModel_plain_30 rfl (lv_at hl 0 rfl) ?_
    refine lv_iload hx hb d_MacroExpandModel_plain_31 (lv_at hl 3 rfl) ?_
    refine lv_iload_n hx hb d_MacroExpandModel_plain_33 rfl (lv_at hl 2 rfl) ?_
    replace hrun := hb_some hrun
    obtain ⟨c34, k34, hrun⟩ := hrun
    replace hrun := hbW_some hrun
    obtain ⟨v34, h34, g34, hrun⟩ := hrun
    refine h_ci (h_runV S (As := [.int x4_3, .int i3]) (rest := []) (c_MacroExpandModel_isThere l D dA b0 a0 x4_3 i3 nx g34) (cwV 2 S.2.2.2.2 (h_good _ (h_in4 ml_MacroExpandModel_127 im_MacroExpandModel_isThere se_MacroExpandModel_isThere it_MacroExpandModel) cd_MacroExpandModel_isThere) rfl rfl rfl (by decide +kernel) ⟨Nat.le_of_ble_eq_true rfl, Nat.le_of_ble_eq_true rfl⟩) hK hN hw (ci := 1) rfl k34 rfl hl.1 (lv_room (Nat.le_of_ble_eq_true rfl)) d_MacroExpandModel_plain_34 ⟨Nat.le_refl _, Nat.le_refl _⟩) hS (fun H locs hw hS => ?_)
    refine lv_if_ne (tgt := 43) hx hb d_MacroExpandModel_plain_37 (by decide) (fun c37 => ?_) (fun c37 => ?_)
    · rw [if_neg c37] at hrun
      refine lv_aload_n hx hb d_MacroExpandModel_plain_43 rfl (lv_at hl 0 rfl) ?_
      refine lv_iload hx hb d_MacroExpandModel_plain_44 (lv_at hl 3 rfl) ?_
      replace hrun := hb_some hrun
      obtain ⟨c46, k46, hrun⟩ := hrun
      replace hrun := hb_some hrun
      obtain ⟨v46, g46, hrun⟩ := hrun
      refine h_ci (h_runV S (As := [.int x4_3]) (rest := []) (c_MacroExpandModel_get l D dA b0 a0 x4_3 nx g46) (cwV 1 S.2.2.2.2 (h_good _ (h_in4 ml_MacroExpandModel_116 im_MacroExpandModel_get se_MacroExpandModel_get it_MacroExpandModel) cd_MacroExpandModel_get) rfl rfl rfl (by decide +kernel) ⟨Nat.le_of_ble_eq_true rfl, Nat.le_of_ble_eq_true rfl⟩) hK hN hw (ci := 1) rfl k46 rfl hl.1 (lv_room (Nat.le_of_ble_eq_true rfl)) d_MacroExpandModel_plain_46 ⟨Nat.le_refl _, Nat.le_refl _⟩) hS (fun H locs hw hS => ?_)
      refine lv_sipush (v := (258 : Int32)) hx hb d_MacroExpandModel_plain_49 (by decide) ?_
      refine lv_icmp_ne (tgt := 64) hx hb d_MacroExpandModel_plain_52 (by decide) (fun c52 => ?_) (fun c52 => ?_)
      · rw [if_neg c52] at hrun
        refine lv_aload_n hx hb d_MacroExpandModel_plain_64 rfl (lv_at hl 0 rfl) ?_
        refine lv_iload hx hb d_MacroExpandModel_plain_65 (lv_at hl 3 rfl) ?_
        replace hrun := hb_some hrun
        obtain ⟨c67, k67, hrun⟩ := hrun
        replace hrun := hb_some hrun
        obtain ⟨v67, g67, hrun⟩ := hrun
        refine h_ci (h_runV S (As := [.int x4_3]) (rest := []) (c_MacroExpandModel_get l D dA b0 a0 x4_3 nx g67) (cwV 1 S.2.2.2.2 (h_good _ (h_in4 ml_MacroExpandModel_116 im_MacroExpandModel_get se_MacroExpandModel_get it_MacroExpandModel) cd_MacroExpandModel_get) rfl rfl rfl (by decide +kernel) ⟨Nat.le_of_ble_eq_true rfl, Nat.le_of_ble_eq_true rfl⟩) hK hN hw (ci := 1) rfl k67 rfl hl.1 (lv_room (Nat.le_of_ble_eq_true rfl)) d_MacroExpandModel_plain_67 ⟨Nat.le_refl _, Nat.le_refl _⟩) hS (fun H locs hw hS => ?_)
        refine lv_sipush (v := (257 : Int32)) hx hb d_MacroExpandModel_plain_70 (by decide) ?_
        refine lv_icmp_eq (tgt := 92) hx hb d_MacroExpandModel_plain_73 (by decide) (fun c73 => ?_) (fun c73 => ?_)
        · rw [if_pos c73] at hrun
          refine lv_iinc (v := (x4_3 + (1 : Int32))) (lv' := [(4, .int (x4_3 + (1 : Int32))), (0, .ref a0), (1, .int i1), (3, .int i3)]) hx hb d_MacroExpandModel_plain_92 hl (k := 3) rfl rfl (by decide) rfl (fun ls hl => ?_)
          refine lv_iconst (v := (1 : Int32)) hx hb d_MacroExpandModel_plain_95 (by decide) ?_
          refine lv_istore (lv' := [(5, .int (1 : Int32)), (4, .int (x4_3 + (1 : Int32))), (0, .ref a0), (1, .int i1), (3, .int i3)]) hx hb d_MacroExpandModel_plain_96 hl (by decide) rfl (fun ls hl => ?_)
          replace hrun := hbW_some hrun
          obtain ⟨b98, h98l, g98, hrun⟩ := hrun
          refine l_98 i1 i3 n ((x4_3 + (1 : Int32)), (1 : Int32)) h34 _ _ _ _ _ g98 hw hS (lv_sub hl [2, 3, 4, 1, 0] rfl) ?_
          · rintro x4_98 eq9 H locs ls hw hS hl
            obtain rfl := eq9.symm
            try dsimp only at hrun
            refine lv_iload hx hb d_MacroExpandModel_plain_180 (lv_at hl 0 rfl) ?_
            cases hrun
            exact W.iret hx hb hr (fun t ht hW9 => ⟨⟨_, (), rfl, rfl, by show hW D dA classes b0 _ _ t.heap; rw [ht]; exact hw⟩, hS.F ht⟩) hS.2.2 d_MacroExpandModel_plain_182
        · rw [if_neg c73] at hrun
          refine lv_aload_n hx hb d_MacroExpandModel_plain_76 rfl (lv_at hl 0 rfl) ?_
          refine lv_iload_n hx hb d_MacroExpandModel_plain_77 rfl (lv_at hl 1 rfl) ?_
          refine lv_aload_n hx hb d_MacroExpandModel_plain_78 rfl (lv_at hl 0 rfl) ?_
          refine lv_iload hx hb d_MacroExpandModel_plain_79 (lv_at hl 3 rfl) ?_
          replace hrun := hb_some hrun
          obtain ⟨c81, k81, hrun⟩ := hrun
          replace hrun := hb_some hrun
          obtain ⟨v81, g81, hrun⟩ := hrun
          refine h_ci (h_runV S (As := [.int x4_3]) (rest := [.int i1, .ref a0]) (c_MacroExpandModel_get l D dA b0 a0 x4_3 nx g81) (cwV 1 S.2.2.2.2 (h_good _ (h_in4 ml_MacroExpandModel_116 im_MacroExpandModel_get se_MacroExpandModel_get it_MacroExpandModel) cd_MacroExpandModel_get) rfl rfl rfl (by decide +kernel) ⟨Nat.le_of_ble_eq_true rfl, Nat.le_of_ble_eq_true rfl⟩) hK hN hw (ci := 1) rfl k81 rfl hl.1 (lv_room (Nat.le_of_ble_eq_true rfl)) d_MacroExpandModel_plain_81 ⟨Nat.le_refl _, Nat.le_refl _⟩) hS (fun H locs hw hS => ?_)
          replace hrun := hb_some hrun
          obtain ⟨c84, k84, hrun⟩ := hrun
          replace hrun := hbW_some hrun
          obtain ⟨_u84, h84, g84, hrun⟩ := hrun
          refine h_cv (h_runV S (As := [.int i1, .int v81]) (rest := []) (c_MacroExpandModel_give l D dA b0 a0 i1 v81 nx g84) (cwV 2 S.2.2.2.2 (h_good _ (h_in4 ml_MacroExpandModel_131 im_MacroExpandModel_give se_MacroExpandModel_give it_MacroExpandModel) cd_MacroExpandModel_give) rfl rfl rfl (by decide +kernel) ⟨Nat.le_of_ble_eq_true rfl, Nat.le_of_ble_eq_true rfl⟩) hK hN hw (ci := 1) rfl k84 rfl hl.1 (lv_room (Nat.le_of_ble_eq_true rfl)) d_MacroExpandModel_plain_84 ⟨Nat.le_refl _, Nat.le_refl _⟩) hS (fun H locs hw hS => ?_)
          refine lv_iload hx hb d_MacroExpandModel_plain_87 (lv_at hl 3 rfl) ?_
          refine lv_iconst (v := (1 : Int32)) hx hb d_MacroExpandModel_plain_89 (by decide) ?_
          refine lv_iadd hx hb d_MacroExpandModel_plain_90 ?_
          cases hrun
          exact W.iret hx hb hr (fun t ht hW9 => ⟨⟨_, (), rfl, rfl, by show hW D dA classes b0 _ _ t.heap; rw [ht]; exact hw⟩, hS.F ht⟩) hS.2.2 d_MacroExpandModel_plain_91
      · rw [if_pos c52] at hrun
        refine lv_aload_n hx hb d_MacroExpandModel_plain_55 rfl (lv_at hl 0 rfl) ?_
        refine lv_bipush (v := (7 : Int32)) hx hb d_MacroExpandModel_plain_56 (by decide) ?_
        replace hrun := hb_some hrun
        obtain ⟨c58, k58, hrun⟩ := hrun
        replace hrun := hbW_some hrun
        obtain ⟨_u58, h58, g58, hrun⟩ := hrun
        refine h_cv (h_runV S (As := [.int (7 : Int32)]) (rest := []) (c_MacroExpandModel_mark l D dA b0 a0 (7 : Int32) nx g58) (cwV 1 S.2.2.2.2 (h_good _ (h_in4 ml_MacroExpandModel_123 im_MacroExpandModel_mark se_MacroExpandModel_mark it_MacroExpandModel) cd_MacroExpandModel_mark) rfl rfl rfl (by decide +kernel) ⟨Nat.le_of_ble_eq_true rfl, Nat.le_of_ble_eq_true rfl⟩) hK hN hw (ci := 1) rfl k58 rfl hl.1 (lv_room (Nat.le_of_ble_eq_true rfl)) d_MacroExpandModel_plain_58 ⟨Nat.le_refl _, Nat.le_refl _⟩) hS (fun H locs hw hS => ?_)
        refine lv_iload hx hb d_MacroExpandModel_plain_61 (lv_at hl 3 rfl) ?_
        cases hrun
        exact W.iret hx hb hr (fun t ht hW9 => ⟨⟨_, (), rfl, rfl, by show hW D dA classes b0 _ _ t.heap; rw [ht]; exact hw⟩, hS.F ht⟩) hS.2.2 d_MacroExpandModel_plain_63
    · rw [if_pos c37] at hrun
      refine lv_iload hx hb d_MacroExpandModel_plain_40 (lv_at hl 3 rfl) ?_
      cases hrun
      exact W.iret hx hb hr (fun t ht hW9 => ⟨⟨_, (), rfl, rfl, by show hW D dA classes b0 _ _ t.heap; rw [ht]; exact hw⟩, hS.F ht⟩) hS.2.2 d_MacroExpandModel_plain_42
set_option maxHeartbeats 4000000 in
set_option maxRecDepth 100000 in
theorem c_MacroExpandModel_delimited (l : Launch) (D : va_G) (dA : Nat → ClassId) (b0 : Nat) (n : Nat) (a0 : Nat) (i1 : Int32) (i2 : Int32) (i3 : Int32) (i4 : Int32) (nx : Nat) {h h' : hH} {r : Int32} (hrun : f_MacroExpandModel_delimited n a0 i1 i2 i3 i4 h = some (r, h')) : Met l y_MacroExpandModel_delimited w_MacroExpandModel_delimited ({ frames := 4, cells := 0, slots := 0, locals := 86 } : Room) (va_Pc [.ref a0, .int i1, .int i2, .int i3, .int i4] (hB D dA b0 nx h)) (va_Qi (fun r' (_ : Unit) => r' = r) (fun (_ : Unit) t => hW D dA classes b0 nx h' t.heap) (hA b0)) 0 0 (hA b0) := by
  refine Met.ofW (cc := b_MacroExpandModel_delimited) (maxL := 9) (ret := (some .int)) (by decide) rfl ?_
  intro p e s m args below meth c s₁ B hml hv
  obtain ⟨rfl, hw, hK, hN⟩ := hv
  have hx := B.exec
  have hb := B.bytes
  have hr := B.returns
  have hlocks := B.notSynchronized
  have S : CallFix p m c b_MacroExpandModel_delimited 9 s ([.ref a0, .int i1, .int i2, .int i3, .int i4] : List Value).toArray w_MacroExpandModel_delimited R_MacroExpandModel := ⟨hx, hb, hml, findClass_of_methodNamed B.named, atoms_spec (ws := w_MacroExpandModel_delimited) B.pre⟩
  have hT : ∀ w ∈ tbl, w ∈ w_MacroExpandModel_delimited := fun _ q => List.mem_cons_of_mem _ q
  have hS : va_S (hA b0) s.heap s.heap [] := va_S.rf
  have hl := lv_entry ([.ref a0, .int i1, .int i2, .int i3, .int i4]) (n := 9) (Nat.le_of_ble_eq_true rfl)
  rw [lg_entry_eq]
  generalize (lg_sl ([.ref a0, .int i1, .int i2, .int i3, .int i4]) ++ List.replicate (9 - (lg_sl ([.ref a0, .int i1, .int i2, .int i3, .int i4])).length) Slot.unset).toArray = ls at hl ⊢
  have hl : lv_has ls 9 [(0, .ref a0), (1, .int i1), (2, .int i2), (3, .int i3), (4, .int i4)] := hl
  have j_226 : ∀  (x2 : Int32) (x5 : Int32) (h : hH) (H : Heap) (locs : List Loc) (ls : Array Slot), f_MacroExpandModel_delimited_j226 n a0 x2 x5 h = some (r, h') → hW D dA classes b0 nx h H → va_S (hA b0) s.heap H locs → lv_has ls 9 [(0, .ref a0), (2, .int x2), (5, .int x5)] → W p l e (headSpec w_MacroExpandModel_delimited ({ frames := 4, cells := 0, slots := 0, locals := 86 } : Room)).room s m ([.ref a0, .int i1, .int i2, .int i3, .int i4] : List Value).toArray below meth c H locs 0 0 (MQ below (va_Qi (fun r' (_ : Unit) => r' = r) (fun (_ : Unit) t => hW D dA classes b0 nx h' t.heap) (hA b0)) ([.ref a0, .int i1, .int i2, .int i3, .int i4] : List Value).toArray s 0 0 (hA b0)) (F0 m 226 ls []) := by
    intro x2 x5 h H locs ls hrun hw hS hl
    unfold f_MacroExpandModel_delimited_j226 at hrun
    refine lv_iload hx hb d_MacroExpandModel_delimited_226 (lv_at hl 2 rfl) ?_
    refine lv_aload_n hx hb d_MacroExpandModel_delimited_228 rfl (lv_at hl 0 rfl) ?_
    replace hrun := hb_some hrun
    obtain ⟨v229, g229, hrun⟩ := hrun
    refine h_getR S (fun w q => hT w (i_MacroExpandModel w q)) hK (ci := 1) rfl 11 (by decide) (hT _ fl_MacroExpandModel_28) hw g229 d_MacroExpandModel_delimited_229 ?_
    refine lv_iload_n hx hb d_MacroExpandModel_delimited_232 rfl (lv_at hl 1 rfl) ?_
    replace hrun := hb_some hrun
    obtain ⟨p233, rfl, hrun⟩ := hrun
    replace hrun := hb_some hrun
    obtain ⟨v233, g233, hrun⟩ := hrun
    refine h_iald S hK (kd := 0) rfl hw g233 d_MacroExpandModel_delimited_233 ?_
    refine lv_iadd hx hb d_MacroExpandModel_delimited_234 ?_
    cases hrun
    exact W.iret hx hb hr (fun t ht hW9 => ⟨⟨_, (), rfl, rfl, by show hW D dA classes b0 _ _ t.heap; rw [ht]; exact hw⟩, hS.F ht⟩) hS.2.2 d_MacroExpandModel_delimited_235
  have l_181 : ∀ (x1 : Int32) (x2 : Int32) (x5 : Int32) (n9 : Nat) (x9 : Int32) (h : hH) (b9 : (Unit)) (h9 : hH) (H : Heap) (locs : List Loc) (ls : Array Slot), hloopW (f_MacroExpandModel_delimited_b181 n a0 x1 x2 x5) n9 x9 h = some (b9, h9) → hW D dA classes b0 nx h H → va_S (hA b0) s.heap H locs → lv_has ls 9 (match x9 with | x8 => [(0, .ref a0), (1, .int x1), (2, .int x2), (5, .int x5), (8, .int x8)]) → (b9 = () → ∀ (H : Heap) (locs : List Loc) (ls : Array Slot), hW D dA classes b0 nx h9 H → va_S (hA b0) s.heap H locs → lv_has ls 9 [(0, .ref a0), (2, .int x2), (5, .int x5)] → W p l e (headSpec w_MacroExpandModel_delimited ({ frames := 4, cells := 0, slots := 0, locals := 86 } : Room)).room s m ([.ref a0, .int i1, .int i2, .int i3, .int i4] : List Value).toArray below meth c H locs 0 0 (MQ below (va_Qi (fun r' (_ : Unit) => r' = r) (fun (_ : Unit) t => hW D dA classes b0 nx h' t.heap) (hA b0)) ([.ref a0, .int i1, .int i2, .int i3, .int i4] : List Value).toArray s 0 0 (hA b0)) (F0 m 226 ls [])) → W p l e (headSpec w_MacroExpandModel_delimited ({ frames := 4, cells := 0, slots := 0, locals := 86 } : Room)).room s m ([.ref a0, .int i1, .int i2, .int i3, .int i4] : List Value).toArray below meth c H locs 0 0 (MQ below (va_Qi (fun r' (_ : Unit) => r' = r) (fun (_ : Unit) t => hW D dA classes b0 nx h' t.heap) (hA b0)) ([.ref a0, .int i1, .int i2, .int i3, .int i4] : List Value).toArray s 0 0 (hA b0)) (F0 m 181 ls []) := by
    intro x1 x2 x5 n9
    induction n9 with
    | zero =>
      intro x9 h b9 h9 H locs ls hrun
      cases hrun
    | succ n9 ih =>
      rintro x8 h b9 h9 H locs ls hrun hw hS hl k0
      have hl : lv_has ls 9 [(0, .ref a0), (1, .int x1), (2, .int x2), (5, .int x5), (8, .int x8)] := hl
      unfold hloopW at hrun
      obtain ⟨q9, h9b, hbody, hrun9⟩ := hbW_some hrun
      have K0 : (∀ (z8 : Int32), q9 = .inl z8 → ∀ (H : Heap) (locs : List Loc) (ls : Array Slot), hW D dA classes b0 nx h9b H → va_S (hA b0) s.heap H locs → lv_has ls 9 [(0, .ref a0), (1, .int x1), (2, .int x2), (5, .int x5), (8, .int z8)] → W p l e (headSpec w_MacroExpandModel_delimited ({ frames := 4, cells := 0, slots := 0, locals := 86 } : Room)).room s m ([.ref a0, .int i1, .int i2, .int i3, .int i4] : List Value).toArray below meth c H locs 0 0 (MQ below (va_Qi (fun r' (_ : Unit) => r' = r) (fun (_ : Unit) t => hW D dA classes b0 nx h' t.heap) (hA b0)) ([.ref a0, .int i1, .int i2, .int i3, .int i4] : List Value).toArray s 0 0 (hA b0)) (F0 m 181 ls [])) := by
        intro z8 eq9 H locs ls hw hS hl
        subst eq9
        exact ih z8 h9b b9 h9 H locs ls hrun9 hw hS hl k0
      have K1 : (q9 = .inr () → ∀ (H : Heap) (locs : List Loc) (ls : Array Slot), hW D dA classes b0 nx h9b H → va_S (hA b0) s.heap H locs → lv_has ls 9 [(0, .ref a0), (2, .int x2), (5, .int x5)] → W p l e (headSpec w_MacroExpandModel_delimited ({ frames := 4, cells := 0, slots := 0, locals := 86 } : Room)).room s m ([.ref a0, .int i1, .int i2, .int i3, .int i4] : List Value).toArray below meth c H locs 0 0 (MQ below (va_Qi (fun r' (_ : Unit) => r' = r) (fun (_ : Unit) t => hW D dA classes b0 nx h' t.heap) (hA b0)) ([.ref a0, .int i1, .int i2, .int i3, .int i4] : List Value).toArray s 0 0 (hA b0)) (F0 m 226 ls [])) := by
        intro  eq9 H locs ls hw hS hl
        subst eq9
        cases hrun9
        exact k0  rfl H locs ls hw hS hl
      clear hrun hrun9 ih k0
      have hrun := hbody
      clear hbody
      dsimp only [f_MacroExpandModel_delimited_b181] at hrun
      refine lv_iload hx hb d_MacroExpandModel_delimited_181 (lv_at hl 4 rfl) ?_
      refine lv_aload_n hx hb d_MacroExpandModel_delimited_183 rfl (lv_at hl 0 rfl) ?_
      replace hrun := hb_some hrun
      obtain ⟨v184, g184, hrun⟩ := hrun
      refine h_getR S (fun w q => hT w (i_MacroExpandModel w q)) hK (ci := 1) rfl 19 (by decide) (hT _ fl_MacroExpandModel_47) hw g184 d_MacroExpandModel_delimited_184 ?_
      refine lv_iload_n hx hb d_MacroExpandModel_delimited_187 rfl (lv_at hl 1 rfl) ?_
      replace hrun := hb_some hrun
      obtain ⟨p188, rfl, hrun⟩ := hrun
      replace hrun := hb_some hrun
      obtain ⟨v188, g188, hrun⟩ := hrun
      refine h_iald S hK (kd := 0) rfl hw g188 d_MacroExpandModel_delimited_188 ?_
      refine lv_icmp_ge (tgt := 226) hx hb d_MacroExpandModel_delimited_189 (by decide) (fun c189 => ?_) (fun c189 => ?_)
      · rw [if_pos c189] at hrun
        cases hrun
        exact K1  rfl H locs ls hw hS (lv_sub hl [0, 2, 3] rfl)
      · rw [if_neg c189] at hrun
        refine lv_aload_n hx hb d_MacroExpandModel_delimited_192 rfl (lv_at hl 0 rfl) ?_
        replace hrun := hb_some hrun
        obtain ⟨v193, g193, hrun⟩ := hrun
        refine h_getR S (fun w q => hT w (i_MacroExpandModel w q)) hK (ci := 1) rfl 20 (by decide) (hT _ fl_MacroExpandModel_50) hw g193 d_MacroExpandModel_delimited_193 ?_
        refine lv_sipush (v := (400 : Int32)) hx hb d_MacroExpandModel_delimited_196 (by decide) ?_
        refine lv_iload_n hx hb d_MacroExpandModel_delimited_199 rfl (lv_at hl 1 rfl) ?_
        refine lv_imul hx hb d_MacroExpandModel_delimited_200 ?_
        refine lv_iload hx hb d_MacroExpandModel_delimited_201 (lv_at hl 4 rfl) ?_
        refine lv_iadd hx hb d_MacroExpandModel_delimited_203 ?_
        refine lv_aload_n hx hb d_MacroExpandModel_delimited_204 rfl (lv_at hl 0 rfl) ?_
        replace hrun := hb_some hrun
        obtain ⟨v205, g205, hrun⟩ := hrun
        refine h_getR S (fun w q => hT w (i_MacroExpandModel w q)) hK (ci := 1) rfl 20 (by decide) (hT _ fl_MacroExpandModel_50) hw g205 d_MacroExpandModel_delimited_205 ?_
        refine lv_sipush (v := (400 : Int32)) hx hb d_MacroExpandModel_delimited_208 (by decide) ?_
        refine lv_iload_n hx hb d_MacroExpandModel_delimited_211 rfl (lv_at hl 1 rfl) ?_
        refine lv_imul hx hb d_MacroExpandModel_delimited_212 ?_
        refine lv_iload hx hb d_MacroExpandModel_delimited_213 (lv_at hl 4 rfl) ?_
        refine lv_iadd hx hb d_MacroExpandModel_delimited_215 ?_
        refine lv_iconst (v := (1 : Int32)) hx hb d_MacroExpandModel_delimited_216 (by decide) ?_
        refine lv_iadd hx hb d_MacroExpandModel_delimited_217 ?_
        replace hrun := hb_some hrun
        obtain ⟨p218, rfl, hrun⟩ := hrun
        replace hrun := hb_some hrun
        obtain ⟨v218, g218, hrun⟩ := hrun
        refine h_iald S hK (kd := 0) rfl hw g218 d_MacroExpandModel_delimited_218 ?_
        replace hrun := hb_some hrun
        obtain ⟨p219, rfl, hrun⟩ := hrun
        replace hrun := hb_some hrun
        obtain ⟨h219, g219, hrun⟩ := hrun
        refine h_iast S hK (kd := 0) rfl hw hS g219 d_MacroExpandModel_delimited_219 (fun H locs hw hS => ?_)
        refine lv_iinc (v := (x8 + (1 : Int32))) (lv' := [(8, .int (x8 + (1 : Int32))), (0, .ref a0), (1, .int x1), (2, .int x2), (5, .int x5)]) hx hb d_MacroExpandModel_delimited_220 hl (k := 4) rfl rfl (by decide) rfl (fun ls hl => ?_)
        refine lv_goto (tgt := 181) hx hb d_MacroExpandModel_delimited_223 (by decide) ?_
        cases hrun
        exact K0 (x8 + (1 : Int32)) rfl H locs ls hw hS (lv_sub hl [1, 2, 3, 4, 0] rfl)
  have l_9 : ∀ (x1 : Int32) (x2 : Int32) (x3 : Int32) (x4 : Int32) (n9 : Nat) (x9 : Int32 × Int32 × Int32) (h : hH) (b9 : (Int32 × Int32)) (h9 : hH) (H : Heap) (locs : List Loc) (ls : Array Slot), hloopW (f_MacroExpandModel_delimited_b9 n a0 x1 x2 x3 x4) n9 x9 h = some (b9, h9) → hW D dA classes b0 nx h H → va_S (hA b0) s.heap H locs → lv_has ls 9 (match x9 with | (x5, x6, x7) => [(0, .ref a0), (1, .int x1), (2, .int x2), (3, .int x3), (4, .int x4), (5, .int x5), (6, .int x6), (7, .int x7)]) → (∀ (z5 : Int32) (z7 : Int32), b9 = (z5, z7) → ∀ (H : Heap) (locs : List Loc) (ls : Array Slot), hW D dA classes b0 nx h9 H → va_S (hA b0) s.heap H locs → lv_has ls 9 [(0, .ref a0), (1, .int x1), (2, .int x2), (5, .int z5), (7, .int z7)] → W p l e (headSpec w_MacroExpandModel_delimited ({ frames := 4, cells := 0, slots := 0, locals := 86 } : Room)).room s m ([.ref a0, .int i1, .int i2, .int i3, .int i4] : List Value).toArray below meth c H locs 0 0 (MQ below (va_Qi (fun r' (_ : Unit) => r' = r) (fun (_ : Unit) t => hW D dA classes b0 nx h' t.heap) (hA b0)) ([.ref a0, .int i1, .int i2, .int i3, .int i4] : List Value).toArray s 0 0 (hA b0)) (F0 m 146 ls [])) → W p l e (headSpec w_MacroExpandModel_delimited ({ frames := 4, cells := 0, slots := 0, locals := 86 } : Room)).room s m ([.ref a0, .int i1, .int i2, .int i3, .int i4] : List Value).toArray below meth c H locs 0 0 (MQ below (va_Qi (fun r' (_ : Unit) => r' = r) (fun (_ : Unit) t => hW D dA classes b0 nx h' t.heap) (hA b0)) ([.ref a0, .int i1, .int i2, .int i3, .int i4] : List Value).toArray s 0 0 (hA b0)) (F0 m 9 ls []) := by
    intro x1 x2 x3 x4 n9
    induction n9 with
    | zero =>
      intro x9 h b9 h9 H locs ls hrun
      cases hrun
    | succ n9 ih =>
      rintro ⟨x5, x6, x7⟩ h b9 h9 H locs ls hrun hw hS hl k0
      have hl : lv_has ls 9 [(0, .ref a0), (1, .int x1), (2, .int x2), (3, .int x3), (4, .int x4), (5, .int x5), (6, .int x6), (7, .int x7)] := hl
      unfold hloopW at hrun
      obtain ⟨q9, h9b, hbody, hrun9⟩ := hbW_some hrun
      have K0 : (∀ (z5 : Int32) (z6 : Int32) (z7 : Int32), q9 = .inl (z5, z6, z7) → ∀ (H : Heap) (locs : List Loc) (ls : Array Slot), hW D dA classes b0 nx h9b H → va_S (hA b0) s.heap H locs → lv_has ls 9 [(0, .ref a0), (1, .int x1), (2, .int x2), (3, .int x3), (4, .int x4), (5, .int z5), (6, .int z6), (7, .int z7)] → W p l e (headSpec w_MacroExpandModel_delimited ({ frames := 4, cells := 0, slots := 0, locals := 86 } : Room)).room s m ([.ref a0, .int i1, .int i2, .int i3, .int i4] : List Value).toArray below meth c H locs 0 0 (MQ below (va_Qi (fun r' (_ : Unit) => r' = r) (fun (_ : Unit) t => hW D dA classes b0 nx h' t.heap) (hA b0)) ([.ref a0, .int i1, .int i2, .int i3, .int i4] : List Value).toArray s 0 0 (hA b0)) (F0 m 9 ls [])) := by
        intro z5 z6 z7 eq9 H locs ls hw hS hl
        subst eq9
        exact ih (z5, z6, z7) h9b b9 h9 H locs ls hrun9 hw hS hl k0
      have K1 : (∀ (z5 : Int32) (z7 : Int32), q9 = .inr (z5, z7) → ∀ (H : Heap) (locs : List Loc) (ls : Array Slot), hW D dA classes b0 nx h9b H → va_S (hA b0) s.heap H locs → lv_has ls 9 [(0, .ref a0), (1, .int x1), (2, .int x2), (5, .int z5), (7, .int z7)] → W p l e (headSpec w_MacroExpandModel_delimited ({ frames := 4, cells := 0, slots := 0, locals := 86 } : Room)).room s m ([.ref a0, .int i1, .int i2, .int i3, .int i4] : List Value).toArray below meth c H locs 0 0 (MQ below (va_Qi (fun r' (_ : Unit) => r' = r) (fun (_ : Unit) t => hW D dA classes b0 nx h' t.heap) (hA b0)) ([.ref a0, .int i1, .int i2, .int i3, .int i4] : List Value).toArray s 0 0 (hA b0)) (F0 m 146 ls [])) := by
        intro z5 z7 eq9 H locs ls hw hS hl
        subst eq9
        cases hrun9
        exact k0 _ _ rfl H locs ls hw hS hl
      clear hrun hrun9 ih k0
      have hrun := hbody
      clear hbody
      have j_140 : ∀  (x1 : Int32) (x2 : Int32) (x3 : Int32) (x4 : Int32) (x5 : Int32) (x6 : Int32) (x7 : Int32) (q9 : (Int32 × Int32 × Int32) ⊕ ((Int32 × Int32))) (h9 : hH) (h : hH) (H : Heap) (locs : List Loc) (ls : Array Slot), f_MacroExpandModel_delimited_j140 n a0 x1 x2 x3 x4 x5 x6 x7 h = some (q9, h9) → hW D dA classes b0 nx h H → va_S (hA b0) s.heap H locs → lv_has ls 9 [(0, .ref a0), (1, .int x1), (2, .int x2), (3, .int x3), (4, .int x4), (5, .int x5), (6, .int x6), (7, .int x7)] → (∀ (z5 : Int32) (z6 : Int32) (z7 : Int32), q9 = .inl (z5, z6, z7) → ∀ (H : Heap) (locs : List Loc) (ls : Array Slot), hW D dA classes b0 nx h9 H → va_S (hA b0) s.heap H locs → lv_has ls 9 [(0, .ref a0), (1, .int x1), (2, .int x2), (3, .int x3), (4, .int x4), (5, .int z5), (6, .int z6), (7, .int z7)] → W p l e (headSpec w_MacroExpandModel_delimited ({ frames := 4, cells := 0, slots := 0, locals := 86 } : Room)).room s m ([.ref a0, .int i1, .int i2, .int i3, .int i4] : List Value).toArray below meth c H locs 0 0 (MQ below (va_Qi (fun r' (_ : Unit) => r' = r) (fun (_ : Unit) t => hW D dA classes b0 nx h' t.heap) (hA b0)) ([.ref a0, .int i1, .int i2, .int i3, .int i4] : List Value).toArray s 0 0 (hA b0)) (F0 m 9 ls [])) → (∀ (z5 : Int32) (z7 : Int32), q9 = .inr (z5, z7) → ∀ (H : Heap) (locs : List Loc) (ls : Array Slot), hW D dA classes b0 nx h9 H → va_S (hA b0) s.heap H locs → lv_has ls 9 [(0, .ref a0), (1, .int x1), (2, .int x2), (5, .int z5), (7, .int z7)] → W p l e (headSpec w_MacroExpandModel_delimited ({ frames := 4, cells := 0, slots := 0, locals := 86 } : Room)).room s m ([.ref a0, .int i1, .int i2, .int i3, .int i4] : List Value).toArray below meth c H locs 0 0 (MQ below (va_Qi (fun r' (_ : Unit) => r' = r) (fun (_ : Unit) t => hW D dA classes b0 nx h' t.heap) (hA b0)) ([.ref a0, .int i1, .int i2, .int i3, .int i4] : List Value).toArray s 0 0 (hA b0)) (F0 m 146 ls [])) → W p l e (headSpec w_MacroExpandModel_delimited ({ frames := 4, cells := 0, slots := 0, locals := 86 } : Room)).room s m ([.ref a0, .int i1, .int i2, .int i3, .int i4] : List Value).toArray below meth c H locs 0 0 (MQ below (va_Qi (fun r' (_ : Unit) => r' = r) (fun (_ : Unit) t => hW D dA classes b0 nx h' t.heap) (hA b0)) ([.ref a0, .int i1, .int i2, .int i3, .int i4] : List Value).toArray s 0 0 (hA b0)) (F0 m 140 ls []) := by
        intro x1 x2 x3 x4 x5 x6 x7 q9 h9 h H locs ls hrun hw hS hl k0 k1
        unfold f_MacroExpandModel_delimited_j140 at hrun
        refine lv_iinc (v := (x5 + (1 : Int32))) (lv' := [(5, .int (x5 + (1 : Int32))), (0, .ref a0), (1, .int x1), (2, .int x2), (3, .int x3), (4, .int x4), (6, .int x6), (7, .int x7)]) hx hb d_MacroExpandModel_delimited_140 hl (k := 5) rfl rfl (by decide) rfl (fun ls hl => ?_)
        refine lv_goto (tgt := 9) hx hb d_MacroExpandModel_delimited_143 (by decide) ?_
        cases hrun
        exact k0 (x5 + (1 : Int32)) x6 x7 rfl H locs ls hw hS (lv_sub hl [1, 2, 3, 4, 5, 0, 6, 7] rfl)
      have j_130 : ∀  (x1 : Int32) (x2 : Int32) (x3 : Int32) (x4 : Int32) (x5 : Int32) (x7 : Int32) (x8 : Int32) (y0 : Int32) (y1 : Int32) (q9 : (Int32 × Int32 × Int32) ⊕ ((Int32 × Int32))) (h9 : hH) (h : hH) (H : Heap) (locs : List Loc) (ls : Array Slot), f_MacroExpandModel_delimited_j130 n a0 x1 x2 x3 x4 x5 x7 x8 y0 y1 h = some (q9, h9) → hW D dA classes b0 nx h H → va_S (hA b0) s.heap H locs → lv_has ls 9 [(0, .ref a0), (1, .int x1), (2, .int x2), (3, .int x3), (4, .int x4), (5, .int x5), (7, .int x7), (8, .int x8)] → (∀ (z5 : Int32) (z6 : Int32) (z7 : Int32), q9 = .inl (z5, z6, z7) → ∀ (H : Heap) (locs : List Loc) (ls : Array Slot), hW D dA classes b0 nx h9 H → va_S (hA b0) s.heap H locs → lv_has ls 9 [(0, .ref a0), (1, .int x1), (2, .int x2), (3, .int x3), (4, .int x4), (5, .int z5), (6, .int z6), (7, .int z7)] → W p l e (headSpec w_MacroExpandModel_delimited ({ frames := 4, cells := 0, slots := 0, locals := 86 } : Room)).room s m ([.ref a0, .int i1, .int i2, .int i3, .int i4] : List Value).toArray below meth c H locs 0 0 (MQ below (va_Qi (fun r' (_ : Unit) => r' = r) (fun (_ : Unit) t => hW D dA classes b0 nx h' t.heap) (hA b0)) ([.ref a0, .int i1, .int i2, .int i3, .int i4] : List Value).toArray s 0 0 (hA b0)) (F0 m 9 ls [])) → (∀ (z5 : Int32) (z7 : Int32), q9 = .inr (z5, z7) → ∀ (H : Heap) (locs : List Loc) (ls : Array Slot), hW D dA classes b0 nx h9 H → va_S (hA b0) s.heap H locs → lv_has ls 9 [(0, .ref a0), (1, .int x1), (2, .int x2), (5, .int z5), (7, .int z7)] → W p l e (headSpec w_MacroExpandModel_delimited ({ frames := 4, cells := 0, slots := 0, locals := 86 } : Room)).room s m ([.ref a0, .int i1, .int i2, .int i3, .int i4] : List Value).toArray below meth c H locs 0 0 (MQ below (va_Qi (fun r' (_ : Unit) => r' = r) (fun (_ : Unit) t => hW D dA classes b0 nx h' t.heap) (hA b0)) ([.ref a0, .int i1, .int i2, .int i3, .int i4] : List Value).toArray s 0 0 (hA b0)) (F0 m 146 ls [])) → W p l e (headSpec w_MacroExpandModel_delimited ({ frames := 4, cells := 0, slots := 0, locals := 86 } : Room)).room s m ([.ref a0, .int i1, .int i2, .int i3, .int i4] : List Value).toArray below meth c H locs 0 0 (MQ below (va_Qi (fun r' (_ : Unit) => r' = r) (fun (_ : Unit) t => hW D dA classes b0 nx h' t.heap) (hA b0)) ([.ref a0, .int i1, .int i2, .int i3, .int i4] : List Value).toArray s 0 0 (hA b0)) (F0 m 130 ls [.int y1, .int y0]) := by
        intro x1 x2 x3 x4 x5 x7 x8 y0 y1 q9 h9 h H locs ls hrun hw hS hl k0 k1
        unfold f_MacroExpandModel_delimited_j130 at hrun
        refine lv_iadd hx hb d_MacroExpandModel_delimited_130 ?_
        refine lv_istore (lv' := [(6, .int (y0 + y1)), (0, .ref a0), (1, .int x1), (2, .int x2), (3, .int x3), (4, .int x4), (5, .int x5), (7, .int x7), (8, .int x8)]) hx hb d_MacroExpandModel_delimited_131 hl (by decide) rfl (fun ls hl => ?_)
        refine lv_aload_n hx hb d_MacroExpandModel_delimited_133 rfl (lv_at hl 1 rfl) ?_
        refine lv_iload_n hx hb d_MacroExpandModel_delimited_134 rfl (lv_at hl 2 rfl) ?_
        refine lv_iload hx hb d_MacroExpandModel_delimited_135 (lv_at hl 8 rfl) ?_
        replace hrun := hb_some hrun
        obtain ⟨c137, k137, hrun⟩ := hrun
        replace hrun := hbW_some hrun
        obtain ⟨_u137, h137, g137, hrun⟩ := hrun
        refine h_cv (h_runV S (As := [.int x1, .int x8]) (rest := []) (c_MacroExpandModel_give l D dA b0 a0 x1 x8 nx g137) (cwV 2 S.2.2.2.2 (h_good _ (h_in4 ml_MacroExpandModel_131 im_MacroExpandModel_give se_MacroExpandModel_give it_MacroExpandModel) cd_MacroExpandModel_give) rfl rfl rfl (by decide +kernel) ⟨Nat.le_of_ble_eq_true rfl, Nat.le_of_ble_eq_true rfl⟩) hK hN hw (ci := 1) rfl k137 rfl hl.1 (lv_room (Nat.le_of_ble_eq_true rfl)) d_MacroExpandModel_delimited_137 ⟨Nat.le_refl _, Nat.le_refl _⟩) hS (fun H locs hw hS => ?_)
        exact j_140 x1 x2 x3 x4 x5 (y0 + y1) x7 _ _ h137 _ _ _ hrun hw hS (lv_sub hl [1, 2, 3, 4, 5, 6, 0, 7] rfl) k0 k1
      have j_103 : ∀  (x1 : Int32) (x2 : Int32) (x3 : Int32) (x4 : Int32) (x5 : Int32) (x6 : Int32) (x7 : Int32) (x8 : Int32) (q9 : (Int32 × Int32 × Int32) ⊕ ((Int32 × Int32))) (h9 : hH) (h : hH) (H : Heap) (locs : List Loc) (ls : Array Slot), f_MacroExpandModel_delimited_j103 n a0 x1 x2 x3 x4 x5 x6 x7 x8 h = some (q9, h9) → hW D dA classes b0 nx h H → va_S (hA b0) s.heap H locs → lv_has ls 9 [(0, .ref a0), (1, .int x1), (2, .int x2), (3, .int x3), (4, .int x4), (5, .int x5), (6, .int x6), (7, .int x7), (8, .int x8)] → (∀ (z5 : Int32) (z6 : Int32) (z7 : Int32), q9 = .inl (z5, z6, z7) → ∀ (H : Heap) (locs : List Loc) (ls : Array Slot), hW D dA classes b0 nx h9 H → va_S (hA b0) s.heap H locs → lv_has ls 9 [(0, .ref a0), (1, .int x1), (2, .int x2), (3, .int x3), (4, .int x4), (5, .int z5), (6, .int z6), (7, .int z7)] → W p l e (headSpec w_MacroExpandModel_delimited ({ frames := 4, cells := 0, slots := 0, locals := 86 } : Room)).room s m ([.ref a0, .int i1, .int i2, .int i3, .int i4] : List Value).toArray below meth c H locs 0 0 (MQ below (va_Qi (fun r' (_ : Unit) => r' = r) (fun (_ : Unit) t => hW D dA classes b0 nx h' t.heap) (hA b0)) ([.ref a0, .int i1, .int i2, .int i3, .int i4] : List Value).toArray s 0 0 (hA b0)) (F0 m 9 ls [])) → (∀ (z5 : Int32) (z7 : Int32), q9 = .inr (z5, z7) → ∀ (H : Heap) (locs : List Loc) (ls : Array Slot), hW D dA classes b0 nx h9 H → va_S (hA b0) s.heap H locs → lv_has ls 9 [(0, .ref a0), (1, .int x1), (2, .int x2), (5, .int z5), (7, .int z7)] → W p l e (headSpec w_MacroExpandModel_delimited ({ frames := 4, cells := 0, slots := 0, locals := 86 } : Room)).room s m ([.ref a0, .int i1, .int i2, .int i3, .int i4] : List Value).toArray below meth c H locs 0 0 (MQ below (va_Qi (fun r' (_ : Unit) => r' = r) (fun (_ : Unit) t => hW D dA classes b0 nx h' t.heap) (hA b0)) ([.ref a0, .int i1, .int i2, .int i3, .int i4] : List Value).toArray s 0 0 (hA b0)) (F0 m 146 ls [])) → W p l e (headSpec w_MacroExpandModel_delimited ({ frames := 4, cells := 0, slots := 0, locals := 86 } : Room)).room s m ([.ref a0, .int i1, .int i2, .int i3, .int i4] : List Value).toArray below meth c H locs 0 0 (MQ below (va_Qi (fun r' (_ : Unit) => r' = r) (fun (_ : Unit) t => hW D dA classes b0 nx h' t.heap) (hA b0)) ([.ref a0, .int i1, .int i2, .int i3, .int i4] : List Value).toArray s 0 0 (hA b0)) (F0 m 103 ls []) := by
        intro x1 x2 x3 x4 x5 x6 x7 x8 q9 h9 h H locs ls hrun hw hS hl k0 k1
        unfold f_MacroExpandModel_delimited_j103 at hrun
        refine lv_iload hx hb d_MacroExpandModel_delimited_103 (lv_at hl 6 rfl) ?_
        refine lv_iload hx hb d_MacroExpandModel_delimited_105 (lv_at hl 8 rfl) ?_
        refine lv_sipush (v := (257 : Int32)) hx hb d_MacroExpandModel_delimited_107 (by decide) ?_
        refine lv_icmp_ne (tgt := 117) hx hb d_MacroExpandModel_delimited_110 (by decide) (fun c110 => ?_) (fun c110 => ?_)
        · rw [if_neg c110] at hrun
          refine lv_iload hx hb d_MacroExpandModel_delimited_117 (lv_at hl 8 rfl) ?_
          refine lv_sipush (v := (258 : Int32)) hx hb d_MacroExpandModel_delimited_119 (by decide) ?_
          refine lv_icmp_ne (tgt := 129) hx hb d_MacroExpandModel_delimited_122 (by decide) (fun c122 => ?_) (fun c122 => ?_)
          · rw [if_neg c122] at hrun
            refine lv_iconst (v := (0 : Int32)) hx hb d_MacroExpandModel_delimited_129 (by decide) ?_
            exact j_130 x1 x2 x3 x4 x5 x7 x8 x6 (0 : Int32) _ _ h _ _ _ hrun hw hS (lv_sub hl [0, 1, 2, 3, 4, 5, 7, 8] rfl) k0 k1
          · rw [if_pos c122] at hrun
            refine lv_iconst (v := (-1 : Int32)) hx hb d_MacroExpandModel_delimited_125 (by decide) ?_
            refine lv_goto (tgt := 130) hx hb d_MacroExpandModel_delimited_126 (by decide) ?_
            exact j_130 x1 x2 x3 x4 x5 x7 x8 x6 (-1 : Int32) _ _ h _ _ _ hrun hw hS (lv_sub hl [0, 1, 2, 3, 4, 5, 7, 8] rfl) k0 k1
        · rw [if_pos c110] at hrun
          refine lv_iconst (v := (1 : Int32)) hx hb d_MacroExpandModel_delimited_113 (by decide) ?_
          refine lv_goto (tgt := 130) hx hb d_MacroExpandModel_delimited_114 (by decide) ?_
          exact j_130 x1 x2 x3 x4 x5 x7 x8 x6 (1 : Int32) _ _ h _ _ _ hrun hw hS (lv_sub hl [0, 1, 2, 3, 4, 5, 7, 8] rfl) k0 k1
      have j_79 : ∀  (x1 : Int32) (x2 : Int32) (x3 : Int32) (x4 : Int32) (x5 : Int32) (x6 : Int32) (x8 : Int32) (y0 : Int32) (q9 : (Int32 × Int32 × Int32) ⊕ ((Int32 × Int32))) (h9 : hH) (h : hH) (H : Heap) (locs : List Loc) (ls : Array Slot), f_MacroExpandModel_delimited_j79 n a0 x1 x2 x3 x4 x5 x6 x8 y0 h = some (q9, h9) → hW D dA classes b0 nx h H → va_S (hA b0) s.heap H locs → lv_has ls 9 [(0, .ref a0), (1, .int x1), (2, .int x2), (3, .int x3), (4, .int x4), (5, .int x5), (6, .int x6), (8, .int x8)] → (∀ (z5 : Int32) (z6 : Int32) (z7 : Int32), q9 = .inl (z5, z6, z7) → ∀ (H : Heap) (locs : List Loc) (ls : Array Slot), hW D dA classes b0 nx h9 H → va_S (hA b0) s.heap H locs → lv_has ls 9 [(0, .ref a0), (1, .int x1), (2, .int x2), (3, .int x3), (4, .int x4), (5, .int z5), (6, .int z6), (7, .int z7)] → W p l e (headSpec w_MacroExpandModel_delimited ({ frames := 4, cells := 0, slots := 0, locals := 86 } : Room)).room s m ([.ref a0, .int i1, .int i2, .int i3, .int i4] : List Value).toArray below meth c H locs 0 0 (MQ below (va_Qi (fun r' (_ : Unit) => r' = r) (fun (_ : Unit) t => hW D dA classes b0 nx h' t.heap) (hA b0)) ([.ref a0, .int i1, .int i2, .int i3, .int i4] : List Value).toArray s 0 0 (hA b0)) (F0 m 9 ls [])) → (∀ (z5 : Int32) (z7 : Int32), q9 = .inr (z5, z7) → ∀ (H : Heap) (locs : List Loc) (ls : Array Slot), hW D dA classes b0 nx h9 H → va_S (hA b0) s.heap H locs → lv_has ls 9 [(0, .ref a0), (1, .int x1), (2, .int x2), (5, .int z5), (7, .int z7)] → W p l e (headSpec w_MacroExpandModel_delimited ({ frames := 4, cells := 0, slots := 0, locals := 86 } : Room)).room s m ([.ref a0, .int i1, .int i2, .int i3, .int i4] : List Value).toArray below meth c H locs 0 0 (MQ below (va_Qi (fun r' (_ : Unit) => r' = r) (fun (_ : Unit) t => hW D dA classes b0 nx h' t.heap) (hA b0)) ([.ref a0, .int i1, .int i2, .int i3, .int i4] : List Value).toArray s 0 0 (hA b0)) (F0 m 146 ls [])) → W p l e (headSpec w_MacroExpandModel_delimited ({ frames := 4, cells := 0, slots := 0, locals := 86 } : Room)).room s m ([.ref a0, .int i1, .int i2, .int i3, .int i4] : List Value).toArray below meth c H locs 0 0 (MQ below (va_Qi (fun r' (_ : Unit) => r' = r) (fun (_ : Unit) t => hW D dA classes b0 nx h' t.heap) (hA b0)) ([.ref a0, .int i1, .int i2, .int i3, .int i4] : List Value).toArray s 0 0 (hA b0)) (F0 m 79 ls [.int y0]) := by
        intro x1 x2 x3 x4 x5 x6 x8 y0 q9 h9 h H locs ls hrun hw hS hl k0 k1
        unfold f_MacroExpandModel_delimited_j79 at hrun
        refine lv_istore (lv' := [(7, .int y0), (0, .ref a0), (1, .int x1), (2, .int x2), (3, .int x3), (4, .int x4), (5, .int x5), (6, .int x6), (8, .int x8)]) hx hb d_MacroExpandModel_delimited_79 hl (by decide) rfl (fun ls hl => ?_)
        refine lv_iload hx hb d_MacroExpandModel_delimited_81 (lv_at hl 8 rfl) ?_
        refine lv_sipush (v := (258 : Int32)) hx hb d_MacroExpandModel_delimited_83 (by decide) ?_
        refine lv_icmp_ne (tgt := 103) hx hb d_MacroExpandModel_delimited_86 (by decide) (fun c86 => ?_) (fun c86 => ?_)
        · rw [if_neg c86] at hrun
          exact j_103 x1 x2 x3 x4 x5 x6 y0 x8 _ _ h _ _ _ hrun hw hS (lv_sub hl [1, 2, 3, 4, 5, 6, 7, 0, 8] rfl) k0 k1
        · rw [if_pos c86] at hrun
          refine lv_iload hx hb d_MacroExpandModel_delimited_89 (lv_at hl 7 rfl) ?_
          refine lv_if_ne (tgt := 103) hx hb d_MacroExpandModel_delimited_91 (by decide) (fun c91 => ?_) (fun c91 => ?_)
          · rw [if_neg c91] at hrun
            exact j_103 x1 x2 x3 x4 x5 x6 y0 x8 _ _ h _ _ _ hrun hw hS (lv_sub hl [1, 2, 3, 4, 5, 6, 7, 0, 8] rfl) k0 k1
          · rw [if_pos c91] at hrun
            refine lv_aload_n hx hb d_MacroExpandModel_delimited_94 rfl (lv_at hl 1 rfl) ?_
            refine lv_bipush (v := (7 : Int32)) hx hb d_MacroExpandModel_delimited_95 (by decide) ?_
            replace hrun := hb_some hrun
            obtain ⟨c97, k97, hrun⟩ := hrun
            replace hrun := hbW_some hrun
            obtain ⟨_u97, h97, g97, hrun⟩ := hrun
            refine h_cv (h_runV S (As := [.int (7 : Int32)]) (rest := []) (c_MacroExpandModel_mark l D dA b0 a0 (7 : Int32) nx g97) (cwV 1 S.2.2.2.2 (h_good _ (h_in4 ml_MacroExpandModel_123 im_MacroExpandModel_mark se_MacroExpandModel_mark it_MacroExpandModel) cd_MacroExpandModel_mark) rfl rfl rfl (by decide +kernel) ⟨Nat.le_of_ble_eq_true rfl, Nat.le_of_ble_eq_true rfl⟩) hK hN hw (ci := 1) rfl k97 rfl hl.1 (lv_room (Nat.le_of_ble_eq_true rfl)) d_MacroExpandModel_delimited_97 ⟨Nat.le_refl _, Nat.le_refl _⟩) hS (fun H locs hw hS => ?_)
            refine lv_goto (tgt := 140) hx hb d_MacroExpandModel_delimited_100 (by decide) ?_
            exact j_140 x1 x2 x3 x4 x5 x6 y0 _ _ h97 _ _ _ hrun hw hS (lv_sub hl [1, 2, 3, 4, 5, 6, 7, 0] rfl) k0 k1
      have j_78 : ∀  (x1 : Int32) (x2 : Int32) (x3 : Int32) (x4 : Int32) (x5 : Int32) (x6 : Int32) (x8 : Int32) (q9 : (Int32 × Int32 × Int32) ⊕ ((Int32 × Int32))) (h9 : hH) (h : hH) (H : Heap) (locs : List Loc) (ls : Array Slot), f_MacroExpandModel_delimited_j78 n a0 x1 x2 x3 x4 x5 x6 x8 h = some (q9, h9) → hW D dA classes b0 nx h H → va_S (hA b0) s.heap H locs → lv_has ls 9 [(0, .ref a0), (1, .int x1), (2, .int x2), (3, .int x3), (4, .int x4), (5, .int x5), (6, .int x6), (8, .int x8)] → (∀ (z5 : Int32) (z6 : Int32) (z7 : Int32), q9 = .inl (z5, z6, z7) → ∀ (H : Heap) (locs : List Loc) (ls : Array Slot), hW D dA classes b0 nx h9 H → va_S (hA b0) s.heap H locs → lv_has ls 9 [(0, .ref a0), (1, .int x1), (2, .int x2), (3, .int x3), (4, .int x4), (5, .int z5), (6, .int z6), (7, .int z7)] → W p l e (headSpec w_MacroExpandModel_delimited ({ frames := 4, cells := 0, slots := 0, locals := 86 } : Room)).room s m ([.ref a0, .int i1, .int i2, .int i3, .int i4] : List Value).toArray below meth c H locs 0 0 (MQ below (va_Qi (fun r' (_ : Unit) => r' = r) (fun (_ : Unit) t => hW D dA classes b0 nx h' t.heap) (hA b0)) ([.ref a0, .int i1, .int i2, .int i3, .int i4] : List Value).toArray s 0 0 (hA b0)) (F0 m 9 ls [])) → (∀ (z5 : Int32) (z7 : Int32), q9 = .inr (z5, z7) → ∀ (H : Heap) (locs : List Loc) (ls : Array Slot), hW D dA classes b0 nx h9 H → va_S (hA b0) s.heap H locs → lv_has ls 9 [(0, .ref a0), (1, .int x1), (2, .int x2), (5, .int z5), (7, .int z7)] → W p l e (headSpec w_MacroExpandModel_delimited ({ frames := 4, cells := 0, slots := 0, locals := 86 } : Room)).room s m ([.ref a0, .int i1, .int i2, .int i3, .int i4] : List Value).toArray below meth c H locs 0 0 (MQ below (va_Qi (fun r' (_ : Unit) => r' = r) (fun (_ : Unit) t => hW D dA classes b0 nx h' t.heap) (hA b0)) ([.ref a0, .int i1, .int i2, .int i3, .int i4] : List Value).toArray s 0 0 (hA b0)) (F0 m 146 ls [])) → W p l e (headSpec w_MacroExpandModel_delimited ({ frames := 4, cells := 0, slots := 0, locals := 86 } : Room)).room s m ([.ref a0, .int i1, .int i2, .int i3, .int i4] : List Value).toArray below meth c H locs 0 0 (MQ below (va_Qi (fun r' (_ : Unit) => r' = r) (fun (_ : Unit) t => hW D dA classes b0 nx h' t.heap) (hA b0)) ([.ref a0, .int i1, .int i2, .int i3, .int i4] : List Value).toArray s 0 0 (hA b0)) (F0 m 78 ls []) := by
        intro x1 x2 x3 x4 x5 x6 x8 q9 h9 h H locs ls hrun hw hS hl k0 k1
        unfold f_MacroExpandModel_delimited_j78 at hrun
        refine lv_iconst (v := (0 : Int32)) hx hb d_MacroExpandModel_delimited_78 (by decide) ?_
        exact j_79 x1 x2 x3 x4 x5 x6 x8 (0 : Int32) _ _ h _ _ _ hrun hw hS (lv_sub hl [0, 1, 2, 3, 4, 5, 6, 7] rfl) k0 k1
      have j_74 : ∀  (x1 : Int32) (x2 : Int32) (x3 : Int32) (x4 : Int32) (x5 : Int32) (x6 : Int32) (x8 : Int32) (q9 : (Int32 × Int32 × Int32) ⊕ ((Int32 × Int32))) (h9 : hH) (h : hH) (H : Heap) (locs : List Loc) (ls : Array Slot), f_MacroExpandModel_delimited_j74 n a0 x1 x2 x3 x4 x5 x6 x8 h = some (q9, h9) → hW D dA classes b0 nx h H → va_S (hA b0) s.heap H locs → lv_has ls 9 [(0, .ref a0), (1, .int x1), (2, .int x2), (3, .int x3), (4, .int x4), (5, .int x5), (6, .int x6), (8, .int x8)] → (∀ (z5 : Int32) (z6 : Int32) (z7 : Int32), q9 = .inl (z5, z6, z7) → ∀ (H : Heap) (locs : List Loc) (ls : Array Slot), hW D dA classes b0 nx h9 H → va_S (hA b0) s.heap H locs → lv_has ls 9 [(0, .ref a0), (1, .int x1), (2, .int x2), (3, .int x3), (4, .int x4), (5, .int z5), (6, .int z6), (7, .int z7)] → W p l e (headSpec w_MacroExpandModel_delimited ({ frames := 4, cells := 0, slots := 0, locals := 86 } : Room)).room s m ([.ref a0, .int i1, .int i2, .int i3, .int i4] : List Value).toArray below meth c H locs 0 0 (MQ below (va_Qi (fun r' (_ : Unit) => r' = r) (fun (_ : Unit) t => hW D dA classes b0 nx h' t.heap) (hA b0)) ([.ref a0, .int i1, .int i2, .int i3, .int i4] : List Value).toArray s 0 0 (hA b0)) (F0 m 9 ls [])) → (∀ (z5 : Int32) (z7 : Int32), q9 = .inr (z5, z7) → ∀ (H : Heap) (locs : List Loc) (ls : Array Slot), hW D dA classes b0 nx h9 H → va_S (hA b0) s.heap H locs → lv_has ls 9 [(0, .ref a0), (1, .int x1), (2, .int x2), (5, .int z5), (7, .int z7)] → W p l e (headSpec w_MacroExpandModel_delimited ({ frames := 4, cells := 0, slots := 0, locals := 86 } : Room)).room s m ([.ref a0, .int i1, .int i2, .int i3, .int i4] : List Value).toArray below meth c H locs 0 0 (MQ below (va_Qi (fun r' (_ : Unit) => r' = r) (fun (_ : Unit) t => hW D dA classes b0 nx h' t.heap) (hA b0)) ([.ref a0, .int i1, .int i2, .int i3, .int i4] : List Value).toArray s 0 0 (hA b0)) (F0 m 146 ls [])) → W p l e (headSpec w_MacroExpandModel_delimited ({ frames := 4, cells := 0, slots := 0, locals := 86 } : Room)).room s m ([.ref a0, .int i1, .int i2, .int i3, .int i4] : List Value).toArray below meth c H locs 0 0 (MQ below (va_Qi (fun r' (_ : Unit) => r' = r) (fun (_ : Unit) t => hW D dA classes b0 nx h' t.heap) (hA b0)) ([.ref a0, .int i1, .int i2, .int i3, .int i4] : List Value).toArray s 0 0 (hA b0)) (F0 m 74 ls []) := by
        intro x1 x2 x3 x4 x5 x6 x8 q9 h9 h H locs ls hrun hw hS hl k0 k1
        unfold f_MacroExpandModel_delimited_j74 at hrun
        refine lv_iconst (v := (1 : Int32)) hx hb d_MacroExpandModel_delimited_74 (by decide) ?_
        refine lv_goto (tgt := 79) hx hb d_MacroExpandModel_delimited_75 (by decide) ?_
        exact j_79 x1 x2 x3 x4 x5 x6 x8 (1 : Int32) _ _ h _ _ _ hrun hw hS (lv_sub hl [0, 1, 2, 3, 4, 5, 6, 7] rfl) k0 k1
      have j_31 : ∀  (x1 : Int32) (x2 : Int32) (x3 : Int32) (x4 : Int32) (x5 : Int32) (x6 : Int32) (x7 : Int32) (q9 : (Int32 × Int32 × Int32) ⊕ ((Int32 × Int32))) (h9 : hH) (h : hH) (H : Heap) (locs : List Loc) (ls : Array Slot), f_MacroExpandModel_delimited_j31 n a0 x1 x2 x3 x4 x5 x6 x7 h = some (q9, h9) → hW D dA classes b0 nx h H → va_S (hA b0) s.heap H locs → lv_has ls 9 [(0, .ref a0), (1, .int x1), (2, .int x2), (3, .int x3), (4, .int x4), (5, .int x5), (6, .int x6), (7, .int x7)] → (∀ (z5 : Int32) (z6 : Int32) (z7 : Int32), q9 = .inl (z5, z6, z7) → ∀ (H : Heap) (locs : List Loc) (ls : Array Slot), hW D dA classes b0 nx h9 H → va_S (hA b0) s.heap H locs → lv_has ls 9 [(0, .ref a0), (1, .int x1), (2, .int x2), (3, .int x3), (4, .int x4), (5, .int z5), (6, .int z6), (7, .int z7)] → W p l e (headSpec w_MacroExpandModel_delimited ({ frames := 4, cells := 0, slots := 0, locals := 86 } : Room)).room s m ([.ref a0, .int i1, .int i2, .int i3, .int i4] : List Value).toArray below meth c H locs 0 0 (MQ below (va_Qi (fun r' (_ : Unit) => r' = r) (fun (_ : Unit) t => hW D dA classes b0 nx h' t.heap) (hA b0)) ([.ref a0, .int i1, .int i2, .int i3, .int i4] : List Value).toArray s 0 0 (hA b0)) (F0 m 9 ls [])) → (∀ (z5 : Int32) (z7 : Int32), q9 = .inr (z5, z7) → ∀ (H : Heap) (locs : List Loc) (ls : Array Slot), hW D dA classes b0 nx h9 H → va_S (hA b0) s.heap H locs → lv_has ls 9 [(0, .ref a0), (1, .int x1), (2, .int x2), (5, .int z5), (7, .int z7)] → W p l e (headSpec w_MacroExpandModel_delimited ({ frames := 4, cells := 0, slots := 0, locals := 86 } : Room)).room s m ([.ref a0, .int i1, .int i2, .int i3, .int i4] : List Value).toArray below meth c H locs 0 0 (MQ below (va_Qi (fun r' (_ : Unit) => r' = r) (fun (_ : Unit) t => hW D dA classes b0 nx h' t.heap) (hA b0)) ([.ref a0, .int i1, .int i2, .int i3, .int i4] : List Value).toArray s 0 0 (hA b0)) (F0 m 146 ls [])) → W p l e (headSpec w_MacroExpandModel_delimited ({ frames := 4, cells := 0, slots := 0, locals := 86 } : Room)).room s m ([.ref a0, .int i1, .int i2, .int i3, .int i4] : List Value).toArray below meth c H locs 0 0 (MQ below (va_Qi (fun r' (_ : Unit) => r' = r) (fun (_ : Unit) t => hW D dA classes b0 nx h' t.heap) (hA b0)) ([.ref a0, .int i1, .int i2, .int i3, .int i4] : List Value).toArray s 0 0 (hA b0)) (F0 m 31 ls []) := by
        intro x1 x2 x3 x4 x5 x6 x7 q9 h9 h H locs ls hrun hw hS hl k0 k1
        unfold f_MacroExpandModel_delimited_j31 at hrun
        refine lv_aload_n hx hb d_MacroExpandModel_delimited_31 rfl (lv_at hl 0 rfl) ?_
        refine lv_iload hx hb d_MacroExpandModel_delimited_32 (lv_at hl 5 rfl) ?_
        refine lv_iload hx hb d_MacroExpandModel_delimited_34 (lv_at hl 4 rfl) ?_
        replace hrun := hb_some hrun
        obtain ⟨c36, k36, hrun⟩ := hrun
        replace hrun := hbW_some hrun
        obtain ⟨v36, h36, g36, hrun⟩ := hrun
        refine h_ci (h_runV S (As := [.int x5, .int x4]) (rest := []) (c_MacroExpandModel_isThere l D dA b0 a0 x5 x4 nx g36) (cwV 2 S.2.2.2.2 (h_good _ (h_in4 ml_MacroExpandModel_127 im_MacroExpandModel_isThere se_MacroExpandModel_isThere it_MacroExpandModel) cd_MacroExpandModel_isThere) rfl rfl rfl (by decide +kernel) ⟨Nat.le_of_ble_eq_true rfl, Nat.le_of_ble_eq_true rfl⟩) hK hN hw (ci := 1) rfl k36 rfl hl.1 (lv_room (Nat.le_of_ble_eq_true rfl)) d_MacroExpandModel_delimited_36 ⟨Nat.le_refl _, Nat.le_refl _⟩) hS (fun H locs hw hS => ?_)
        refine lv_if_eq (tgt := 9) hx hb d_MacroExpandModel_delimited_39 (by decide) (fun c39 => ?_) (fun c39 => ?_)
        · rw [if_pos c39] at hrun
          cases hrun
          exact k0 x5 x6 x7 rfl H locs ls hw hS (lv_sub hl [0, 1, 2, 3, 4, 5, 6, 7] rfl)
        · rw [if_neg c39] at hrun
          refine lv_aload_n hx hb d_MacroExpandModel_delimited_42 rfl (lv_at hl 0 rfl) ?_
          refine lv_iload hx hb d_MacroExpandModel_delimited_43 (lv_at hl 5 rfl) ?_
          replace hrun := hb_some hrun
          obtain ⟨c45, k45, hrun⟩ := hrun
          replace hrun := hb_some hrun
          obtain ⟨v45, g45, hrun⟩ := hrun
          refine h_ci (h_runV S (As := [.int x5]) (rest := []) (c_MacroExpandModel_get l D dA b0 a0 x5 nx g45) (cwV 1 S.2.2.2.2 (h_good _ (h_in4 ml_MacroExpandModel_116 im_MacroExpandModel_get se_MacroExpandModel_get it_MacroExpandModel) cd_MacroExpandModel_get) rfl rfl rfl (by decide +kernel) ⟨Nat.le_of_ble_eq_true rfl, Nat.le_of_ble_eq_true rfl⟩) hK hN hw (ci := 1) rfl k45 rfl hl.1 (lv_room (Nat.le_of_ble_eq_true rfl)) d_MacroExpandModel_delimited_45 ⟨Nat.le_refl _, Nat.le_refl _⟩) hS (fun H locs hw hS => ?_)
          refine lv_istore (lv' := [(8, .int v45), (0, .ref a0), (1, .int x1), (2, .int x2), (3, .int x3), (4, .int x4), (5, .int x5), (6, .int x6), (7, .int x7)]) hx hb d_MacroExpandModel_delimited_48 hl (by decide) rfl (fun ls hl => ?_)
          refine lv_iload hx hb d_MacroExpandModel_delimited_50 (lv_at hl 8 rfl) ?_
          refine lv_if_eq (tgt := 78) hx hb d_MacroExpandModel_delimited_52 (by decide) (fun c52 => ?_) (fun c52 => ?_)
          · rw [if_pos c52] at hrun
            exact j_78 x1 x2 x3 x4 x5 x6 v45 _ _ h36 _ _ _ hrun hw hS (lv_sub hl [1, 2, 3, 4, 5, 6, 7, 0] rfl) k0 k1
          · rw [if_neg c52] at hrun
            refine lv_iload hx hb d_MacroExpandModel_delimited_55 (lv_at hl 7 rfl) ?_
            refine lv_if_gt (tgt := 74) hx hb d_MacroExpandModel_delimited_57 (by decide) (fun c57 => ?_) (fun c57 => ?_)
            · rw [if_pos c57] at hrun
              exact j_74 x1 x2 x3 x4 x5 x6 v45 _ _ h36 _ _ _ hrun hw hS (lv_sub hl [1, 2, 3, 4, 5, 6, 7, 0] rfl) k0 k1
            · rw [if_neg c57] at hrun
              refine lv_iload hx hb d_MacroExpandModel_delimited_60 (lv_at hl 6 rfl) ?_
              refine lv_iload_n hx hb d_MacroExpandModel_delimited_62 rfl (lv_at hl 4 rfl) ?_
              refine lv_icmp_ne (tgt := 78) hx hb d_MacroExpandModel_delimited_63 (by decide) (fun c63 => ?_) (fun c63 => ?_)
              · rw [if_neg c63] at hrun
                exact j_78 x1 x2 x3 x4 x5 x6 v45 _ _ h36 _ _ _ hrun hw hS (lv_sub hl [1, 2, 3, 4, 5, 6, 7, 0] rfl) k0 k1
              · rw [if_pos c63] at hrun
                refine lv_iload hx hb d_MacroExpandModel_delimited_66 (lv_at hl 0 rfl) ?_
                refine lv_sipush (v := (257 : Int32)) hx hb d_MacroExpandModel_delimited_68 (by decide) ?_
                refine lv_icmp_ne (tgt := 78) hx hb d_MacroExpandModel_delimited_71 (by decide) (fun c71 => ?_) (fun c71 => ?_)
                · rw [if_neg c71] at hrun
                  exact j_78 x1 x2 x3 x4 x5 x6 v45 _ _ h36 _ _ _ hrun hw hS (lv_sub hl [1, 2, 3, 4, 5, 6, 7, 0] rfl) k0 k1
                · rw [if_pos c71] at hrun
                  exact j_74 x1 x2 x3 x4 x5 x6 v45 _ _ h36 _ _ _ hrun hw hS (lv_sub hl [1, 2, 3, 4, 5, 6, 7, 0] rfl) k0 k1
      dsimp only [f_MacroExpandModel_delimited_b9] at hrun
      refine lv_aload_n hx hb d_MacroExpandModel_delimited_9 rfl (lv_at hl 0 rfl) ?_
      replace hrun := hb_some hrun
      obtain ⟨v10, g10, hrun⟩ := hrun
      refine h_getI S (fun w q => hT w (i_MacroExpandModel w q)) hK (ci := 1) rfl 21 (by decide) (hT _ fl_MacroExpandModel_113) hw g10 d_MacroExpandModel_delimited_10 ?_
      refine lv_if_ne (tgt := 146) hx hb d_MacroExpandModel_delimited_13 (by decide) (fun c13 => ?_) (fun c13 => ?_)
      · rw [if_neg c13] at hrun
        cases hrun
        exact K1 x5 x7 rfl H locs ls hw hS (lv_sub hl [0, 1, 2, 5, 7] rfl)
      · rw [if_pos c13] at hrun
        refine lv_iload hx hb d_MacroExpandModel_delimited_16 (lv_at hl 6 rfl) ?_
        refine lv_if_ne (tgt := 31) hx hb d_MacroExpandModel_delimited_18 (by decide) (fun c18 => ?_) (fun c18 => ?_)
        · rw [if_neg c18] at hrun
          exact j_31 x1 x2 x3 x4 x5 x6 x7 _ _ h _ _ _ hrun hw hS (lv_sub hl [0, 1, 2, 3, 4, 5, 6, 7] rfl) K0 K1
        · rw [if_pos c18] at hrun
          refine lv_aload_n hx hb d_MacroExpandModel_delimited_21 rfl (lv_at hl 0 rfl) ?_
          refine lv_iload_n hx hb d_MacroExpandModel_delimited_22 rfl (lv_at hl 2 rfl) ?_
          refine lv_iload hx hb d_MacroExpandModel_delimited_23 (lv_at hl 5 rfl) ?_
          replace hrun := hb_some hrun
          obtain ⟨c25, k25, hrun⟩ := hrun
          replace hrun := hb_some hrun
          obtain ⟨v25, g25, hrun⟩ := hrun
          refine h_ci (h_runV S (As := [.int x2, .int x5]) (rest := []) (c_MacroExpandModel_rowComes l D dA b0 n a0 x2 x5 nx g25) (cwV 2 S.2.2.2.2 (h_good _ (h_in4 ml_MacroExpandModel_135 im_MacroExpandModel_rowComes se_MacroExpandModel_rowComes it_MacroExpandModel) cd_MacroExpandModel_rowComes) rfl rfl rfl (by decide +kernel) ⟨Nat.le_of_ble_eq_true rfl, Nat.le_of_ble_eq_true rfl⟩) hK hN hw (ci := 1) rfl k25 rfl hl.1 (lv_room (Nat.le_of_ble_eq_true rfl)) d_MacroExpandModel_delimited_25 ⟨Nat.le_refl _, Nat.le_refl _⟩) hS (fun H locs hw hS => ?_)
          refine lv_if_ne (tgt := 146) hx hb d_MacroExpandModel_delimited_28 (by decide) (fun c28 => ?_) (fun c28 => ?_)
          · rw [if_neg c28] at hrun
            cases hrun
            exact K1 x5 x7 rfl H locs ls hw hS (lv_sub hl [0, 1, 2, 5, 7] rfl)
          · rw [if_pos c28] at hrun
            exact j_31 x1 x2 x3 x4 x5 x6 x7 _ _ h _ _ _ hrun hw hS (lv_sub hl [0, 1, 2, 3, 4, 5, 6, 7] rfl) K0 K1
  unfold f_MacroExpandModel_delimited at hrun
  refine lv_iload_n hx hb d_MacroExpandModel_delimited_0 rfl (lv_at hl 3 rfl) ?_
  refine lv_istore (lv' := [(5, .int i3), (0, .ref a0), (1, .int i1), (2, .int i2), (3, .int i3), (4, .int i4)]) hx hb d_MacroExpandModel_delimited_1 hl (by decide) rfl (fun ls hl => ?_)
  refine lv_iconst (v := (0 : Int32)) hx hb d_MacroExpandModel_delimited_3 (by decide) ?_
  refine lv_istore (lv' := [(6, .int (0 : Int32)), (5, .int i3), (0, .ref a0), (1, .int i1), (2, .int i2), (3, .int i3), (4, .int i4)]) hx hb d_MacroExpandModel_delimited_4 hl (by decide) rfl (fun ls hl => ?_)
  refine lv_iconst (v := (1 : Int32)) hx hb d_MacroExpandModel_delimited_6 (by decide) ?_
  refine lv_istore (lv' := [(7, .int (1 : Int32)), (6, .int (0 : Int32)), (5, .int i3), (0, .ref a0), (1, .int i1), (2, .int i2), (3, .int i3), (4, .int i4)]) hx hb d_MacroExpandModel_delimited_7 hl (by decide) rfl (fun ls hl => ?_)
  replace hrun := hbW_some hrun
  obtain ⟨b9, h9l, g9, hrun⟩ := hrun
  refine l_9 i1 i2 i3 i4 n (i3, (0 : Int32), (1 : Int32)) h _ _ _ _ _ g9 hw hS (lv_sub hl [3, 4, 5, 6, 7, 2, 1, 0] rfl) ?_
  · rintro x5_9 x7_9 eq9 H locs ls hw hS hl
    obtain rfl := eq9.symm
    try dsimp only at hrun
    refine lv_aload_n hx hb d_MacroExpandModel_delimited_146 rfl (lv_at hl 0 rfl) ?_
    replace hrun := hb_some hrun
    obtain ⟨v147, g147, hrun⟩ := hrun
    refine h_getI S (fun w q => hT w (i_MacroExpandModel w q)) hK (ci := 1) rfl 21 (by decide) (hT _ fl_MacroExpandModel_113) hw g147 d_MacroExpandModel_delimited_147 ?_
    refine lv_if_ne (tgt := 226) hx hb d_MacroExpandModel_delimited_150 (by decide) (fun c150 => ?_) (fun c150 => ?_)
    · rw [if_neg c150] at hrun
      exact j_226 i2 x5_9 h9l _ _ _ hrun hw hS (lv_sub hl [0, 2, 3] rfl)
    · rw [if_pos c150] at hrun
      refine lv_iload hx hb d_MacroExpandModel_delimited_153 (lv_at hl 4 rfl) ?_
      refine lv_if_eq (tgt := 226) hx hb d_MacroExpandModel_delimited_155 (by decide) (fun c155 => ?_) (fun c155 => ?_)
      · rw [if_pos c155] at hrun
        exact j_226 i2 x5_9 h9l _ _ _ hrun hw hS (lv_sub hl [0, 2, 3] rfl)
      · rw [if_neg c155] at hrun
        refine lv_aload_n hx hb d_MacroExpandModel_delimited_158 rfl (lv_at hl 0 rfl) ?_
        replace hrun := hb_some hrun
        obtain ⟨v159, g159, hrun⟩ := hrun
        refine h_getR S (fun w q => hT w (i_MacroExpandModel w q)) hK (ci := 1) rfl 19 (by decide) (hT _ fl_MacroExpandModel_47) hw g159 d_MacroExpandModel_delimited_159 ?_
        refine lv_iload_n hx hb d_MacroExpandModel_delimited_162 rfl (lv_at hl 1 rfl) ?_
        replace hrun := hb_some hrun
        obtain ⟨p163, rfl, hrun⟩ := hrun
        replace hrun := hb_some hrun
        obtain ⟨v163, g163, hrun⟩ := hrun
        refine h_iald S hK (kd := 0) rfl hw g163 d_MacroExpandModel_delimited_163 ?_
        refine lv_iconst (v := (1 : Int32)) hx hb d_MacroExpandModel_delimited_164 (by decide) ?_
        refine lv_icmp_le (tgt := 226) hx hb d_MacroExpandModel_delimited_165 (by decide) (fun c165 => ?_) (fun c165 => ?_)
        · rw [if_pos c165] at hrun
          exact j_226 i2 x5_9 h9l _ _ _ hrun hw hS (lv_sub hl [0, 2, 3] rfl)
        · rw [if_neg c165] at hrun
          refine lv_aload_n hx hb d_MacroExpandModel_delimited_168 rfl (lv_at hl 0 rfl) ?_
          replace hrun := hb_some hrun
          obtain ⟨v169, g169, hrun⟩ := hrun
          refine h_getR S (fun w q => hT w (i_MacroExpandModel w q)) hK (ci := 1) rfl 19 (by decide) (hT _ fl_MacroExpandModel_47) hw g169 d_MacroExpandModel_delimited_169 ?_
          refine lv_iload_n hx hb d_MacroExpandModel_delimited_172 rfl (lv_at hl 1 rfl) ?_
          refine lv_dup2_11 hx hb d_MacroExpandModel_delimited_173 rfl (h_cat _) ?_
          replace hrun := hb_some hrun
          obtain ⟨p174, rfl, hrun⟩ := hrun
          replace hrun := hb_some hrun
          obtain ⟨v174, g174, hrun⟩ := hrun
          refine h_iald S hK (kd := 0) rfl hw g174 d_MacroExpandModel_delimited_174 ?_
          refine lv_iconst (v := (2 : Int32)) hx hb d_MacroExpandModel_delimited_175 (by decide) ?_
          refine lv_isub hx hb d_MacroExpandModel_delimited_176 ?_
          replace hrun := hb_some hrun
          obtain ⟨h177, g177, hrun⟩ := hrun
          refine h_iast S hK (kd := 0) rfl hw hS g177 d_MacroExpandModel_delimited_177 (fun H locs hw hS => ?_)
          refine lv_iconst (v := (0 : Int32)) hx hb d_MacroExpandModel_delimited_178 (by decide) ?_
          refine lv_istore (lv' := [(8, .int (0 : Int32)), (0, .ref a0), (1, .int i1), (2, .int i2), (5, .int x5_9), (7, .int x7_9)]) hx hb d_MacroExpandModel_delimited_179 hl (by decide) rfl (fun ls hl => ?_)
          replace hrun := hbW_some hrun
          obtain ⟨b181, h181l, g181, hrun⟩ := hrun
          refine l_181 i1 i2 x5_9 n (0 : Int32) h177 _ _ _ _ _ g181 hw hS (lv_sub hl [1, 2, 3, 4, 0] rfl) ?_
          · rintro  eq9 H locs ls hw hS hl
            obtain rfl := eq9.symm
            try dsimp only at hrun
            exact j_226 i2 x5_9 h181l _ _ _ hrun hw hS (lv_sub hl [0, 1, 2] rfl)
set_option maxHeartbeats 4000000 in
set_option maxRecDepth 100000 in
theorem c_MacroExpandModel_comes (l : Launch) (D : va_G) (dA : Nat → ClassId) (b0 : Nat) (n : Nat) (a0 : Nat) (i1 : Int32) (nx : Nat) {h : hH} {r : Int32} (hrun : f_MacroExpandModel_comes n a0 i1 h = some r) : Met l y_MacroExpandModel_comes w_MacroExpandModel_comes ({ frames := 1, cells := 0, slots := 0, locals := 22 } : Room) (va_Pc [.ref a0, .int i1] (hB D dA b0 nx h)) (va_Qi (fun r' (_ : Unit) => r' = r) (fun (_ : Unit) t => hW D dA classes b0 nx h t.heap) (hA b0)) 0 0 (hA b0) := by
  refine Met.ofW (cc := b_MacroExpandModel_comes) (maxL := 6) (ret := (some .int)) (by decide) rfl ?_
  intro p e s m args below meth c s₁ B hml hv
  obtain ⟨rfl, hw, hK, hN⟩ := hv
  have hx := B.exec
  have hb := B.bytes
  have hr := B.returns
  have hlocks := B.notSynchronized
  have S : CallFix p m c b_MacroExpandModel_comes 6 s ([.ref a0, .int i1] : List Value).toArray w_MacroExpandModel_comes R_MacroExpandModel := ⟨hx, hb, hml, findClass_of_methodNamed B.named, atoms_spec (ws := w_MacroExpandModel_comes) B.pre⟩
  have hT : ∀ w ∈ tbl, w ∈ w_MacroExpandModel_comes := fun _ q => List.mem_cons_of_mem _ q
  have hS : va_S (hA b0) s.heap s.heap [] := va_S.rf
  have hl := lv_entry ([.ref a0, .int i1]) (n := 6) (Nat.le_of_ble_eq_true rfl)
  rw [lg_entry_eq]
  generalize (lg_sl ([.ref a0, .int i1]) ++ List.replicate (6 - (lg_sl ([.ref a0, .int i1])).length) Slot.unset).toArray = ls at hl ⊢
  have hl : lv_has ls 6 [(0, .ref a0), (1, .int i1)] := hl
  have l_4 : ∀ (x1 : Int32) (n9 : Nat) (x9 : Int32 × Int32) (b9 : (Int32)) (H : Heap) (locs : List Loc) (ls : Array Slot), hloopR (f_MacroExpandModel_comes_b4 n a0 x1 h) n9 x9 = some b9 → hW D dA classes b0 nx h H → va_S (hA b0) s.heap H locs → lv_has ls 6 (match x9 with | (x2, x3) => [(0, .ref a0), (1, .int x1), (2, .int x2), (3, .int x3)]) → (∀ (z2 : Int32), b9 = z2 → ∀ (H : Heap) (locs : List Loc) (ls : Array Slot), hW D dA classes b0 nx h H → va_S (hA b0) s.heap H locs → lv_has ls 6 [(2, .int z2)] → W p l e (headSpec w_MacroExpandModel_comes ({ frames := 1, cells := 0, slots := 0, locals := 22 } : Room)).room s m ([.ref a0, .int i1] : List Value).toArray below meth c H locs 0 0 (MQ below (va_Qi (fun r' (_ : Unit) => r' = r) (fun (_ : Unit) t => hW D dA classes b0 nx h t.heap) (hA b0)) ([.ref a0, .int i1] : List Value).toArray s 0 0 (hA b0)) (F0 m 89 ls [])) → W p l e (headSpec w_MacroExpandModel_comes ({ frames := 1, cells := 0, slots := 0, locals := 22 } : Room)).room s m ([.ref a0, .int i1] : List Value).toArray below meth c H locs 0 0 (MQ below (va_Qi (fun r' (_ : Unit) => r' = r) (fun (_ : Unit) t => hW D dA classes b0 nx h t.heap) (hA b0)) ([.ref a0, .int i1] : List Value).toArray s 0 0 (hA b0)) (F0 m 4 ls []) := by
    intro x1 n9
    induction n9 with
    | zero =>
      intro x9 b9 H locs ls hrun
      cases hrun
    | succ n9 ih =>
      rintro ⟨x2, x3⟩ b9 H locs ls hrun hw hS hl k0
      have hl : lv_has ls 6 [(0, .ref a0), (1, .int x1), (2, .int x2), (3, .int x3)] := hl
      unfold hloopR at hrun
      obtain ⟨q9, hbody, hrun9⟩ := hb_some hrun
      have K0 : (∀ (z2 : Int32) (z3 : Int32), q9 = .inl (z2, z3) → ∀ (H : Heap) (locs : List Loc) (ls : Array Slot), hW D dA classes b0 nx h H → va_S (hA b0) s.heap H locs → lv_has ls 6 [(0, .ref a0), (1, .int x1), (2, .int z2), (3, .int z3)] → W p l e (headSpec w_MacroExpandModel_comes ({ frames := 1, cells := 0, slots := 0, locals := 22 } : Room)).room s m ([.ref a0, .int i1] : List Value).toArray below meth c H locs 0 0 (MQ below (va_Qi (fun r' (_ : Unit) => r' = r) (fun (_ : Unit) t => hW D dA classes b0 nx h t.heap) (hA b0)) ([.ref a0, .int i1] : List Value).toArray s 0 0 (hA b0)) (F0 m 4 ls [])) := by
        intro z2 z3 eq9 H locs ls hw hS hl
        subst eq9
        exact ih (z2, z3) b9 H locs ls hrun9 hw hS hl k0
      have K1 : (∀ (z2 : Int32), q9 = .inr z2 → ∀ (H : Heap) (locs : List Loc) (ls : Array Slot), hW D dA classes b0 nx h H → va_S (hA b0) s.heap H locs → lv_has ls 6 [(2, .int z2)] → W p l e (headSpec w_MacroExpandModel_comes ({ frames := 1, cells := 0, slots := 0, locals := 22 } : Room)).room s m ([.ref a0, .int i1] : List Value).toArray below meth c H locs 0 0 (MQ below (va_Qi (fun r' (_ : Unit) => r' = r) (fun (_ : Unit) t => hW D dA classes b0 nx h t.heap) (hA b0)) ([.ref a0, .int i1] : List Value).toArray s 0 0 (hA b0)) (F0 m 89 ls [])) := by
        intro z2 eq9 H locs ls hw hS hl
        subst eq9
        cases hrun9
        exact k0 _ rfl H locs ls hw hS hl
      clear hrun hrun9 ih k0
      have hrun := hbody
      clear hbody
      have j_81 : ∀  (x1 : Int32) (x3 : Int32) (y0 : Int32) (y1 : Int32) (q9 : (Int32 × Int32) ⊕ ((Int32))) (H : Heap) (locs : List Loc) (ls : Array Slot), f_MacroExpandModel_comes_j81 n a0 x1 x3 y0 y1 h = some q9 → hW D dA classes b0 nx h H → va_S (hA b0) s.heap H locs → lv_has ls 6 [(0, .ref a0), (1, .int x1), (3, .int x3)] → (∀ (z2 : Int32) (z3 : Int32), q9 = .inl (z2, z3) → ∀ (H : Heap) (locs : List Loc) (ls : Array Slot), hW D dA classes b0 nx h H → va_S (hA b0) s.heap H locs → lv_has ls 6 [(0, .ref a0), (1, .int x1), (2, .int z2), (3, .int z3)] → W p l e (headSpec w_MacroExpandModel_comes ({ frames := 1, cells := 0, slots := 0, locals := 22 } : Room)).room s m ([.ref a0, .int i1] : List Value).toArray below meth c H locs 0 0 (MQ below (va_Qi (fun r' (_ : Unit) => r' = r) (fun (_ : Unit) t => hW D dA classes b0 nx h t.heap) (hA b0)) ([.ref a0, .int i1] : List Value).toArray s 0 0 (hA b0)) (F0 m 4 ls [])) → (∀ (z2 : Int32), q9 = .inr z2 → ∀ (H : Heap) (locs : List Loc) (ls : Array Slot), hW D dA classes b0 nx h H → va_S (hA b0) s.heap H locs → lv_has ls 6 [(2, .int z2)] → W p l e (headSpec w_MacroExpandModel_comes ({ frames := 1, cells := 0, slots := 0, locals := 22 } : Room)).room s m ([.ref a0, .int i1] : List Value).toArray below meth c H locs 0 0 (MQ below (va_Qi (fun r' (_ : Unit) => r' = r) (fun (_ : Unit) t => hW D dA classes b0 nx h t.heap) (hA b0)) ([.ref a0, .int i1] : List Value).toArray s 0 0 (hA b0)) (F0 m 89 ls [])) → W p l e (headSpec w_MacroExpandModel_comes ({ frames := 1, cells := 0, slots := 0, locals := 22 } : Room)).room s m ([.ref a0, .int i1] : List Value).toArray below meth c H locs 0 0 (MQ below (va_Qi (fun r' (_ : Unit) => r' = r) (fun (_ : Unit) t => hW D dA classes b0 nx h t.heap) (hA b0)) ([.ref a0, .int i1] : List Value).toArray s 0 0 (hA b0)) (F0 m 81 ls [.int y1, .int y0]) := by
        intro x1 x3 y0 y1 q9 H locs ls hrun hw hS hl k0 k1
        unfold f_MacroExpandModel_comes_j81 at hrun
        refine lv_iadd hx hb d_MacroExpandModel_comes_81 ?_
        refine lv_istore_n (lv' := [(2, .int (y0 + y1)), (0, .ref a0), (1, .int x1), (3, .int x3)]) hx hb d_MacroExpandModel_comes_82 rfl hl (by decide) rfl (fun ls hl => ?_)
        refine lv_iinc (v := (x3 + (1 : Int32))) (lv' := [(3, .int (x3 + (1 : Int32))), (2, .int (y0 + y1)), (0, .ref a0), (1, .int x1)]) hx hb d_MacroExpandModel_comes_83 hl (k := 3) rfl rfl (by decide) rfl (fun ls hl => ?_)
        refine lv_goto (tgt := 4) hx hb d_MacroExpandModel_comes_86 (by decide) ?_
        cases hrun
        exact k0 (y0 + y1) (x3 + (1 : Int32)) rfl H locs ls hw hS (lv_sub hl [2, 3, 1, 0] rfl)
      dsimp only [f_MacroExpandModel_comes_b4] at hrun
      refine lv_iload_n hx hb d_MacroExpandModel_comes_4 rfl (lv_at hl 3 rfl) ?_
      refine lv_aload_n hx hb d_MacroExpandModel_comes_5 rfl (lv_at hl 0 rfl) ?_
      replace hrun := hb_some hrun
      obtain ⟨v6, g6, hrun⟩ := hrun
      refine h_getR S (fun w q => hT w (i_MacroExpandModel w q)) hK (ci := 1) rfl 9 (by decide) (hT _ fl_MacroExpandModel_22) hw g6 d_MacroExpandModel_comes_6 ?_
      refine lv_iload_n hx hb d_MacroExpandModel_comes_9 rfl (lv_at hl 1 rfl) ?_
      replace hrun := hb_some hrun
      obtain ⟨p10, rfl, hrun⟩ := hrun
      replace hrun := hb_some hrun
      obtain ⟨v10, g10, hrun⟩ := hrun
      refine h_iald S hK (kd := 0) rfl hw g10 d_MacroExpandModel_comes_10 ?_
      refine lv_icmp_ge (tgt := 89) hx hb d_MacroExpandModel_comes_11 (by decide) (fun c11 => ?_) (fun c11 => ?_)
      · rw [if_pos c11] at hrun
        cases hrun
        exact K1 x2 rfl H locs ls hw hS (lv_sub hl [2] rfl)
      · rw [if_neg c11] at hrun
        refine lv_aload_n hx hb d_MacroExpandModel_comes_14 rfl (lv_at hl 0 rfl) ?_
        replace hrun := hb_some hrun
        obtain ⟨v15, g15, hrun⟩ := hrun
        refine h_getR S (fun w q => hT w (i_MacroExpandModel w q)) hK (ci := 1) rfl 10 (by decide) (hT _ fl_MacroExpandModel_25) hw g15 d_MacroExpandModel_comes_15 ?_
        refine lv_sipush (v := (200 : Int32)) hx hb d_MacroExpandModel_comes_18 (by decide) ?_
        refine lv_iload_n hx hb d_MacroExpandModel_comes_21 rfl (lv_at hl 1 rfl) ?_
        refine lv_imul hx hb d_MacroExpandModel_comes_22 ?_
        refine lv_iload_n hx hb d_MacroExpandModel_comes_23 rfl (lv_at hl 3 rfl) ?_
        refine lv_iadd hx hb d_MacroExpandModel_comes_24 ?_
        replace hrun := hb_some hrun
        obtain ⟨p25, rfl, hrun⟩ := hrun
        replace hrun := hb_some hrun
        obtain ⟨v25, g25, hrun⟩ := hrun
        refine h_iald S hK (kd := 0) rfl hw g25 d_MacroExpandModel_comes_25 ?_
        refine lv_istore (lv' := [(4, .int v25), (0, .ref a0), (1, .int x1), (2, .int x2), (3, .int x3)]) hx hb d_MacroExpandModel_comes_26 hl (by decide) rfl (fun ls hl => ?_)
        refine lv_iload hx hb d_MacroExpandModel_comes_28 (lv_at hl 0 rfl) ?_
        refine lv_sipush (v := (311 : Int32)) hx hb d_MacroExpandModel_comes_30 (by decide) ?_
        refine lv_sipush (v := (319 : Int32)) hx hb d_MacroExpandModel_comes_33 (by decide) ?_
        replace hrun := hb_some hrun
        obtain ⟨v36, g36, hrun⟩ := hrun
        refine h_ci (h_runS S (As := [.int v25, .int (311 : Int32), .int (319 : Int32)]) (rest := []) (c_MacroExpandModel_in l D dA b0 v25 (311 : Int32) (319 : Int32) nx g36) (va_cwS 3 S.2.2.2.2 (h_good _ (h_in3 ml_MacroExpandModel_83 sm_MacroExpandModel_in it_MacroExpandModel) cd_MacroExpandModel_in) rfl rfl rfl (by decide +kernel) ⟨Nat.le_of_ble_eq_true rfl, Nat.le_of_ble_eq_true rfl⟩) hK hN hw rfl hl.1 (lv_room (Nat.le_of_ble_eq_true rfl)) d_MacroExpandModel_comes_36 ⟨Nat.le_refl _, Nat.le_refl _⟩) hS (fun H locs hw hS => ?_)
        refine lv_istore (lv' := [(5, .int v36), (4, .int v25), (0, .ref a0), (1, .int x1), (2, .int x2), (3, .int x3)]) hx hb d_MacroExpandModel_comes_39 hl (by decide) rfl (fun ls hl => ?_)
        refine lv_iload_n hx hb d_MacroExpandModel_comes_41 rfl (lv_at hl 4 rfl) ?_
        refine lv_iload hx hb d_MacroExpandModel_comes_42 (lv_at hl 0 rfl) ?_
        refine lv_if_ne (tgt := 51) hx hb d_MacroExpandModel_comes_44 (by decide) (fun c44 => ?_) (fun c44 => ?_)
        · rw [if_neg c44] at hrun
          refine lv_iload hx hb d_MacroExpandModel_comes_51 (lv_at hl 1 rfl) ?_
          refine lv_sipush (v := (310 : Int32)) hx hb d_MacroExpandModel_comes_53 (by decide) ?_
          refine lv_isub hx hb d_MacroExpandModel_comes_56 ?_
          refine lv_aload_n hx hb d_MacroExpandModel_comes_57 rfl (lv_at hl 2 rfl) ?_
          replace hrun := hb_some hrun
          obtain ⟨v58, g58, hrun⟩ := hrun
          refine h_getR S (fun w q => hT w (i_MacroExpandModel w q)) hK (ci := 1) rfl 7 (by decide) (hT _ fl_MacroExpandModel_16) hw g58 d_MacroExpandModel_comes_58 ?_
          refine lv_iload_n hx hb d_MacroExpandModel_comes_61 rfl (lv_at hl 3 rfl) ?_
          replace hrun := hb_some hrun
          obtain ⟨p62, rfl, hrun⟩ := hrun
          replace hrun := hb_some hrun
          obtain ⟨v62, g62, hrun⟩ := hrun
          refine h_iald S hK (kd := 0) rfl hw g62 d_MacroExpandModel_comes_62 ?_
          refine lv_icmp_gt (tgt := 80) hx hb d_MacroExpandModel_comes_63 (by decide) (fun c63 => ?_) (fun c63 => ?_)
          · rw [if_pos c63] at hrun
            refine lv_iconst (v := (0 : Int32)) hx hb d_MacroExpandModel_comes_80 (by decide) ?_
            exact j_81 x1 x3 x2 (0 : Int32) _ _ _ _ hrun hw hS (lv_sub hl [2, 3, 5] rfl) K0 K1
          · rw [if_neg c63] at hrun
            refine lv_aload_n hx hb d_MacroExpandModel_comes_66 rfl (lv_at hl 2 rfl) ?_
            replace hrun := hb_some hrun
            obtain ⟨v67, g67, hrun⟩ := hrun
            refine h_getR S (fun w q => hT w (i_MacroExpandModel w q)) hK (ci := 1) rfl 19 (by decide) (hT _ fl_MacroExpandModel_47) hw g67 d_MacroExpandModel_comes_67 ?_
            refine lv_iload hx hb d_MacroExpandModel_comes_70 (lv_at hl 1 rfl) ?_
            refine lv_sipush (v := (310 : Int32)) hx hb d_MacroExpandModel_comes_72 (by decide) ?_
            refine lv_isub hx hb d_MacroExpandModel_comes_75 ?_
            replace hrun := hb_some hrun
            obtain ⟨p76, rfl, hrun⟩ := hrun
            replace hrun := hb_some hrun
            obtain ⟨v76, g76, hrun⟩ := hrun
            refine h_iald S hK (kd := 0) rfl hw g76 d_MacroExpandModel_comes_76 ?_
            refine lv_goto (tgt := 81) hx hb d_MacroExpandModel_comes_77 (by decide) ?_
            exact j_81 x1 x3 x2 v76 _ _ _ _ hrun hw hS (lv_sub hl [2, 3, 5] rfl) K0 K1
        · rw [if_pos c44] at hrun
          refine lv_iconst (v := (1 : Int32)) hx hb d_MacroExpandModel_comes_47 (by decide) ?_
          refine lv_goto (tgt := 81) hx hb d_MacroExpandModel_comes_48 (by decide) ?_
          exact j_81 x1 x3 x2 (1 : Int32) _ _ _ _ hrun hw hS (lv_sub hl [2, 3, 5] rfl) K0 K1
  unfold f_MacroExpandModel_comes at hrun
  refine lv_iconst (v := (0 : Int32)) hx hb d_MacroExpandModel_comes_0 (by decide) ?_
  refine lv_istore_n (lv' := [(2, .int (0 : Int32)), (0, .ref a0), (1, .int i1)]) hx hb d_MacroExpandModel_comes_1 rfl hl (by decide) rfl (fun ls hl => ?_)
  refine lv_iconst (v := (0 : Int32)) hx hb d_MacroExpandModel_comes_2 (by decide) ?_
  refine lv_istore_n (lv' := [(3, .int (0 : Int32)), (2, .int (0 : Int32)), (0, .ref a0), (1, .int i1)]) hx hb d_MacroExpandModel_comes_3 rfl hl (by decide) rfl (fun ls hl => ?_)
  replace hrun := hb_some hrun
  obtain ⟨b4, g4, hrun⟩ := hrun
  refine l_4 i1 n ((0 : Int32), (0 : Int32)) _ _ _ _ g4 hw hS (lv_sub hl [2, 3, 1, 0] rfl) ?_
  · rintro x2_4 eq9 H locs ls hw hS hl
    obtain rfl := eq9.symm
    try dsimp only at hrun
    refine lv_iload_n hx hb d_MacroExpandModel_comes_89 rfl (lv_at hl 0 rfl) ?_
    cases hrun
    exact W.iret hx hb hr (fun t ht hW9 => ⟨⟨_, (), rfl, rfl, by show hW D dA classes b0 _ _ t.heap; rw [ht]; exact hw⟩, hS.F ht⟩) hS.2.2 d_MacroExpandModel_comes_90
