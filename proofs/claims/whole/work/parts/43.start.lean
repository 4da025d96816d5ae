theorem nw_0 : Cond.castable "[I" "java/lang/Cloneable" ∈ lw_tbl := List.mem_append_right _ (List.mem_append_right _ (List.mem_append_left _ (List.mem_of_getElem? (i := 135) rfl : _ ∈ tables_1_2)))
theorem nw_1 : Cond.fieldLinkNest R_MacroExpand 137 R_Row "size" "I" R_MacroExpand ∈ lw_tbl := List.mem_append_right _ (List.mem_append_left _ (List.mem_of_getElem? (i := 137) rfl : _ ∈ tables_1_1))
theorem nw_2 : Cond.fieldLinkNest R_MacroExpand 89 R_Macro "text" "LMacroExpand$Row;" R_MacroExpand ∈ lw_tbl := List.mem_append_right _ (List.mem_append_right _ (List.mem_append_left _ (List.mem_of_getElem? (i := 79) rfl : _ ∈ tables_1_2)))
theorem nw_3 : Cond.fieldLinkNest R_MacroExpand 97 R_Macro "arguments" "I" R_MacroExpand ∈ lw_tbl := List.mem_append_right _ (List.mem_append_right _ (List.mem_append_left _ (List.mem_of_getElem? (i := 71) rfl : _ ∈ tables_1_2)))
theorem nw_4 : Cond.fieldLinkNest R_MacroExpand 112 R_Input "size" "I" R_MacroExpand ∈ lw_tbl := List.mem_append_right _ (List.mem_append_left _ (List.mem_of_getElem? (i := 88) rfl : _ ∈ tables_1_1))
theorem nw_5 : Cond.fieldLinkNest R_Expander 115 R_Input "size" "I" R_MacroExpand ∈ lw_tbl := List.mem_append_right _ (List.mem_append_left _ (List.mem_of_getElem? (i := 89) rfl : _ ∈ tables_1_1))
theorem nw_6 : Cond.fieldLinkNest R_Book 47 R_Macro "isOuter" "Z" R_MacroExpand ∈ lw_tbl := List.mem_append_right _ (List.mem_append_right _ (List.mem_append_left _ (List.mem_of_getElem? (i := 76) rfl : _ ∈ tables_1_2)))
theorem nw_7 : Cond.fieldLinkNest R_Arguments 41 R_Row "size" "I" R_MacroExpand ∈ lw_tbl := List.mem_append_right _ (List.mem_append_left _ (List.mem_of_getElem? (i := 136) rfl : _ ∈ tables_1_1))
theorem nw_8 : Cond.fieldLinkNest R_Arguments 94 R_Macro "isLong" "Z" R_MacroExpand ∈ lw_tbl := List.mem_append_right _ (List.mem_append_right _ (List.mem_append_left _ (List.mem_of_getElem? (i := 74) rfl : _ ∈ tables_1_2)))
theorem nw_9 : Cond.fieldLinkNest R_Input 19 R_Row "size" "I" R_MacroExpand ∈ lw_tbl := List.mem_append_right _ (List.mem_append_left _ (List.mem_of_getElem? (i := 138) rfl : _ ∈ tables_1_1))
theorem nw_10 : Cond.fieldLinkNest R_Expander 181 R_Macro "text" "LMacroExpand$Row;" R_MacroExpand ∈ lw_tbl := List.mem_append_right _ (List.mem_append_right _ (List.mem_append_left _ (List.mem_of_getElem? (i := 81) rfl : _ ∈ tables_1_2)))
theorem nw_11 : Cond.fieldLinkNest R_Expander 156 R_Row "size" "I" R_MacroExpand ∈ lw_tbl := List.mem_append_right _ (List.mem_append_left _ (List.mem_of_getElem? (i := 139) rfl : _ ∈ tables_1_1))
theorem nw_12 : Cond.fieldLinkNest R_Expander 154 R_Macro "arguments" "I" R_MacroExpand ∈ lw_tbl := List.mem_append_right _ (List.mem_append_right _ (List.mem_append_left _ (List.mem_of_getElem? (i := 72) rfl : _ ∈ tables_1_2)))
theorem nw_13 : Cond.fieldLinkNest R_Definition 105 R_Macro "text" "LMacroExpand$Row;" R_MacroExpand ∈ lw_tbl := List.mem_append_right _ (List.mem_append_right _ (List.mem_append_left _ (List.mem_of_getElem? (i := 80) rfl : _ ∈ tables_1_2)))
theorem nw_14 : Cond.fieldLinkNest R_Whole 108 R_Definition "name" "I" R_MacroExpand ∈ lw_tbl := List.mem_append_right _ (List.mem_append_left _ (List.mem_of_getElem? (i := 223) rfl : _ ∈ tables_1_1))
theorem nw_15 : Cond.fieldLinkNest R_Whole 111 R_Expander "nameAtWork" "I" R_MacroExpand ∈ lw_tbl := List.mem_append_right _ (List.mem_append_left _ (List.mem_of_getElem? (i := 173) rfl : _ ∈ tables_1_1))
theorem nw_16 : Cond.fieldLinkNest R_MacroExpand 134 R_Whole "output" "LMacroExpand$Row;" R_MacroExpand ∈ lw_tbl := List.mem_append_right _ (List.mem_append_right _ (List.mem_append_left _ (List.mem_of_getElem? (i := 8) rfl : _ ∈ tables_1_2)))
theorem nw_17 : Cond.fieldLinkNest R_MacroExpand 128 R_Expander "nameAtWork" "I" R_MacroExpand ∈ lw_tbl := List.mem_append_right _ (List.mem_append_left _ (List.mem_of_getElem? (i := 174) rfl : _ ∈ tables_1_1))
theorem nw_18 : Cond.fieldLinkNest R_MacroExpand 144 R_Expander "steps" "I" R_MacroExpand ∈ lw_tbl := List.mem_append_right _ (List.mem_append_left _ (List.mem_of_getElem? (i := 171) rfl : _ ∈ tables_1_1))
theorem nw_19 : Cond.fieldLinkNest R_MacroExpand 150 R_Book "groups" "I" R_MacroExpand ∈ lw_tbl := List.mem_append_right _ (List.mem_append_left _ (List.mem_of_getElem? (i := 50) rfl : _ ∈ tables_1_1))
theorem nw_20 : Cond.fieldLinkNest R_MacroExpand 156 R_Spelling "count" "I" R_MacroExpand ∈ lw_tbl := List.mem_append_right _ (List.mem_append_left _ (List.mem_of_getElem? (i := 72) rfl : _ ∈ tables_1_1))
theorem nw_21 : Cond.fieldLinkNest R_MacroExpand 162 R_Expander "trace" "LMacroExpand$Trace;" R_MacroExpand ∈ lw_tbl := List.mem_append_right _ (List.mem_append_left _ (List.mem_of_getElem? (i := 162) rfl : _ ∈ tables_1_1))
theorem ow_1 : Cond.arrayOver (.object "MacroExpand$Macro") ∈ lw_tbl := List.mem_append_right _ (List.mem_append_left _ (List.mem_of_getElem? (i := 39) rfl : _ ∈ tables_1_1))
theorem ow_2 : Cond.arrayOver (.array .int) ∈ lw_tbl := List.mem_append_right _ (List.mem_append_left _ (List.mem_of_getElem? (i := 44) rfl : _ ∈ tables_1_1))
theorem ow_3 : Cond.arrayOver (.object "MacroExpand$Row") ∈ lw_tbl := List.mem_append_right _ (List.mem_append_left _ (List.mem_of_getElem? (i := 127) rfl : _ ∈ tables_1_1))
theorem iw_MacroExpand : Cond.instantiable R_MacroExpand 7 ∈ lw_tbl := List.mem_append_right _ (List.mem_append_left _ (List.mem_of_getElem? (i := 18) rfl : _ ∈ tables_1_1))
theorem iw_MacroExpandModel : Cond.instantiable R_MacroExpandModel 37 ∈ lw_tbl := List.mem_append_right _ (List.mem_append_right _ (List.mem_append_right _ (List.mem_append_right _ (List.mem_append_left _ (List.mem_of_getElem? (i := 13) rfl : _ ∈ tables_1_4)))))
theorem iw_Arguments : Cond.instantiable R_Arguments 3 ∈ lw_tbl := List.mem_append_right _ (List.mem_append_left _ (List.mem_of_getElem? (i := 121) rfl : _ ∈ tables_1_1))
theorem iw_Book : Cond.instantiable R_Book 5 ∈ lw_tbl := List.mem_append_right _ (List.mem_append_left _ (List.mem_of_getElem? (i := 33) rfl : _ ∈ tables_1_1))
theorem iw_Definition : Cond.instantiable R_Definition 7 ∈ lw_tbl := List.mem_append_right _ (List.mem_append_left _ (List.mem_of_getElem? (i := 211) rfl : _ ∈ tables_1_1))
theorem iw_Expander : Cond.instantiable R_Expander 14 ∈ lw_tbl := List.mem_append_right _ (List.mem_append_left _ (List.mem_of_getElem? (i := 96) rfl : _ ∈ tables_1_1))
theorem iw_Input : Cond.instantiable R_Input 2 ∈ lw_tbl := List.mem_append_right _ (List.mem_append_left _ (List.mem_of_getElem? (i := 81) rfl : _ ∈ tables_1_1))
theorem iw_Macro : Cond.instantiable R_Macro 5 ∈ lw_tbl := List.mem_append_right _ (List.mem_append_right _ (List.mem_append_left _ (List.mem_of_getElem? (i := 57) rfl : _ ∈ tables_1_2)))
theorem iw_Row : Cond.instantiable R_Row 3 ∈ lw_tbl := List.mem_append_right _ (List.mem_append_left _ (List.mem_of_getElem? (i := 128) rfl : _ ∈ tables_1_1))
theorem iw_Spelling : Cond.instantiable R_Spelling 3 ∈ lw_tbl := List.mem_append_right _ (List.mem_append_left _ (List.mem_of_getElem? (i := 64) rfl : _ ∈ tables_1_1))
theorem iw_Trace : Cond.instantiable R_Trace 4 ∈ lw_tbl := List.mem_append_right _ (List.mem_append_left _ (List.mem_of_getElem? (i := 102) rfl : _ ∈ tables_1_1))
theorem iw_Whole : Cond.instantiable R_Whole 7 ∈ lw_tbl := List.mem_append_right _ (List.mem_append_left _ (List.mem_of_getElem? (i := 205) rfl : _ ∈ tables_1_1))
theorem hts_nests {s : State} {A : Array Value} (hts : ∀ w ∈ lw_tbl, w.before A s = true) : ∀ w ∈ nests, va_Nw w s := List.forall_mem_cons.mpr ⟨va_Nw.of rfl (hts _ nw_0), List.forall_mem_cons.mpr ⟨va_Nw.of rfl (hts _ nw_1), List.forall_mem_cons.mpr ⟨va_Nw.of rfl (hts _ nw_2), List.forall_mem_cons.mpr ⟨va_Nw.of rfl (hts _ nw_3), List.forall_mem_cons.mpr ⟨va_Nw.of rfl (hts _ nw_4), List.forall_mem_cons.mpr ⟨va_Nw.of rfl (hts _ nw_5), List.forall_mem_cons.mpr ⟨va_Nw.of rfl (hts _ nw_6), List.forall_mem_cons.mpr ⟨va_Nw.of rfl (hts _ nw_7), List.forall_mem_cons.mpr ⟨va_Nw.of rfl (hts _ nw_8), List.forall_mem_cons.mpr ⟨va_Nw.of rfl (hts _ nw_9), List.forall_mem_cons.mpr ⟨va_Nw.of rfl (hts _ nw_10), List.forall_mem_cons.mpr ⟨va_Nw.of rfl (hts _ nw_11), List.forall_mem_cons.mpr ⟨va_Nw.of rfl (hts _ nw_12), List.forall_mem_cons.mpr ⟨va_Nw.of rfl (hts _ nw_13), List.forall_mem_cons.mpr ⟨va_Nw.of rfl (hts _ nw_14), List.forall_mem_cons.mpr ⟨va_Nw.of rfl (hts _ nw_15), List.forall_mem_cons.mpr ⟨va_Nw.of rfl (hts _ nw_16), List.forall_mem_cons.mpr ⟨va_Nw.of rfl (hts _ nw_17), List.forall_mem_cons.mpr ⟨va_Nw.of rfl (hts _ nw_18), List.forall_mem_cons.mpr ⟨va_Nw.of rfl (hts _ nw_19), List.forall_mem_cons.mpr ⟨va_Nw.of rfl (hts _ nw_20), List.forall_mem_cons.mpr ⟨va_Nw.of rfl (hts _ nw_21), fun _ h => absurd h List.not_mem_nil⟩⟩⟩⟩⟩⟩⟩⟩⟩⟩⟩⟩⟩⟩⟩⟩⟩⟩⟩⟩⟩⟩
theorem start_K {s : State} {A : Array Value} (hts : ∀ w ∈ lw_tbl, w.before A s = true) : ∃ (D : va_G) (dA : Nat → ClassId), va_K D classes (tys dA) s ∧ hNs s := by
  obtain ⟨c0, iS0, hK0⟩ := u_known (C := R_MacroExpand) (T := F_MacroExpand) (N := 7) (n := 7) hts (fun w h => tbl_in w (i_MacroExpand w h)) (hts _ iw_MacroExpand)
  obtain ⟨c1, iS1, hK1⟩ := u_known (C := R_MacroExpandModel) (T := F_MacroExpandModel) (N := 37) (n := 37) hts (fun w h => tbl_in w (i_MacroExpandModel w h)) (hts _ iw_MacroExpandModel)
  obtain ⟨c2, iS2, hK2⟩ := u_known (C := R_Arguments) (T := F_Arguments) (N := 3) (n := 3) hts (fun w h => tbl_in w (i_Arguments w h)) (hts _ iw_Arguments)
  obtain ⟨c3, iS3, hK3⟩ := u_known (C := R_Book) (T := F_Book) (N := 5) (n := 5) hts (fun w h => tbl_in w (i_Book w h)) (hts _ iw_Book)
  obtain ⟨c4, iS4, hK4⟩ := u_known (C := R_Definition) (T := F_Definition) (N := 7) (n := 7) hts (fun w h => tbl_in w (i_Definition w h)) (hts _ iw_Definition)
  obtain ⟨c5, iS5, hK5⟩ := u_known (C := R_Expander) (T := F_Expander) (N := 14) (n := 14) hts (fun w h => tbl_in w (i_Expander w h)) (hts _ iw_Expander)
  obtain ⟨c6, iS6, hK6⟩ := u_known (C := R_Input) (T := F_Input) (N := 2) (n := 2) hts (fun w h => tbl_in w (i_Input w h)) (hts _ iw_Input)
  obtain ⟨c7, iS7, hK7⟩ := u_known (C := R_Macro) (T := F_Macro) (N := 5) (n := 5) hts (fun w h => tbl_in w (i_Macro w h)) (hts _ iw_Macro)
  obtain ⟨c8, iS8, hK8⟩ := u_known (C := R_Row) (T := F_Row) (N := 3) (n := 3) hts (fun w h => tbl_in w (i_Row w h)) (hts _ iw_Row)
  obtain ⟨c9, iS9, hK9⟩ := u_known (C := R_Spelling) (T := F_Spelling) (N := 3) (n := 3) hts (fun w h => tbl_in w (i_Spelling w h)) (hts _ iw_Spelling)
  obtain ⟨c10, iS10, hK10⟩ := u_known (C := R_Trace) (T := F_Trace) (N := 4) (n := 4) hts (fun w h => tbl_in w (i_Trace w h)) (hts _ iw_Trace)
  obtain ⟨c11, iS11, hK11⟩ := u_known (C := R_Whole) (T := F_Whole) (N := 7) (n := 7) hts (fun w h => tbl_in w (i_Whole w h)) (hts _ iw_Whole)
  obtain ⟨dC, dI, hKc⟩ : ∃ (dC : Nat → ClassId) (dI : Nat → Nat → Nat), ∀ (k : Nat) (q : vw_C), classes[k]? = some q → u_Kn s q.1 q.2.1 q.2.2 (dC k) (dI k) := by
    refine ⟨fun k => if k = 0 then c0 else if k = 1 then c1 else if k = 2 then c2 else if k = 3 then c3 else if k = 4 then c4 else if k = 5 then c5 else if k = 6 then c6 else if k = 7 then c7 else if k = 8 then c8 else if k = 9 then c9 else if k = 10 then c10 else c11, fun k => if k = 0 then iS0 else if k = 1 then iS1 else if k = 2 then iS2 else if k = 3 then iS3 else if k = 4 then iS4 else if k = 5 then iS5 else if k = 6 then iS6 else if k = 7 then iS7 else if k = 8 then iS8 else if k = 9 then iS9 else if k = 10 then iS10 else iS11, ?_⟩
    intro k q hq
    match k, hq with
    | 0, hq => cases hq; exact hK0
    | 1, hq => cases hq; exact hK1
    | 2, hq => cases hq; exact hK2
    | 3, hq => cases hq; exact hK3
    | 4, hq => cases hq; exact hK4
    | 5, hq => cases hq; exact hK5
    | 6, hq => cases hq; exact hK6
    | 7, hq => cases hq; exact hK7
    | 8, hq => cases hq; exact hK8
    | 9, hq => cases hq; exact hK9
    | 10, hq => cases hq; exact hK10
    | 11, hq => cases hq; exact hK11
    | k + 12, hq => simp [classes] at hq
  obtain ⟨a0, k0, e0, f0, g0, q0⟩ := Cond.arrayClass_spec (hts _ (tbl_in _ ac_int))
  obtain ⟨e21, a1, k1, f1, -, g1, q1, r1⟩ := Cond.arrayOver_spec (hts _ ow_1)
  obtain ⟨e22, a2, k2, f2, -, g2, q2, r2⟩ := arrayOverA_spec (hts _ ow_2)
  obtain ⟨e23, a3, k3, f3, -, g3, q3, r3⟩ := Cond.arrayOver_spec (hts _ ow_3)
  refine ⟨(dC, dI), fun k => if k = 0 then a0 else if k = 1 then a1 else if k = 2 then a2 else a3, ⟨hKc, ?_⟩, hts_nests hts, ?_, hts _ ow_2⟩
  · intro k q hq
    match k, hq with
    | 0, hq => cases hq; exact ⟨fun n z => ⟨fun k h => (by cases h), k0, g0, e0, q0⟩, f0⟩
    | 1, hq => cases hq; exact ⟨fun n z => ⟨fun k h => (by cases h), k1, g1, e21, q1⟩, ⟨k1, e21, g1, q1, f1, r1⟩⟩
    | 2, hq => cases hq; exact ⟨fun n z => ⟨fun k h => (by cases h), k2, g2, e22, q2⟩, r2⟩
    | 3, hq => cases hq; exact ⟨fun n z => ⟨fun k h => (by cases h), k3, g3, e23, q3⟩, ⟨k3, e23, g3, q3, f3, r3⟩⟩
    | k + 4, hq => simp [tys] at hq
  · exact List.forall_mem_cons.mpr ⟨va_AO.of (hts _ ow_1), List.forall_mem_cons.mpr ⟨va_AO.of (hts _ ow_3), fun _ h => absurd h List.not_mem_nil⟩⟩
