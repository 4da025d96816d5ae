theorem p_carryOut_j71 (n : Nat) (a0 : Nat) (h : hH) (y1 : Int32) (st : rS) : f_MacroExpandModel_carryOut_j71 n (some a0) y1 (rE a0 st h) = (g_carryOut_j71 n y1 st).map (fun q => (q.1, rE a0 q.2 h)) := by
  unfold f_MacroExpandModel_carryOut_j71 g_carryOut_j71
  refine pb_some rfl ?_
  refine pb_some (r_obj a0 _ h) ?_
  refine pw_call (ε := fun s => rE a0 s h) (p_defines _ a0 h _ _) (fun v st => ?_)
  rfl
theorem p_carryOut_j58 (n : Nat) (a0 : Nat) (h : hH) (x1 : Int32) (st : rS) : f_MacroExpandModel_carryOut_j58 n a0 x1 (rE a0 st h) = (g_carryOut_j58 n x1 st).map (fun q => (q.1, rE a0 q.2 h)) := by
  unfold f_MacroExpandModel_carryOut_j58 g_carryOut_j58
  refine pi_iteW (fun _ => ?_) (fun _ => ?_)
  · skip
    apply p_carryOut_j71
  · skip
    apply p_carryOut_j71
theorem p_carryOut (n : Nat) (a0 : Nat) (h : hH) (st : rS) : f_MacroExpandModel_carryOut n a0 (rE a0 st h) = (g_carryOut n st).map (fun q => (q.1, rE a0 q.2 h)) := by
  unfold f_MacroExpandModel_carryOut g_carryOut
  refine pb_some (r_obj a0 _ h) ?_
  refine pb_sameW (p_get a0 h _ _) (fun v => ?_)
  refine pb_sameW (p_in a0 h _ _ _ _) (fun v => ?_)
  refine pi_iteW (fun _ => ?_) (fun _ => ?_)
  · skip
    refine pi_iteW (fun _ => ?_) (fun _ => ?_)
    · skip
      apply p_carryOut_j58
    · skip
      refine pi_iteW (fun _ => ?_) (fun _ => ?_)
      · skip
        apply p_carryOut_j58
      · skip
        refine pb_some (rg_32 a0 _ h) ?_
        refine pi_iteW (fun _ => ?_) (fun _ => ?_)
        · skip
          refine pi_iteW (fun _ => ?_) (fun _ => ?_)
          · skip
            refine pb_some (rg_3 a0 _ h) ?_
            refine pi_iteW (fun _ => ?_) (fun _ => ?_)
            · skip
              refine pb_some (r_obj a0 _ h) ?_
              refine pb_sameW (p_get a0 h _ _) (fun v => ?_)
              refine pb_some (rp_33 a0 _ h _) ?_
              refine pb_some (r_obj a0 _ h) ?_
              refine pw_call (ε := fun s => rE a0 s h) (p_take _ a0 h _ _ _) (fun v st => ?_)
              rfl
            · skip
              refine pb_some (r_obj a0 _ h) ?_
              refine pw_call (ε := fun s => rE a0 s h) (p_mark a0 h _ _) (fun v st => ?_)
              rfl
          · skip
            refine pb_some (rg_4 a0 _ h) ?_
            refine pi_iteW (fun _ => ?_) (fun _ => ?_)
            · skip
              refine pb_some (r_obj a0 _ h) ?_
              refine pw_call (ε := fun s => rE a0 s h) (p_mark a0 h _ _) (fun v st => ?_)
              rfl
            · skip
              refine pb_some (rr_5 a0 _ h) ?_
              refine pb_some (rg_4 a0 _ h) ?_
              refine pb_some rfl ?_
              refine pb_mapW (rs a0 _ h (by decide) rfl) (fun st => ?_)
              refine pb_some (rg_4 a0 _ h) ?_
              refine pb_some (rp_4 a0 _ h _) ?_
              refine pb_some (r_obj a0 _ h) ?_
              refine pw_call (ε := fun s => rE a0 s h) (p_take _ a0 h _ _ _) (fun v st => ?_)
              rfl
        · skip
          refine pb_some (r_obj a0 _ h) ?_
          refine pw_call (ε := fun s => rE a0 s h) (p_mark a0 h _ _) (fun v st => ?_)
          rfl
  · skip
    refine pb_some (rg_32 a0 _ h) ?_
    refine pb_some (rp_32 a0 _ h _) ?_
    refine pb_some (r_obj a0 _ h) ?_
    refine pw_call (ε := fun s => rE a0 s h) (p_take _ a0 h _ _ _) (fun v st => ?_)
    rfl
theorem p_ended (a0 : Nat) (h : hH) (i1 : Int32) (st : rS) : f_MacroExpandModel_ended a0 i1 (rE a0 st h) = (g_ended i1 st).map (fun q => (q.1, rE a0 q.2 h)) := by
  unfold f_MacroExpandModel_ended g_ended
  refine pb_some (rg_21 a0 _ h) ?_
  refine pi_iteW (fun _ => ?_) (fun _ => ?_)
  · skip
    rfl
  · skip
    refine pb_some (rp_3 a0 _ h _) ?_
    refine pb_some (rg_21 a0 _ h) ?_
    rfl
theorem p_expand_j112 (n : Nat) (a0 : Nat) (h : hH) (st : rS) : f_MacroExpandModel_expand_j112 n a0 (rE a0 st h) = (g_expand_j112 n st).map (fun q => (q.1, rE a0 q.2 h)) := by
  unfold f_MacroExpandModel_expand_j112 g_expand_j112
  refine pb_some (rg_4 a0 _ h) ?_
  refine pb_some (r_obj a0 _ h) ?_
  refine pw_call (ε := fun s => rE a0 s h) (p_ended a0 h _ _) (fun v st => ?_)
  rfl
theorem p_expand_j90 (n : Nat) (a0 : Nat) (h : hH) (st : rS) : f_MacroExpandModel_expand_j90 n a0 (rE a0 st h) = (g_expand_j90 n st).map (fun q => (q.1, rE a0 q.2 h)) := by
  unfold f_MacroExpandModel_expand_j90 g_expand_j90
  rfl
theorem p_expand_j86 (n : Nat) (a0 : Nat) (h : hH) (st : rS) : f_MacroExpandModel_expand_j86 n a0 (rE a0 st h) = (g_expand_j86 n st).map (fun q => (q.1, rE a0 q.2 h)) := by
  unfold f_MacroExpandModel_expand_j86 g_expand_j86
  refine pb_some (r_obj a0 _ h) ?_
  refine pw_call (ε := fun s => rE a0 s h) (p_carryOut _ a0 h _) (fun v st => ?_)
  apply p_expand_j90
theorem p_expand_b42 (n : Nat) (a0 : Nat) (h : hH) (x : Unit) (st : rS) : f_MacroExpandModel_expand_b42 n a0 x (rE a0 st h) = (g_expand_b42 n x st).map (fun q => (q.1, rE a0 q.2 h)) := by
  unfold f_MacroExpandModel_expand_b42 g_expand_b42
  refine pb_some (rg_3 a0 _ h) ?_
  refine pi_iteW (fun _ => ?_) (fun _ => ?_)
  · skip
    rfl
  · skip
    refine pb_some (rg_21 a0 _ h) ?_
    refine pi_iteW (fun _ => ?_) (fun _ => ?_)
    · skip
      refine pb_some (rg_24 a0 _ h) ?_
      refine pb_mapW (rz_24 a0 _ h _) (fun st => ?_)
      refine pi_iteW (fun _ => ?_) (fun _ => ?_)
      · skip
        refine pb_some (r_obj a0 _ h) ?_
        refine pb_sameW (p_canBeExpanded a0 h _ _) (fun v => ?_)
        refine pi_iteW (fun _ => ?_) (fun _ => ?_)
        · skip
          apply p_expand_j86
        · skip
          refine pb_some (r_obj a0 _ h) ?_
          refine pw_call (ε := fun s => rE a0 s h) (p_expandAt _ a0 h _ _) (fun v st => ?_)
          apply p_expand_j90
      · skip
        apply p_expand_j86
    · skip
      rfl
theorem pl_expand_42 (n : Nat) (a0 : Nat) (h : hH) (k : Nat) (x : Unit) (st : rS) : hloopW (f_MacroExpandModel_expand_b42 n a0) k x (rE a0 st h) = (gloopW (g_expand_b42 n) k x st).map (fun q => (q.1, rE a0 q.2 h)) := pl_W (fun x st => p_expand_b42 n a0 h x st) k x st
theorem p_expand_j28 (n : Nat) (a0 : Nat) (h : hH) (st : rS) : f_MacroExpandModel_expand_j28 n a0 (rE a0 st h) = (g_expand_j28 n st).map (fun q => (q.1, rE a0 q.2 h)) := by
  unfold f_MacroExpandModel_expand_j28 g_expand_j28
  refine pb_some (rg_3 a0 _ h) ?_
  refine pb_some (r_obj a0 _ h) ?_
  refine pw_call (ε := fun s => rE a0 s h) (p_ended a0 h _ _) (fun v st => ?_)
  rfl
theorem p_expand (n : Nat) (a0 : Nat) (h : hH) (i1 : Int32) (st : rS) : f_MacroExpandModel_expand n a0 i1 (rE a0 st h) = (g_expand n i1 st).map (fun q => (q.1, rE a0 q.2 h)) := by
  unfold f_MacroExpandModel_expand g_expand
  refine pb_some (r_obj a0 _ h) ?_
  refine pw_call (ε := fun s => rE a0 s h) (p_begin a0 h _) (fun v st => ?_)
  refine pi_iteW (fun _ => ?_) (fun _ => ?_)
  · skip
    refine pb_some (rg_3 a0 _ h) ?_
    refine pi_iteW (fun _ => ?_) (fun _ => ?_)
    · skip
      apply p_expand_j28
    · skip
      refine pb_some (r_obj a0 _ h) ?_
      refine pb_sameW (p_canBeExpanded a0 h _ _) (fun v => ?_)
      refine pi_iteW (fun _ => ?_) (fun _ => ?_)
      · skip
        apply p_expand_j28
      · skip
        refine pb_some (r_obj a0 _ h) ?_
        refine pw_call (ε := fun s => rE a0 s h) (p_expandAt _ a0 h _ _) (fun v st => ?_)
        apply p_expand_j28
  · skip
    refine pb_some (rp_4 a0 _ h _) ?_
    refine pw_call (ε := fun s => rE a0 s h) (by apply pl_expand_42) (fun b st => ?_)
    refine pb_some (rg_21 a0 _ h) ?_
    refine pi_iteW (fun _ => ?_) (fun _ => ?_)
    · skip
      refine pb_some (rg_32 a0 _ h) ?_
      refine pi_iteW (fun _ => ?_) (fun _ => ?_)
      · skip
        apply p_expand_j112
      · skip
        refine pb_some (r_obj a0 _ h) ?_
        refine pw_call (ε := fun s => rE a0 s h) (p_mark a0 h _ _) (fun v st => ?_)
        apply p_expand_j112
    · skip
      apply p_expand_j112
theorem p_at (a0 : Nat) (h : hH) (i1 : Int32) (st : rS) : f_MacroExpandModel_at a0 i1 (rE a0 st h) = g_at i1 st := by
  unfold f_MacroExpandModel_at g_at
  refine pb_some (rg_4 a0 _ h) ?_
  refine pb_sameR (p_in a0 h _ _ _ _) (fun v => ?_)
  refine pi_iteR (fun _ => ?_) (fun _ => ?_)
  · skip
    rfl
  · skip
    refine pb_some (rr_5 a0 _ h) ?_
    refine pb_some rfl ?_
    refine pb_sameR (ra a0 _ h (by decide) rfl) (fun v => ?_)
    rfl
theorem p_fault (a0 : Nat) (h : hH) (i1 : Int32) (st : rS) : f_MacroExpandModel_fault a0 i1 (rE a0 st h) = g_fault i1 st := by
  unfold f_MacroExpandModel_fault g_fault
  refine pi_iteR (fun _ => ?_) (fun _ => ?_)
  · skip
    refine pb_some (rg_21 a0 _ h) ?_
    rfl
  · skip
    refine pi_iteR (fun _ => ?_) (fun _ => ?_)
    · skip
      refine pb_some (rg_21 a0 _ h) ?_
      refine pi_iteR (fun _ => ?_) (fun _ => ?_)
      · skip
        rfl
      · skip
        refine pb_some (rg_22 a0 _ h) ?_
        rfl
    · skip
      refine pi_iteR (fun _ => ?_) (fun _ => ?_)
      · skip
        refine pb_some (rg_23 a0 _ h) ?_
        rfl
      · skip
        rfl
theorem p_named (a0 : Nat) (h : hH) (i1 : Int32) (st : rS) : f_MacroExpandModel_named a0 i1 (rE a0 st h) = g_named i1 st := by
  unfold f_MacroExpandModel_named g_named
  refine pi_iteR (fun _ => ?_) (fun _ => ?_)
  · skip
    refine pb_some (rg_16 a0 _ h) ?_
    rfl
  · skip
    refine pb_some (rg_16 a0 _ h) ?_
    refine pb_sameR (p_in a0 h _ _ _ _) (fun v => ?_)
    refine pi_iteR (fun _ => ?_) (fun _ => ?_)
    · skip
      rfl
    · skip
      refine pb_some (rr_17 a0 _ h) ?_
      refine pb_some rfl ?_
      refine pb_sameR (ra a0 _ h (by decide) rfl) (fun v => ?_)
      rfl
theorem p_traced (a0 : Nat) (h : hH) (i1 : Int32) (i2 : Int32) (st : rS) : f_MacroExpandModel_traced a0 i1 i2 (rE a0 st h) = g_traced i1 i2 st := by
  unfold f_MacroExpandModel_traced g_traced
  refine pb_some (rg_25 a0 _ h) ?_
  refine pb_sameR (p_in a0 h _ _ _ _) (fun v => ?_)
  refine pi_iteR (fun _ => ?_) (fun _ => ?_)
  · skip
    rfl
  · skip
    refine pb_sameR (p_in a0 h _ _ _ _) (fun v => ?_)
    refine pi_iteR (fun _ => ?_) (fun _ => ?_)
    · skip
      rfl
    · skip
      refine pb_some (rr_26 a0 _ h) ?_
      refine pb_some rfl ?_
      refine pb_sameR (ra a0 _ h (by decide) rfl) (fun v => ?_)
      rfl
theorem p_input (a0 : Nat) (h : hH) (i1 : Int32) (st : rS) : f_MacroExpandModel_input a0 i1 (rE a0 st h) = g_input i1 st := by
  unfold f_MacroExpandModel_input g_input
  refine pb_some (rg_3 a0 _ h) ?_
  refine pb_sameR (p_in a0 h _ _ _ _) (fun v => ?_)
  refine pi_iteR (fun _ => ?_) (fun _ => ?_)
  · skip
    rfl
  · skip
    refine pb_some (r_obj a0 _ h) ?_
    refine pb_sameR (p_get a0 h _ _) (fun v => ?_)
    rfl
theorem p_macro (a0 : Nat) (h : hH) (i1 : Int32) (st : rS) : f_MacroExpandModel_macro a0 i1 (rE a0 st h) = g_macro i1 st := by
  unfold f_MacroExpandModel_macro g_macro
  refine pb_sameR (p_in a0 h _ _ _ _) (fun v => ?_)
  refine pi_iteR (fun _ => ?_) (fun _ => ?_)
  · skip
    rfl
  · skip
    refine pb_some (rr_13 a0 _ h) ?_
    refine pb_some rfl ?_
    refine pb_sameR (ra a0 _ h (by decide) rfl) (fun v => ?_)
    rfl
