theorem p_in (a0 : Nat) (h : hH) (i0 : Int32) (i1 : Int32) (i2 : Int32) (st : rS) : f_MacroExpandModel_in i0 i1 i2 (rE a0 st h) = g_in i0 i1 i2 st := by
  unfold f_MacroExpandModel_in g_in
  refine pi_iteR (fun _ => ?_) (fun _ => ?_)
  · skip
    rfl
  · skip
    refine pi_iteR (fun _ => ?_) (fun _ => ?_)
    · skip
      rfl
    · skip
      rfl
theorem p_isName (a0 : Nat) (h : hH) (i0 : Int32) (st : rS) : f_MacroExpandModel_isName i0 (rE a0 st h) = g_isName i0 st := by
  unfold f_MacroExpandModel_isName g_isName
  refine pb_sameR (p_in a0 h _ _ _ _) (fun v => ?_)
  refine pi_iteR (fun _ => rfl) (fun _ => rfl)
theorem p_isParameter (a0 : Nat) (h : hH) (i0 : Int32) (st : rS) : f_MacroExpandModel_isParameter i0 (rE a0 st h) = g_isParameter i0 st := by
  unfold f_MacroExpandModel_isParameter g_isParameter
  refine pb_sameR (p_in a0 h _ _ _ _) (fun v => ?_)
  refine pi_iteR (fun _ => ?_) (fun _ => ?_)
  · skip
    rfl
  · skip
    refine pi_divR (fun _ => ?_)
    refine pi_iteR (fun _ => ?_) (fun _ => ?_)
    · skip
      rfl
    · skip
      rfl
theorem p_isToken (a0 : Nat) (h : hH) (i0 : Int32) (st : rS) : f_MacroExpandModel_isToken i0 (rE a0 st h) = g_isToken i0 st := by
  unfold f_MacroExpandModel_isToken g_isToken
  refine pb_sameR (p_in a0 h _ _ _ _) (fun v => ?_)
  refine pi_iteR (fun _ => ?_) (fun _ => ?_)
  · skip
    refine pb_sameR (p_in a0 h _ _ _ _) (fun v => ?_)
    refine pi_iteR (fun _ => ?_) (fun _ => ?_)
    · skip
      refine pb_sameR (p_isParameter a0 h _ _) (fun v => ?_)
      refine pi_iteR (fun _ => ?_) (fun _ => ?_)
      · skip
        refine pb_sameR (p_isName a0 h _ _) (fun v => ?_)
        refine pi_iteR (fun _ => ?_) (fun _ => ?_)
        · skip
          rfl
        · skip
          rfl
      · skip
        rfl
    · skip
      rfl
  · skip
    rfl
theorem p_newMacro_b81 (n : Nat) (a0 : Nat) (h : hH) (x1 : Int32) (x3 : Int32) (x4 : Int32) (x : Int32) (st : rS) : f_MacroExpandModel_newMacro_b81 n a0 x1 x3 x4 x (rE a0 st h) = (g_newMacro_b81 n x1 x3 x4 x st).map (fun q => (q.1, rE a0 q.2 h)) := by
  unfold f_MacroExpandModel_newMacro_b81 g_newMacro_b81
  refine pb_some (rg_14 a0 _ h) ?_
  refine pi_iteW (fun _ => ?_) (fun _ => ?_)
  · skip
    rfl
  · skip
    refine pi_iteW (fun _ => ?_) (fun _ => ?_)
    · skip
      rfl
    · skip
      refine pb_some (rr_15 a0 _ h) ?_
      refine pb_some rfl ?_
      refine pb_mapW (rs a0 _ h (by decide) rfl) (fun st => ?_)
      rfl
theorem pl_newMacro_81 (n : Nat) (a0 : Nat) (h : hH) (x1 : Int32) (x3 : Int32) (x4 : Int32) (k : Nat) (x : Int32) (st : rS) : hloopW (f_MacroExpandModel_newMacro_b81 n a0 x1 x3 x4) k x (rE a0 st h) = (gloopW (g_newMacro_b81 n x1 x3 x4) k x st).map (fun q => (q.1, rE a0 q.2 h)) := pl_W (fun x st => p_newMacro_b81 n a0 h x1 x3 x4 x st) k x st
theorem p_newMacro_b33 (n : Nat) (a0 : Nat) (h : hH) (x1 : Int32) (x3 : Int32) (x4 : Int32) (x : Int32) (st : rS) : f_MacroExpandModel_newMacro_b33 n a0 x1 x3 x4 x (rE a0 st h) = (g_newMacro_b33 n x1 x3 x4 x st).map (fun q => (q.1, rE a0 q.2 h)) := by
  unfold f_MacroExpandModel_newMacro_b33 g_newMacro_b33
  refine pi_iteW (fun _ => ?_) (fun _ => ?_)
  · skip
    rfl
  · skip
    refine pb_some (rr_11 a0 _ h) ?_
    refine pb_some rfl ?_
    refine pb_mapW (rs a0 _ h (by decide) rfl) (fun st => ?_)
    rfl
theorem pl_newMacro_33 (n : Nat) (a0 : Nat) (h : hH) (x1 : Int32) (x3 : Int32) (x4 : Int32) (k : Nat) (x : Int32) (st : rS) : hloopW (f_MacroExpandModel_newMacro_b33 n a0 x1 x3 x4) k x (rE a0 st h) = (gloopW (g_newMacro_b33 n x1 x3 x4) k x st).map (fun q => (q.1, rE a0 q.2 h)) := pl_W (fun x st => p_newMacro_b33 n a0 h x1 x3 x4 x st) k x st
theorem p_newMacro (n : Nat) (a0 : Nat) (h : hH) (i1 : Int32) (i2 : Int32) (i3 : Int32) (st : rS) : f_MacroExpandModel_newMacro n a0 i1 i2 i3 (rE a0 st h) = (g_newMacro n i1 i2 i3 st).map (fun q => (q.1, rE a0 q.2 h)) := by
  unfold f_MacroExpandModel_newMacro g_newMacro
  refine pb_some (rg_6 a0 _ h) ?_
  refine pb_some (rr_7 a0 _ h) ?_
  refine pb_some rfl ?_
  refine pb_mapW (rs a0 _ h (by decide) rfl) (fun st => ?_)
  refine pb_some (rr_8 a0 _ h) ?_
  refine pb_some rfl ?_
  refine pb_mapW (rs a0 _ h (by decide) rfl) (fun st => ?_)
  refine pb_some (rr_9 a0 _ h) ?_
  refine pb_some rfl ?_
  refine pb_mapW (rs a0 _ h (by decide) rfl) (fun st => ?_)
  refine pw_call (ε := fun s => rE a0 s h) (by apply pl_newMacro_33) (fun b st => ?_)
  refine pb_some (rg_6 a0 _ h) ?_
  refine pb_some (rp_6 a0 _ h _) ?_
  refine pb_some (rr_13 a0 _ h) ?_
  refine pb_some rfl ?_
  refine pb_mapW (rs a0 _ h (by decide) rfl) (fun st => ?_)
  refine pw_call (ε := fun s => rE a0 s h) (by apply pl_newMacro_81) (fun b st => ?_)
  rfl
theorem p_define (n : Nat) (a0 : Nat) (h : hH) (i1 : Int32) (i2 : Int32) (i3 : Int32) (st : rS) : f_MacroExpandModel_define n a0 i1 i2 i3 (rE a0 st h) = (g_define n i1 i2 i3 st).map (fun q => (q.1, rE a0 q.2 h)) := by
  unfold f_MacroExpandModel_define g_define
  refine pb_sameW (p_in a0 h _ _ _ _) (fun v => ?_)
  refine pi_iteW (fun _ => ?_) (fun _ => ?_)
  · skip
    rfl
  · skip
    refine pb_sameW (p_in a0 h _ _ _ _) (fun v => ?_)
    refine pi_iteW (fun _ => ?_) (fun _ => ?_)
    · skip
      rfl
    · skip
      refine pb_sameW (p_in a0 h _ _ _ _) (fun v => ?_)
      refine pi_iteW (fun _ => ?_) (fun _ => ?_)
      · skip
        rfl
      · skip
        refine pb_some (rg_6 a0 _ h) ?_
        refine pi_iteW (fun _ => ?_) (fun _ => ?_)
        · skip
          rfl
        · skip
          refine pb_some (r_obj a0 _ h) ?_
          refine pw_call (ε := fun s => rE a0 s h) (p_newMacro _ a0 h _ _ _ _) (fun v st => ?_)
          rfl
theorem p_body (a0 : Nat) (h : hH) (i1 : Int32) (i2 : Int32) (st : rS) : f_MacroExpandModel_body a0 i1 i2 (rE a0 st h) = (g_body i1 i2 st).map (fun q => (q.1, rE a0 q.2 h)) := by
  unfold f_MacroExpandModel_body g_body
  refine pb_some (rg_6 a0 _ h) ?_
  refine pb_sameW (p_in a0 h _ _ _ _) (fun v => ?_)
  refine pi_iteW (fun _ => ?_) (fun _ => ?_)
  · skip
    rfl
  · skip
    refine pb_sameW (p_isToken a0 h _ _) (fun v => ?_)
    refine pi_iteW (fun _ => ?_) (fun _ => ?_)
    · skip
      rfl
    · skip
      refine pb_some (rr_9 a0 _ h) ?_
      refine pb_some rfl ?_
      refine pb_sameW (ra a0 _ h (by decide) rfl) (fun v => ?_)
      refine pi_iteW (fun _ => ?_) (fun _ => ?_)
      · skip
        rfl
      · skip
        refine pb_some (rr_10 a0 _ h) ?_
        refine pb_some (rr_9 a0 _ h) ?_
        refine pb_some rfl ?_
        refine pb_sameW (ra a0 _ h (by decide) rfl) (fun v => ?_)
        refine pb_some rfl ?_
        refine pb_mapW (rs a0 _ h (by decide) rfl) (fun st => ?_)
        refine pb_some (rr_9 a0 _ h) ?_
        refine pb_some rfl ?_
        refine pb_sameW (ra a0 _ h (by decide) rfl) (fun v => ?_)
        refine pb_mapW (rs a0 _ h (by decide) rfl) (fun st => ?_)
        refine pb_some (rr_9 a0 _ h) ?_
        refine pb_some rfl ?_
        refine pb_sameW (ra a0 _ h (by decide) rfl) (fun v => ?_)
        rfl
theorem p_delimiter (a0 : Nat) (h : hH) (i1 : Int32) (i2 : Int32) (i3 : Int32) (st : rS) : f_MacroExpandModel_delimiter a0 i1 i2 i3 (rE a0 st h) = (g_delimiter i1 i2 i3 st).map (fun q => (q.1, rE a0 q.2 h)) := by
  unfold f_MacroExpandModel_delimiter g_delimiter
  refine pb_some (rg_6 a0 _ h) ?_
  refine pb_sameW (p_in a0 h _ _ _ _) (fun v => ?_)
  refine pi_iteW (fun _ => ?_) (fun _ => ?_)
  · skip
    rfl
  · skip
    refine pb_some (rr_7 a0 _ h) ?_
    refine pb_some rfl ?_
    refine pb_sameW (ra a0 _ h (by decide) rfl) (fun v => ?_)
    refine pb_sameW (p_in a0 h _ _ _ _) (fun v => ?_)
    refine pi_iteW (fun _ => ?_) (fun _ => ?_)
    · skip
      rfl
    · skip
      refine pb_sameW (p_isToken a0 h _ _) (fun v => ?_)
      refine pi_iteW (fun _ => ?_) (fun _ => ?_)
      · skip
        rfl
      · skip
        refine pi_iteW (fun _ => ?_) (fun _ => ?_)
        · skip
          rfl
        · skip
          refine pi_iteW (fun _ => ?_) (fun _ => ?_)
          · skip
            rfl
          · skip
            refine pb_sameW (p_isParameter a0 h _ _) (fun v => ?_)
            refine pi_iteW (fun _ => ?_) (fun _ => ?_)
            · skip
              refine pb_some (rr_11 a0 _ h) ?_
              refine pb_some rfl ?_
              refine pb_sameW (ra a0 _ h (by decide) rfl) (fun v => ?_)
              refine pi_iteW (fun _ => ?_) (fun _ => ?_)
              · skip
                rfl
              · skip
                refine pb_some (rr_12 a0 _ h) ?_
                refine pb_some (rr_11 a0 _ h) ?_
                refine pb_some rfl ?_
                refine pb_sameW (ra a0 _ h (by decide) rfl) (fun v => ?_)
                refine pb_some rfl ?_
                refine pb_mapW (rs a0 _ h (by decide) rfl) (fun st => ?_)
                refine pb_some (rr_11 a0 _ h) ?_
                refine pb_some rfl ?_
                refine pb_sameW (ra a0 _ h (by decide) rfl) (fun v => ?_)
                refine pb_mapW (rs a0 _ h (by decide) rfl) (fun st => ?_)
                refine pb_some (rr_11 a0 _ h) ?_
                refine pb_some rfl ?_
                refine pb_sameW (ra a0 _ h (by decide) rfl) (fun v => ?_)
                rfl
            · skip
              rfl
theorem p_token (a0 : Nat) (h : hH) (i1 : Int32) (st : rS) : f_MacroExpandModel_token a0 i1 (rE a0 st h) = (g_token i1 st).map (fun q => (q.1, rE a0 q.2 h)) := by
  unfold f_MacroExpandModel_token g_token
  refine pb_sameW (p_isToken a0 h _ _) (fun v => ?_)
  refine pi_iteW (fun _ => ?_) (fun _ => ?_)
  · skip
    rfl
  · skip
    refine pb_some (rg_3 a0 _ h) ?_
    refine pi_iteW (fun _ => ?_) (fun _ => ?_)
    · skip
      rfl
    · skip
      refine pb_some (rr_1 a0 _ h) ?_
      refine pb_some (rg_2 a0 _ h) ?_
      refine pb_some (rg_3 a0 _ h) ?_
      refine pb_some rfl ?_
      refine pb_mapW (rs a0 _ h (by decide) rfl) (fun st => ?_)
      refine pb_some (rg_3 a0 _ h) ?_
      refine pb_some (rp_3 a0 _ h _) ?_
      refine pb_some (rg_3 a0 _ h) ?_
      rfl
theorem p_group_b89 (n : Nat) (a0 : Nat) (h : hH) (x : Int32) (st : rS) : f_MacroExpandModel_group_b89 n a0 x (rE a0 st h) = (g_group_b89 n x st).map (fun q => (q.1, rE a0 q.2 h)) := by
  unfold f_MacroExpandModel_group_b89 g_group_b89
  refine pi_iteW (fun _ => ?_) (fun _ => ?_)
  · skip
    rfl
  · skip
    refine pb_some (rr_13 a0 _ h) ?_
    refine pb_some (rr_15 a0 _ h) ?_
    refine pb_some (rg_14 a0 _ h) ?_
    refine pb_some rfl ?_
    refine pb_sameW (ra a0 _ h (by decide) rfl) (fun v => ?_)
    refine pb_some rfl ?_
    refine pb_mapW (rs a0 _ h (by decide) rfl) (fun st => ?_)
    rfl
theorem pl_group_89 (n : Nat) (a0 : Nat) (h : hH) (k : Nat) (x : Int32) (st : rS) : hloopW (f_MacroExpandModel_group_b89 n a0) k x (rE a0 st h) = (gloopW (g_group_b89 n) k x st).map (fun q => (q.1, rE a0 q.2 h)) := pl_W (fun x st => p_group_b89 n a0 h x st) k x st
theorem p_group_b18 (n : Nat) (a0 : Nat) (h : hH) (x : Int32) (st : rS) : f_MacroExpandModel_group_b18 n a0 x (rE a0 st h) = (g_group_b18 n x st).map (fun q => (q.1, rE a0 q.2 h)) := by
  unfold f_MacroExpandModel_group_b18 g_group_b18
  refine pi_iteW (fun _ => ?_) (fun _ => ?_)
  · skip
    rfl
  · skip
    refine pb_some (rr_15 a0 _ h) ?_
    refine pb_some (rg_14 a0 _ h) ?_
    refine pb_some (rr_13 a0 _ h) ?_
    refine pb_some rfl ?_
    refine pb_sameW (ra a0 _ h (by decide) rfl) (fun v => ?_)
    refine pb_some rfl ?_
    refine pb_mapW (rs a0 _ h (by decide) rfl) (fun st => ?_)
    rfl
theorem pl_group_18 (n : Nat) (a0 : Nat) (h : hH) (k : Nat) (x : Int32) (st : rS) : hloopW (f_MacroExpandModel_group_b18 n a0) k x (rE a0 st h) = (gloopW (g_group_b18 n) k x st).map (fun q => (q.1, rE a0 q.2 h)) := pl_W (fun x st => p_group_b18 n a0 h x st) k x st
theorem p_group (n : Nat) (a0 : Nat) (h : hH) (i1 : Int32) (st : rS) : f_MacroExpandModel_group n a0 i1 (rE a0 st h) = (g_group n i1 st).map (fun q => (q.1, rE a0 q.2 h)) := by
  unfold f_MacroExpandModel_group g_group
  refine pi_iteW (fun _ => ?_) (fun _ => ?_)
  · skip
    refine pb_some (rg_14 a0 _ h) ?_
    refine pi_iteW (fun _ => ?_) (fun _ => ?_)
    · skip
      rfl
    · skip
      refine pb_some (rg_14 a0 _ h) ?_
      refine pb_some (rp_14 a0 _ h _) ?_
      refine pw_call (ε := fun s => rE a0 s h) (by apply pl_group_89) (fun b st => ?_)
      refine pb_some (rg_14 a0 _ h) ?_
      rfl
  · skip
    refine pb_some (rg_14 a0 _ h) ?_
    refine pi_iteW (fun _ => ?_) (fun _ => ?_)
    · skip
      rfl
    · skip
      refine pw_call (ε := fun s => rE a0 s h) (by apply pl_group_18) (fun b st => ?_)
      refine pb_some (rg_14 a0 _ h) ?_
      refine pb_some (rp_14 a0 _ h _) ?_
      refine pb_some (rg_14 a0 _ h) ?_
      rfl
theorem p_get (a0 : Nat) (h : hH) (i1 : Int32) (st : rS) : f_MacroExpandModel_get a0 i1 (rE a0 st h) = g_get i1 st := by
  unfold f_MacroExpandModel_get g_get
  refine pb_some (rr_1 a0 _ h) ?_
  refine pb_some (rg_2 a0 _ h) ?_
  refine pb_some rfl ?_
  refine pb_sameR (ra a0 _ h (by decide) rfl) (fun v => ?_)
  rfl
theorem p_mark_j16 (a0 : Nat) (h : hH) (y1 : Int32) (st : rS) : f_MacroExpandModel_mark_j16 (some a0) y1 (rE a0 st h) = (g_mark_j16 y1 st).map (fun q => (q.1, rE a0 q.2 h)) := by
  unfold f_MacroExpandModel_mark_j16 g_mark_j16
  refine pb_some rfl ?_
  refine pb_some (rp_21 a0 _ h _) ?_
  rfl
theorem p_mark (a0 : Nat) (h : hH) (i1 : Int32) (st : rS) : f_MacroExpandModel_mark a0 i1 (rE a0 st h) = (g_mark i1 st).map (fun q => (q.1, rE a0 q.2 h)) := by
  unfold f_MacroExpandModel_mark g_mark
  refine pb_some (rg_21 a0 _ h) ?_
  refine pi_iteW (fun _ => ?_) (fun _ => ?_)
  · skip
    apply p_mark_j16
  · skip
    refine pb_some (rg_21 a0 _ h) ?_
    apply p_mark_j16
theorem p_take_b4 (n : Nat) (a0 : Nat) (h : hH) (x2 : Int32) (x : Int32) (st : rS) : f_MacroExpandModel_take_b4 n a0 x2 x (rE a0 st h) = (g_take_b4 n x2 x st).map (fun q => (q.1, rE a0 q.2 h)) := by
  unfold f_MacroExpandModel_take_b4 g_take_b4
  refine pi_iteW (fun _ => ?_) (fun _ => ?_)
  · skip
    rfl
  · skip
    refine pb_some (rr_1 a0 _ h) ?_
    refine pb_some (rg_2 a0 _ h) ?_
    refine pb_some (r_obj a0 _ h) ?_
    refine pb_sameW (p_get a0 h _ _) (fun v => ?_)
    refine pb_some rfl ?_
    refine pb_mapW (rs a0 _ h (by decide) rfl) (fun st => ?_)
    rfl
theorem pl_take_4 (n : Nat) (a0 : Nat) (h : hH) (x2 : Int32) (k : Nat) (x : Int32) (st : rS) : hloopW (f_MacroExpandModel_take_b4 n a0 x2) k x (rE a0 st h) = (gloopW (g_take_b4 n x2) k x st).map (fun q => (q.1, rE a0 q.2 h)) := pl_W (fun x st => p_take_b4 n a0 h x2 x st) k x st
theorem p_take (n : Nat) (a0 : Nat) (h : hH) (i1 : Int32) (i2 : Int32) (st : rS) : f_MacroExpandModel_take n a0 i1 i2 (rE a0 st h) = (g_take n i1 i2 st).map (fun q => (q.1, rE a0 q.2 h)) := by
  unfold f_MacroExpandModel_take g_take
  refine pw_call (ε := fun s => rE a0 s h) (by apply pl_take_4) (fun b st => ?_)
  refine pb_some (rg_2 a0 _ h) ?_
  refine pb_some (rp_2 a0 _ h _) ?_
  refine pb_some (rg_3 a0 _ h) ?_
  refine pb_some (rp_3 a0 _ h _) ?_
  rfl
theorem p_spread_b26 (n : Nat) (a0 : Nat) (h : hH) (x1 : Int32) (x2 : Int32) (x : Int32) (st : rS) : f_MacroExpandModel_spread_b26 n a0 x1 x2 x (rE a0 st h) = (g_spread_b26 n x1 x2 x st).map (fun q => (q.1, rE a0 q.2 h)) := by
  unfold f_MacroExpandModel_spread_b26 g_spread_b26
  refine pi_iteW (fun _ => ?_) (fun _ => ?_)
  · skip
    rfl
  · skip
    refine pb_some (rr_1 a0 _ h) ?_
    refine pb_some (rg_2 a0 _ h) ?_
    refine pb_some (r_obj a0 _ h) ?_
    refine pb_sameW (p_get a0 h _ _) (fun v => ?_)
    refine pb_some rfl ?_
    refine pb_mapW (rs a0 _ h (by decide) rfl) (fun st => ?_)
    rfl
theorem pl_spread_26 (n : Nat) (a0 : Nat) (h : hH) (x1 : Int32) (x2 : Int32) (k : Nat) (x : Int32) (st : rS) : hloopW (f_MacroExpandModel_spread_b26 n a0 x1 x2) k x (rE a0 st h) = (gloopW (g_spread_b26 n x1 x2) k x st).map (fun q => (q.1, rE a0 q.2 h)) := pl_W (fun x st => p_spread_b26 n a0 h x1 x2 x st) k x st
theorem p_spread (n : Nat) (a0 : Nat) (h : hH) (i1 : Int32) (i2 : Int32) (st : rS) : f_MacroExpandModel_spread n a0 i1 i2 (rE a0 st h) = (g_spread n i1 i2 st).map (fun q => (q.1, rE a0 q.2 h)) := by
  unfold f_MacroExpandModel_spread g_spread
  refine pb_some (rg_2 a0 _ h) ?_
  refine pb_some (rp_2 a0 _ h _) ?_
  refine pb_some (rg_3 a0 _ h) ?_
  refine pb_some (rp_3 a0 _ h _) ?_
  refine pw_call (ε := fun s => rE a0 s h) (by apply pl_spread_26) (fun b st => ?_)
  rfl
theorem p_set (a0 : Nat) (h : hH) (i1 : Int32) (i2 : Int32) (st : rS) : f_MacroExpandModel_set a0 i1 i2 (rE a0 st h) = (g_set i1 i2 st).map (fun q => (q.1, rE a0 q.2 h)) := by
  unfold f_MacroExpandModel_set g_set
  refine pb_some (rr_1 a0 _ h) ?_
  refine pb_some (rg_2 a0 _ h) ?_
  refine pb_some rfl ?_
  refine pb_mapW (rs a0 _ h (by decide) rfl) (fun st => ?_)
  rfl
theorem p_macroAt (a0 : Nat) (h : hH) (i1 : Int32) (st : rS) : f_MacroExpandModel_macroAt a0 i1 (rE a0 st h) = g_macroAt i1 st := by
  unfold f_MacroExpandModel_macroAt g_macroAt
  refine pb_some (r_obj a0 _ h) ?_
  refine pb_sameR (p_get a0 h _ _) (fun v => ?_)
  refine pb_sameR (p_isName a0 h _ _) (fun v => ?_)
  refine pi_iteR (fun _ => ?_) (fun _ => ?_)
  · skip
    rfl
  · skip
    refine pb_some (rr_13 a0 _ h) ?_
    refine pb_some (r_obj a0 _ h) ?_
    refine pb_sameR (p_get a0 h _ _) (fun v => ?_)
    refine pb_some rfl ?_
    refine pb_sameR (ra a0 _ h (by decide) rfl) (fun v => ?_)
    rfl
theorem p_canBeExpanded (a0 : Nat) (h : hH) (i1 : Int32) (st : rS) : f_MacroExpandModel_canBeExpanded a0 i1 (rE a0 st h) = g_canBeExpanded i1 st := by
  unfold f_MacroExpandModel_canBeExpanded g_canBeExpanded
  refine pb_some (r_obj a0 _ h) ?_
  refine pb_sameR (p_macroAt a0 h _ _) (fun v => ?_)
  refine pi_iteR (fun _ => ?_) (fun _ => ?_)
  · skip
    rfl
  · skip
    refine pb_some (r_obj a0 _ h) ?_
    refine pb_sameR (p_get a0 h _ _) (fun v => ?_)
    refine pb_sameR (p_in a0 h _ _ _ _) (fun v => ?_)
    refine pi_iteR (fun _ => ?_) (fun _ => ?_)
    · skip
      rfl
    · skip
      rfl
theorem p_isThere_j50 (a0 : Nat) (h : hH) (st : rS) : f_MacroExpandModel_isThere_j50 a0 (rE a0 st h) = (g_isThere_j50  st).map (fun q => (q.1, rE a0 q.2 h)) := by
  unfold f_MacroExpandModel_isThere_j50 g_isThere_j50
  refine pb_some (r_obj a0 _ h) ?_
  refine pw_call (ε := fun s => rE a0 s h) (p_mark a0 h _ _) (fun v st => ?_)
  rfl
theorem p_isThere_j36 (a0 : Nat) (h : hH) (x1 : Int32) (x2 : Int32) (st : rS) : f_MacroExpandModel_isThere_j36 a0 x1 x2 (rE a0 st h) = (g_isThere_j36 x1 x2 st).map (fun q => (q.1, rE a0 q.2 h)) := by
  unfold f_MacroExpandModel_isThere_j36 g_isThere_j36
  refine pb_some (r_obj a0 _ h) ?_
  refine pb_sameW (p_get a0 h _ _) (fun v => ?_)
  refine pi_iteW (fun _ => ?_) (fun _ => ?_)
  · skip
    refine pi_iteW (fun _ => ?_) (fun _ => ?_)
    · skip
      apply p_isThere_j50
    · skip
      rfl
  · skip
    rfl
theorem p_isThere (a0 : Nat) (h : hH) (i1 : Int32) (i2 : Int32) (st : rS) : f_MacroExpandModel_isThere a0 i1 i2 (rE a0 st h) = (g_isThere i1 i2 st).map (fun q => (q.1, rE a0 q.2 h)) := by
  unfold f_MacroExpandModel_isThere g_isThere
  refine pb_some (rg_3 a0 _ h) ?_
  refine pi_iteW (fun _ => ?_) (fun _ => ?_)
  · skip
    refine pb_some (r_obj a0 _ h) ?_
    refine pb_sameW (p_macroAt a0 h _ _) (fun v => ?_)
    refine pi_iteW (fun _ => ?_) (fun _ => ?_)
    · skip
      apply p_isThere_j36
    · skip
      refine pb_some (rr_8 a0 _ h) ?_
      refine pb_some rfl ?_
      refine pb_sameW (ra a0 _ h (by decide) rfl) (fun v => ?_)
      refine pi_iteW (fun _ => ?_) (fun _ => ?_)
      · skip
        apply p_isThere_j36
      · skip
        apply p_isThere_j50
  · skip
    refine pb_some (r_obj a0 _ h) ?_
    refine pw_call (ε := fun s => rE a0 s h) (p_mark a0 h _ _) (fun v st => ?_)
    rfl
theorem p_rowComes_j68 (n : Nat) (a0 : Nat) (h : hH) (x1 : Int32) (x2 : Int32) (x4 : Int32) (y0 : Int32) (st : rS) : f_MacroExpandModel_rowComes_j68 n a0 x1 x2 x4 y0 (rE a0 st h) = g_rowComes_j68 n x1 x2 x4 y0 st := by
  unfold f_MacroExpandModel_rowComes_j68 g_rowComes_j68
  rfl
theorem p_rowComes_b24 (n : Nat) (a0 : Nat) (h : hH) (x1 : Int32) (x2 : Int32) (x : Int32 × Int32) (st : rS) : f_MacroExpandModel_rowComes_b24 n a0 x1 x2 (rE a0 st h) x = g_rowComes_b24 n x1 x2 st x := by
  unfold f_MacroExpandModel_rowComes_b24 g_rowComes_b24
  refine pb_some (rr_11 a0 _ h) ?_
  refine pb_some rfl ?_
  refine pb_sameR (ra a0 _ h (by decide) rfl) (fun v => ?_)
  refine pi_iteR (fun _ => ?_) (fun _ => ?_)
  · skip
    rfl
  · skip
    refine pi_iteR (fun _ => ?_) (fun _ => ?_)
    · skip
      rfl
    · skip
      refine pb_some (r_obj a0 _ h) ?_
      refine pb_sameR (p_get a0 h _ _) (fun v => ?_)
      refine pb_some (rr_12 a0 _ h) ?_
      refine pb_some rfl ?_
      refine pb_sameR (ra a0 _ h (by decide) rfl) (fun v => ?_)
      refine pi_iteR (fun _ => ?_) (fun _ => ?_)
      · skip
        apply p_rowComes_j68
      · skip
        apply p_rowComes_j68
theorem pl_rowComes_24 (n : Nat) (a0 : Nat) (h : hH) (x1 : Int32) (x2 : Int32) (k : Nat) (x : Int32 × Int32) (st : rS) : hloopR (f_MacroExpandModel_rowComes_b24 n a0 x1 x2 (rE a0 st h)) k x = gloopR (g_rowComes_b24 n x1 x2 st) k x := pl_R (fun x => p_rowComes_b24 n a0 h x1 x2 x st) k x
theorem p_rowComes_j20 (n : Nat) (a0 : Nat) (h : hH) (x1 : Int32) (x2 : Int32) (y0 : Int32) (st : rS) : f_MacroExpandModel_rowComes_j20 n a0 x1 x2 y0 (rE a0 st h) = g_rowComes_j20 n x1 x2 y0 st := by
  unfold f_MacroExpandModel_rowComes_j20 g_rowComes_j20
  refine pb_sameR (by apply pl_rowComes_24) (fun b => ?_)
  refine pi_iteR (fun _ => rfl) (fun _ => rfl)
theorem p_rowComes (n : Nat) (a0 : Nat) (h : hH) (i1 : Int32) (i2 : Int32) (st : rS) : f_MacroExpandModel_rowComes n a0 i1 i2 (rE a0 st h) = g_rowComes n i1 i2 st := by
  unfold f_MacroExpandModel_rowComes g_rowComes
  refine pb_some (rr_11 a0 _ h) ?_
  refine pb_some rfl ?_
  refine pb_sameR (ra a0 _ h (by decide) rfl) (fun v => ?_)
  refine pb_some (rg_3 a0 _ h) ?_
  refine pi_iteR (fun _ => ?_) (fun _ => ?_)
  · skip
    apply p_rowComes_j20
  · skip
    apply p_rowComes_j20
theorem p_give (a0 : Nat) (h : hH) (i1 : Int32) (i2 : Int32) (st : rS) : f_MacroExpandModel_give a0 i1 i2 (rE a0 st h) = (g_give i1 i2 st).map (fun q => (q.1, rE a0 q.2 h)) := by
  unfold f_MacroExpandModel_give g_give
  refine pb_some (rr_19 a0 _ h) ?_
  refine pb_some rfl ?_
  refine pb_sameW (ra a0 _ h (by decide) rfl) (fun v => ?_)
  refine pi_iteW (fun _ => ?_) (fun _ => ?_)
  · skip
    refine pb_some (r_obj a0 _ h) ?_
    refine pw_call (ε := fun s => rE a0 s h) (p_mark a0 h _ _) (fun v st => ?_)
    rfl
  · skip
    refine pb_some (rr_20 a0 _ h) ?_
    refine pb_some (rr_19 a0 _ h) ?_
    refine pb_some rfl ?_
    refine pb_sameW (ra a0 _ h (by decide) rfl) (fun v => ?_)
    refine pb_some rfl ?_
    refine pb_mapW (rs a0 _ h (by decide) rfl) (fun st => ?_)
    refine pb_some (rr_19 a0 _ h) ?_
    refine pb_some rfl ?_
    refine pb_sameW (ra a0 _ h (by decide) rfl) (fun v => ?_)
    refine pb_mapW (rs a0 _ h (by decide) rfl) (fun st => ?_)
    rfl
theorem p_plain_j174 (n : Nat) (a0 : Nat) (h : hH) (x1 : Int32) (x3 : Int32) (x4 : Int32) (x5 : Int32) (st : rS) : f_MacroExpandModel_plain_j174 n a0 x1 x3 x4 x5 (rE a0 st h) = (g_plain_j174 n x1 x3 x4 x5 st).map (fun q => (q.1, rE a0 q.2 h)) := by
  unfold f_MacroExpandModel_plain_j174 g_plain_j174
  rfl
theorem p_plain_j155 (n : Nat) (a0 : Nat) (h : hH) (x1 : Int32) (x3 : Int32) (x4 : Int32) (y0 : Int32) (y1 : Int32) (st : rS) : f_MacroExpandModel_plain_j155 n a0 x1 x3 x4 y0 y1 (rE a0 st h) = (g_plain_j155 n x1 x3 x4 y0 y1 st).map (fun q => (q.1, rE a0 q.2 h)) := by
  unfold f_MacroExpandModel_plain_j155 g_plain_j155
  refine pi_iteW (fun _ => ?_) (fun _ => ?_)
  · skip
    apply p_plain_j174
  · skip
    refine pb_some (r_obj a0 _ h) ?_
    refine pb_sameW (p_get a0 h _ _) (fun v => ?_)
    refine pb_some (r_obj a0 _ h) ?_
    refine pw_call (ε := fun s => rE a0 s h) (p_give a0 h _ _ _) (fun v st => ?_)
    apply p_plain_j174
theorem p_plain_b98 (n : Nat) (a0 : Nat) (h : hH) (x1 : Int32) (x3 : Int32) (x : Int32 × Int32) (st : rS) : f_MacroExpandModel_plain_b98 n a0 x1 x3 x (rE a0 st h) = (g_plain_b98 n x1 x3 x st).map (fun q => (q.1, rE a0 q.2 h)) := by
  unfold f_MacroExpandModel_plain_b98 g_plain_b98
  refine pi_iteW (fun _ => ?_) (fun _ => ?_)
  · skip
    rfl
  · skip
    refine pb_some (rg_21 a0 _ h) ?_
    refine pi_iteW (fun _ => ?_) (fun _ => ?_)
    · skip
      refine pb_some (r_obj a0 _ h) ?_
      refine pw_call (ε := fun s => rE a0 s h) (p_isThere a0 h _ _ _) (fun v st => ?_)
      refine pi_iteW (fun _ => ?_) (fun _ => ?_)
      · skip
        rfl
      · skip
        refine pb_some (r_obj a0 _ h) ?_
        refine pb_sameW (p_get a0 h _ _) (fun v => ?_)
        refine pi_iteW (fun _ => ?_) (fun _ => ?_)
        · skip
          apply p_plain_j155
        · skip
          refine pb_some (r_obj a0 _ h) ?_
          refine pb_sameW (p_get a0 h _ _) (fun v => ?_)
          refine pi_iteW (fun _ => ?_) (fun _ => ?_)
          · skip
            apply p_plain_j155
          · skip
            apply p_plain_j155
    · skip
      rfl
theorem pl_plain_98 (n : Nat) (a0 : Nat) (h : hH) (x1 : Int32) (x3 : Int32) (k : Nat) (x : Int32 × Int32) (st : rS) : hloopW (f_MacroExpandModel_plain_b98 n a0 x1 x3) k x (rE a0 st h) = (gloopW (g_plain_b98 n x1 x3) k x st).map (fun q => (q.1, rE a0 q.2 h)) := pl_W (fun x st => p_plain_b98 n a0 h x1 x3 x st) k x st
theorem p_plain_b3 (n : Nat) (a0 : Nat) (h : hH) (x1 : Int32) (x3 : Int32) (x : Int32) (st : rS) : f_MacroExpandModel_plain_b3 n a0 x1 x3 x (rE a0 st h) = (g_plain_b3 n x1 x3 x st).map (fun q => (q.1, rE a0 q.2 h)) := by
  unfold f_MacroExpandModel_plain_b3 g_plain_b3
  refine pb_some (rg_3 a0 _ h) ?_
  refine pi_iteW (fun _ => ?_) (fun _ => ?_)
  · skip
    rfl
  · skip
    refine pb_some (r_obj a0 _ h) ?_
    refine pb_sameW (p_get a0 h _ _) (fun v => ?_)
    refine pi_iteW (fun _ => ?_) (fun _ => ?_)
    · skip
      rfl
    · skip
      rfl
theorem pl_plain_3 (n : Nat) (a0 : Nat) (h : hH) (x1 : Int32) (x3 : Int32) (k : Nat) (x : Int32) (st : rS) : hloopW (f_MacroExpandModel_plain_b3 n a0 x1 x3) k x (rE a0 st h) = (gloopW (g_plain_b3 n x1 x3) k x st).map (fun q => (q.1, rE a0 q.2 h)) := pl_W (fun x st => p_plain_b3 n a0 h x1 x3 x st) k x st
theorem p_plain (n : Nat) (a0 : Nat) (h : hH) (i1 : Int32) (i2 : Int32) (i3 : Int32) (st : rS) : f_MacroExpandModel_plain n a0 i1 i2 i3 (rE a0 st h) = (g_plain n i1 i2 i3 st).map (fun q => (q.1, rE a0 q.2 h)) := by
  unfold f_MacroExpandModel_plain g_plain
  refine pw_call (ε := fun s => rE a0 s h) (by apply pl_plain_3) (fun b st => ?_)
  refine pb_some (r_obj a0 _ h) ?_
  refine pw_call (ε := fun s => rE a0 s h) (p_isThere a0 h _ _ _) (fun v st => ?_)
  refine pi_iteW (fun _ => ?_) (fun _ => ?_)
  · skip
    rfl
  · skip
    refine pb_some (r_obj a0 _ h) ?_
    refine pb_sameW (p_get a0 h _ _) (fun v => ?_)
    refine pi_iteW (fun _ => ?_) (fun _ => ?_)
    · skip
      refine pb_some (r_obj a0 _ h) ?_
      refine pw_call (ε := fun s => rE a0 s h) (p_mark a0 h _ _) (fun v st => ?_)
      rfl
    · skip
      refine pb_some (r_obj a0 _ h) ?_
      refine pb_sameW (p_get a0 h _ _) (fun v => ?_)
      refine pi_iteW (fun _ => ?_) (fun _ => ?_)
      · skip
        refine pw_call (ε := fun s => rE a0 s h) (by apply pl_plain_98) (fun b st => ?_)
        rfl
      · skip
        refine pb_some (r_obj a0 _ h) ?_
        refine pb_sameW (p_get a0 h _ _) (fun v => ?_)
        refine pb_some (r_obj a0 _ h) ?_
        refine pw_call (ε := fun s => rE a0 s h) (p_give a0 h _ _ _) (fun v st => ?_)
        rfl
theorem p_delimited_j226 (n : Nat) (a0 : Nat) (h : hH) (x2 : Int32) (x5 : Int32) (st : rS) : f_MacroExpandModel_delimited_j226 n a0 x2 x5 (rE a0 st h) = (g_delimited_j226 n x2 x5 st).map (fun q => (q.1, rE a0 q.2 h)) := by
  unfold f_MacroExpandModel_delimited_j226 g_delimited_j226
  refine pb_some (rr_11 a0 _ h) ?_
  refine pb_some rfl ?_
  refine pb_sameW (ra a0 _ h (by decide) rfl) (fun v => ?_)
  rfl
theorem p_delimited_b181 (n : Nat) (a0 : Nat) (h : hH) (x1 : Int32) (x2 : Int32) (x5 : Int32) (x : Int32) (st : rS) : f_MacroExpandModel_delimited_b181 n a0 x1 x2 x5 x (rE a0 st h) = (g_delimited_b181 n x1 x2 x5 x st).map (fun q => (q.1, rE a0 q.2 h)) := by
  unfold f_MacroExpandModel_delimited_b181 g_delimited_b181
  refine pb_some (rr_19 a0 _ h) ?_
  refine pb_some rfl ?_
  refine pb_sameW (ra a0 _ h (by decide) rfl) (fun v => ?_)
  refine pi_iteW (fun _ => ?_) (fun _ => ?_)
  · skip
    rfl
  · skip
    refine pb_some (rr_20 a0 _ h) ?_
    refine pb_some (rr_20 a0 _ h) ?_
    refine pb_some rfl ?_
    refine pb_sameW (ra a0 _ h (by decide) rfl) (fun v => ?_)
    refine pb_some rfl ?_
    refine pb_mapW (rs a0 _ h (by decide) rfl) (fun st => ?_)
    rfl
theorem pl_delimited_181 (n : Nat) (a0 : Nat) (h : hH) (x1 : Int32) (x2 : Int32) (x5 : Int32) (k : Nat) (x : Int32) (st : rS) : hloopW (f_MacroExpandModel_delimited_b181 n a0 x1 x2 x5) k x (rE a0 st h) = (gloopW (g_delimited_b181 n x1 x2 x5) k x st).map (fun q => (q.1, rE a0 q.2 h)) := pl_W (fun x st => p_delimited_b181 n a0 h x1 x2 x5 x st) k x st
theorem p_delimited_j140 (n : Nat) (a0 : Nat) (h : hH) (x1 : Int32) (x2 : Int32) (x3 : Int32) (x4 : Int32) (x5 : Int32) (x6 : Int32) (x7 : Int32) (st : rS) : f_MacroExpandModel_delimited_j140 n a0 x1 x2 x3 x4 x5 x6 x7 (rE a0 st h) = (g_delimited_j140 n x1 x2 x3 x4 x5 x6 x7 st).map (fun q => (q.1, rE a0 q.2 h)) := by
  unfold f_MacroExpandModel_delimited_j140 g_delimited_j140
  rfl
theorem p_delimited_j130 (n : Nat) (a0 : Nat) (h : hH) (x1 : Int32) (x2 : Int32) (x3 : Int32) (x4 : Int32) (x5 : Int32) (x7 : Int32) (x8 : Int32) (y0 : Int32) (y1 : Int32) (st : rS) : f_MacroExpandModel_delimited_j130 n a0 x1 x2 x3 x4 x5 x7 x8 y0 y1 (rE a0 st h) = (g_delimited_j130 n x1 x2 x3 x4 x5 x7 x8 y0 y1 st).map (fun q => (q.1, rE a0 q.2 h)) := by
  unfold f_MacroExpandModel_delimited_j130 g_delimited_j130
  refine pb_some (r_obj a0 _ h) ?_
  refine pw_call (ε := fun s => rE a0 s h) (p_give a0 h _ _ _) (fun v st => ?_)
  apply p_delimited_j140
theorem p_delimited_j103 (n : Nat) (a0 : Nat) (h : hH) (x1 : Int32) (x2 : Int32) (x3 : Int32) (x4 : Int32) (x5 : Int32) (x6 : Int32) (x7 : Int32) (x8 : Int32) (st : rS) : f_MacroExpandModel_delimited_j103 n a0 x1 x2 x3 x4 x5 x6 x7 x8 (rE a0 st h) = (g_delimited_j103 n x1 x2 x3 x4 x5 x6 x7 x8 st).map (fun q => (q.1, rE a0 q.2 h)) := by
  unfold f_MacroExpandModel_delimited_j103 g_delimited_j103
  refine pi_iteW (fun _ => ?_) (fun _ => ?_)
  · skip
    apply p_delimited_j130
  · skip
    refine pi_iteW (fun _ => ?_) (fun _ => ?_)
    · skip
      apply p_delimited_j130
    · skip
      apply p_delimited_j130
theorem p_delimited_j79 (n : Nat) (a0 : Nat) (h : hH) (x1 : Int32) (x2 : Int32) (x3 : Int32) (x4 : Int32) (x5 : Int32) (x6 : Int32) (x8 : Int32) (y0 : Int32) (st : rS) : f_MacroExpandModel_delimited_j79 n a0 x1 x2 x3 x4 x5 x6 x8 y0 (rE a0 st h) = (g_delimited_j79 n x1 x2 x3 x4 x5 x6 x8 y0 st).map (fun q => (q.1, rE a0 q.2 h)) := by
  unfold f_MacroExpandModel_delimited_j79 g_delimited_j79
  refine pi_iteW (fun _ => ?_) (fun _ => ?_)
  · skip
    refine pi_iteW (fun _ => ?_) (fun _ => ?_)
    · skip
      refine pb_some (r_obj a0 _ h) ?_
      refine pw_call (ε := fun s => rE a0 s h) (p_mark a0 h _ _) (fun v st => ?_)
      apply p_delimited_j140
    · skip
      apply p_delimited_j103
  · skip
    apply p_delimited_j103
theorem p_delimited_j78 (n : Nat) (a0 : Nat) (h : hH) (x1 : Int32) (x2 : Int32) (x3 : Int32) (x4 : Int32) (x5 : Int32) (x6 : Int32) (x8 : Int32) (st : rS) : f_MacroExpandModel_delimited_j78 n a0 x1 x2 x3 x4 x5 x6 x8 (rE a0 st h) = (g_delimited_j78 n x1 x2 x3 x4 x5 x6 x8 st).map (fun q => (q.1, rE a0 q.2 h)) := by
  unfold f_MacroExpandModel_delimited_j78 g_delimited_j78
  apply p_delimited_j79
theorem p_delimited_j74 (n : Nat) (a0 : Nat) (h : hH) (x1 : Int32) (x2 : Int32) (x3 : Int32) (x4 : Int32) (x5 : Int32) (x6 : Int32) (x8 : Int32) (st : rS) : f_MacroExpandModel_delimited_j74 n a0 x1 x2 x3 x4 x5 x6 x8 (rE a0 st h) = (g_delimited_j74 n x1 x2 x3 x4 x5 x6 x8 st).map (fun q => (q.1, rE a0 q.2 h)) := by
  unfold f_MacroExpandModel_delimited_j74 g_delimited_j74
  apply p_delimited_j79
theorem p_delimited_j31 (n : Nat) (a0 : Nat) (h : hH) (x1 : Int32) (x2 : Int32) (x3 : Int32) (x4 : Int32) (x5 : Int32) (x6 : Int32) (x7 : Int32) (st : rS) : f_MacroExpandModel_delimited_j31 n a0 x1 x2 x3 x4 x5 x6 x7 (rE a0 st h) = (g_delimited_j31 n x1 x2 x3 x4 x5 x6 x7 st).map (fun q => (q.1, rE a0 q.2 h)) := by
  unfold f_MacroExpandModel_delimited_j31 g_delimited_j31
  refine pb_some (r_obj a0 _ h) ?_
  refine pw_call (ε := fun s => rE a0 s h) (p_isThere a0 h _ _ _) (fun v st => ?_)
  refine pi_iteW (fun _ => ?_) (fun _ => ?_)
  · skip
    rfl
  · skip
    refine pb_some (r_obj a0 _ h) ?_
    refine pb_sameW (p_get a0 h _ _) (fun v => ?_)
    refine pi_iteW (fun _ => ?_) (fun _ => ?_)
    · skip
      apply p_delimited_j78
    · skip
      refine pi_iteW (fun _ => ?_) (fun _ => ?_)
      · skip
        apply p_delimited_j74
      · skip
        refine pi_iteW (fun _ => ?_) (fun _ => ?_)
        · skip
          refine pi_iteW (fun _ => ?_) (fun _ => ?_)
          · skip
            apply p_delimited_j74
          · skip
            apply p_delimited_j78
        · skip
          apply p_delimited_j78
theorem p_delimited_b9 (n : Nat) (a0 : Nat) (h : hH) (x1 : Int32) (x2 : Int32) (x3 : Int32) (x4 : Int32) (x : Int32 × Int32 × Int32) (st : rS) : f_MacroExpandModel_delimited_b9 n a0 x1 x2 x3 x4 x (rE a0 st h) = (g_delimited_b9 n x1 x2 x3 x4 x st).map (fun q => (q.1, rE a0 q.2 h)) := by
  unfold f_MacroExpandModel_delimited_b9 g_delimited_b9
  refine pb_some (rg_21 a0 _ h) ?_
  refine pi_iteW (fun _ => ?_) (fun _ => ?_)
  · skip
    refine pi_iteW (fun _ => ?_) (fun _ => ?_)
    · skip
      refine pb_some (r_obj a0 _ h) ?_
      refine pb_sameW (p_rowComes _ a0 h _ _ _) (fun v => ?_)
      refine pi_iteW (fun _ => ?_) (fun _ => ?_)
      · skip
        apply p_delimited_j31
      · skip
        rfl
    · skip
      apply p_delimited_j31
  · skip
    rfl
theorem pl_delimited_9 (n : Nat) (a0 : Nat) (h : hH) (x1 : Int32) (x2 : Int32) (x3 : Int32) (x4 : Int32) (k : Nat) (x : Int32 × Int32 × Int32) (st : rS) : hloopW (f_MacroExpandModel_delimited_b9 n a0 x1 x2 x3 x4) k x (rE a0 st h) = (gloopW (g_delimited_b9 n x1 x2 x3 x4) k x st).map (fun q => (q.1, rE a0 q.2 h)) := pl_W (fun x st => p_delimited_b9 n a0 h x1 x2 x3 x4 x st) k x st
theorem p_delimited (n : Nat) (a0 : Nat) (h : hH) (i1 : Int32) (i2 : Int32) (i3 : Int32) (i4 : Int32) (st : rS) : f_MacroExpandModel_delimited n a0 i1 i2 i3 i4 (rE a0 st h) = (g_delimited n i1 i2 i3 i4 st).map (fun q => (q.1, rE a0 q.2 h)) := by
  unfold f_MacroExpandModel_delimited g_delimited
  refine pw_call (ε := fun s => rE a0 s h) (by apply pl_delimited_9) (fun b st => ?_)
  refine pb_some (rg_21 a0 _ h) ?_
  refine pi_iteW (fun _ => ?_) (fun _ => ?_)
  · skip
    refine pi_iteW (fun _ => ?_) (fun _ => ?_)
    · skip
      apply p_delimited_j226
    · skip
      refine pb_some (rr_19 a0 _ h) ?_
      refine pb_some rfl ?_
      refine pb_sameW (ra a0 _ h (by decide) rfl) (fun v => ?_)
      refine pi_iteW (fun _ => ?_) (fun _ => ?_)
      · skip
        apply p_delimited_j226
      · skip
        refine pb_some (rr_19 a0 _ h) ?_
        refine pb_some rfl ?_
        refine pb_sameW (ra a0 _ h (by decide) rfl) (fun v => ?_)
        refine pb_mapW (rs a0 _ h (by decide) rfl) (fun st => ?_)
        refine pw_call (ε := fun s => rE a0 s h) (by apply pl_delimited_181) (fun b st => ?_)
        apply p_delimited_j226
  · skip
    apply p_delimited_j226
