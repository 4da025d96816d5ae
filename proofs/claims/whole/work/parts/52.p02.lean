theorem p_comes_j81 (n : Nat) (a0 : Nat) (h : hH) (x1 : Int32) (x3 : Int32) (y0 : Int32) (y1 : Int32) (st : rS) : f_MacroExpandModel_comes_j81 n a0 x1 x3 y0 y1 (rE a0 st h) = g_comes_j81 n x1 x3 y0 y1 st := by
  unfold f_MacroExpandModel_comes_j81 g_comes_j81
  rfl
theorem p_comes_b4 (n : Nat) (a0 : Nat) (h : hH) (x1 : Int32) (x : Int32 × Int32) (st : rS) : f_MacroExpandModel_comes_b4 n a0 x1 (rE a0 st h) x = g_comes_b4 n x1 st x := by
  unfold f_MacroExpandModel_comes_b4 g_comes_b4
  refine pb_some (rr_9 a0 _ h) ?_
  refine pb_some rfl ?_
  refine pb_sameR (ra a0 _ h (by decide) rfl) (fun v => ?_)
  refine pi_iteR (fun _ => ?_) (fun _ => ?_)
  · skip
    rfl
  · skip
    refine pb_some (rr_10 a0 _ h) ?_
    refine pb_some rfl ?_
    refine pb_sameR (ra a0 _ h (by decide) rfl) (fun v => ?_)
    refine pb_sameR (p_in a0 h _ _ _ _) (fun v => ?_)
    refine pi_iteR (fun _ => ?_) (fun _ => ?_)
    · skip
      apply p_comes_j81
    · skip
      refine pb_some (rr_7 a0 _ h) ?_
      refine pb_some rfl ?_
      refine pb_sameR (ra a0 _ h (by decide) rfl) (fun v => ?_)
      refine pi_iteR (fun _ => ?_) (fun _ => ?_)
      · skip
        apply p_comes_j81
      · skip
        refine pb_some (rr_19 a0 _ h) ?_
        refine pb_some rfl ?_
        refine pb_sameR (ra a0 _ h (by decide) rfl) (fun v => ?_)
        apply p_comes_j81
theorem pl_comes_4 (n : Nat) (a0 : Nat) (h : hH) (x1 : Int32) (k : Nat) (x : Int32 × Int32) (st : rS) : hloopR (f_MacroExpandModel_comes_b4 n a0 x1 (rE a0 st h)) k x = gloopR (g_comes_b4 n x1 st) k x := pl_R (fun x => p_comes_b4 n a0 h x1 x st) k x
theorem p_comes (n : Nat) (a0 : Nat) (h : hH) (i1 : Int32) (st : rS) : f_MacroExpandModel_comes n a0 i1 (rE a0 st h) = g_comes n i1 st := by
  unfold f_MacroExpandModel_comes g_comes
  refine pb_sameR (by apply pl_comes_4) (fun b => ?_)
  rfl
theorem p_passed_j30 (n : Nat) (a0 : Nat) (h : hH) (x2 : Int32) (y0 : Int32) (y1 : Int32) (st : rS) : f_MacroExpandModel_passed_j30 n a0 x2 y0 y1 (rE a0 st h) = g_passed_j30 n x2 y0 y1 st := by
  unfold f_MacroExpandModel_passed_j30 g_passed_j30
  rfl
theorem p_passed_b4 (n : Nat) (a0 : Nat) (h : hH) (x : Int32 × Int32) (st : rS) : f_MacroExpandModel_passed_b4 n a0 (rE a0 st h) x = g_passed_b4 n st x := by
  unfold f_MacroExpandModel_passed_b4 g_passed_b4
  refine pb_some (rg_28 a0 _ h) ?_
  refine pi_iteR (fun _ => ?_) (fun _ => ?_)
  · skip
    rfl
  · skip
    refine pb_some (rr_29 a0 _ h) ?_
    refine pb_some rfl ?_
    refine pb_sameR (ra a0 _ h (by decide) rfl) (fun v => ?_)
    refine pi_iteR (fun _ => ?_) (fun _ => ?_)
    · skip
      apply p_passed_j30
    · skip
      apply p_passed_j30
theorem pl_passed_4 (n : Nat) (a0 : Nat) (h : hH) (k : Nat) (x : Int32 × Int32) (st : rS) : hloopR (f_MacroExpandModel_passed_b4 n a0 (rE a0 st h)) k x = gloopR (g_passed_b4 n st) k x := pl_R (fun x => p_passed_b4 n a0 h x st) k x
theorem p_passed (n : Nat) (a0 : Nat) (h : hH) (st : rS) : f_MacroExpandModel_passed n a0 (rE a0 st h) = g_passed n st := by
  unfold f_MacroExpandModel_passed g_passed
  refine pb_sameR (by apply pl_passed_4) (fun b => ?_)
  rfl
theorem p_expandName_j501 (n : Nat) (a0 : Nat) (h : hH) (x2 : Int32) (st : rS) : f_MacroExpandModel_expandName_j501 n a0 x2 (rE a0 st h) = (g_expandName_j501 n x2 st).map (fun q => (q.1, rE a0 q.2 h)) := by
  unfold f_MacroExpandModel_expandName_j501 g_expandName_j501
  refine pb_some (rp_22 a0 _ h _) ?_
  rfl
theorem p_expandName_j433 (n : Nat) (a0 : Nat) (h : hH) (x2 : Int32) (x3 : Int32) (x6 : Int32) (x7 : Int32) (x8 : Int32) (x9 : Int32) (x10 : Int32) (st : rS) : f_MacroExpandModel_expandName_j433 n a0 x2 x3 x6 x7 x8 x9 x10 (rE a0 st h) = (g_expandName_j433 n x2 x3 x6 x7 x8 x9 x10 st).map (fun q => (q.1, rE a0 q.2 h)) := by
  unfold f_MacroExpandModel_expandName_j433 g_expandName_j433
  rfl
theorem p_expandName_j427 (n : Nat) (a0 : Nat) (h : hH) (x2 : Int32) (x3 : Int32) (x6 : Int32) (x7 : Int32) (x8 : Int32) (x9 : Int32) (x10 : Int32) (y1 : Int32) (y2 : Int32) (st : rS) : f_MacroExpandModel_expandName_j427 n a0 x2 x3 x6 x7 x8 x9 x10 (some a0) y1 y2 (rE a0 st h) = (g_expandName_j427 n x2 x3 x6 x7 x8 x9 x10 y1 y2 st).map (fun q => (q.1, rE a0 q.2 h)) := by
  unfold f_MacroExpandModel_expandName_j427 g_expandName_j427
  refine pb_some rfl ?_
  refine pb_some (r_obj a0 _ h) ?_
  refine pw_call (ε := fun s => rE a0 s h) (p_set a0 h _ _ _) (fun v st => ?_)
  apply p_expandName_j433
theorem p_expandName_b351 (n : Nat) (a0 : Nat) (h : hH) (x2 : Int32) (x3 : Int32) (x6 : Int32) (x7 : Int32) (x8 : Int32) (x10 : Int32) (x12 : Int32) (x : Int32 × Int32) (st : rS) : f_MacroExpandModel_expandName_b351 n a0 x2 x3 x6 x7 x8 x10 x12 x (rE a0 st h) = (g_expandName_b351 n x2 x3 x6 x7 x8 x10 x12 x st).map (fun q => (q.1, rE a0 q.2 h)) := by
  unfold f_MacroExpandModel_expandName_b351 g_expandName_b351
  refine pb_some (rr_7 a0 _ h) ?_
  refine pb_some rfl ?_
  refine pb_sameW (ra a0 _ h (by decide) rfl) (fun v => ?_)
  refine pi_iteW (fun _ => ?_) (fun _ => ?_)
  · skip
    rfl
  · skip
    refine pb_some (rr_19 a0 _ h) ?_
    refine pb_some rfl ?_
    refine pb_sameW (ra a0 _ h (by decide) rfl) (fun v => ?_)
    refine pi_iteW (fun _ => ?_) (fun _ => ?_)
    · skip
      rfl
    · skip
      refine pb_some (rr_20 a0 _ h) ?_
      refine pb_some rfl ?_
      refine pb_sameW (ra a0 _ h (by decide) rfl) (fun v => ?_)
      refine pb_some (r_obj a0 _ h) ?_
      refine pw_call (ε := fun s => rE a0 s h) (p_set a0 h _ _ _) (fun v st => ?_)
      rfl
theorem pl_expandName_351 (n : Nat) (a0 : Nat) (h : hH) (x2 : Int32) (x3 : Int32) (x6 : Int32) (x7 : Int32) (x8 : Int32) (x10 : Int32) (x12 : Int32) (k : Nat) (x : Int32 × Int32) (st : rS) : hloopW (f_MacroExpandModel_expandName_b351 n a0 x2 x3 x6 x7 x8 x10 x12) k x (rE a0 st h) = (gloopW (g_expandName_b351 n x2 x3 x6 x7 x8 x10 x12) k x st).map (fun q => (q.1, rE a0 q.2 h)) := pl_W (fun x st => p_expandName_b351 n a0 h x2 x3 x6 x7 x8 x10 x12 x st) k x st
theorem p_expandName_b300 (n : Nat) (a0 : Nat) (h : hH) (x2 : Int32) (x3 : Int32) (x6 : Int32) (x7 : Int32) (x8 : Int32) (x : Int32 × Int32) (st : rS) : f_MacroExpandModel_expandName_b300 n a0 x2 x3 x6 x7 x8 x (rE a0 st h) = (g_expandName_b300 n x2 x3 x6 x7 x8 x st).map (fun q => (q.1, rE a0 q.2 h)) := by
  unfold f_MacroExpandModel_expandName_b300 g_expandName_b300
  refine pb_some (rr_9 a0 _ h) ?_
  refine pb_some rfl ?_
  refine pb_sameW (ra a0 _ h (by decide) rfl) (fun v => ?_)
  refine pi_iteW (fun _ => ?_) (fun _ => ?_)
  · skip
    rfl
  · skip
    refine pb_some (rr_10 a0 _ h) ?_
    refine pb_some rfl ?_
    refine pb_sameW (ra a0 _ h (by decide) rfl) (fun v => ?_)
    refine pb_sameW (p_in a0 h _ _ _ _) (fun v => ?_)
    refine pi_iteW (fun _ => ?_) (fun _ => ?_)
    · skip
      refine pb_sameW (p_isParameter a0 h _ _) (fun v => ?_)
      refine pi_iteW (fun _ => ?_) (fun _ => ?_)
      · skip
        apply p_expandName_j427
      · skip
        apply p_expandName_j427
    · skip
      refine pw_call (ε := fun s => rE a0 s h) (by apply pl_expandName_351) (fun b st => ?_)
      apply p_expandName_j433
theorem pl_expandName_300 (n : Nat) (a0 : Nat) (h : hH) (x2 : Int32) (x3 : Int32) (x6 : Int32) (x7 : Int32) (x8 : Int32) (k : Nat) (x : Int32 × Int32) (st : rS) : hloopW (f_MacroExpandModel_expandName_b300 n a0 x2 x3 x6 x7 x8) k x (rE a0 st h) = (gloopW (g_expandName_b300 n x2 x3 x6 x7 x8) k x st).map (fun q => (q.1, rE a0 q.2 h)) := pl_W (fun x st => p_expandName_b300 n a0 h x2 x3 x6 x7 x8 x st) k x st
theorem p_expandName_j264 (n : Nat) (a0 : Nat) (h : hH) (x1 : Int32) (x2 : Int32) (x3 : Int32) (x5 : Int32) (x6 : Int32) (x7 : Int32) (st : rS) : f_MacroExpandModel_expandName_j264 n a0 x1 x2 x3 x5 x6 x7 (rE a0 st h) = (g_expandName_j264 n x1 x2 x3 x5 x6 x7 st).map (fun q => (q.1, rE a0 q.2 h)) := by
  unfold f_MacroExpandModel_expandName_j264 g_expandName_j264
  refine pb_some (rg_21 a0 _ h) ?_
  refine pi_iteW (fun _ => ?_) (fun _ => ?_)
  · skip
    refine pb_some (rg_22 a0 _ h) ?_
    refine pb_some (r_obj a0 _ h) ?_
    refine pw_call (ε := fun s => rE a0 s h) (p_take _ a0 h _ _ _) (fun v st => ?_)
    refine pb_some (r_obj a0 _ h) ?_
    refine pw_call (ε := fun s => rE a0 s h) (p_spread _ a0 h _ _ _) (fun v st => ?_)
    refine pw_call (ε := fun s => rE a0 s h) (by apply pl_expandName_300) (fun b st => ?_)
    refine pb_some (rg_25 a0 _ h) ?_
    refine pi_iteW (fun _ => ?_) (fun _ => ?_)
    · skip
      apply p_expandName_j501
    · skip
      refine pb_some (rr_26 a0 _ h) ?_
      refine pb_some (rg_25 a0 _ h) ?_
      refine pb_some rfl ?_
      refine pb_mapW (rs a0 _ h (by decide) rfl) (fun st => ?_)
      refine pb_some (rr_26 a0 _ h) ?_
      refine pb_some (rg_25 a0 _ h) ?_
      refine pb_some rfl ?_
      refine pb_mapW (rs a0 _ h (by decide) rfl) (fun st => ?_)
      refine pb_some (rr_26 a0 _ h) ?_
      refine pb_some (rg_25 a0 _ h) ?_
      refine pb_some rfl ?_
      refine pb_mapW (rs a0 _ h (by decide) rfl) (fun st => ?_)
      refine pb_some (rg_25 a0 _ h) ?_
      refine pb_some (rp_25 a0 _ h _) ?_
      apply p_expandName_j501
  · skip
    rfl
theorem p_expandName_j226 (n : Nat) (a0 : Nat) (h : hH) (x1 : Int32) (x2 : Int32) (x3 : Int32) (x5 : Int32) (x6 : Int32) (y0 : Int32) (st : rS) : f_MacroExpandModel_expandName_j226 n a0 x1 x2 x3 x5 x6 y0 (rE a0 st h) = (g_expandName_j226 n x1 x2 x3 x5 x6 y0 st).map (fun q => (q.1, rE a0 q.2 h)) := by
  unfold f_MacroExpandModel_expandName_j226 g_expandName_j226
  refine pb_some (rg_21 a0 _ h) ?_
  refine pi_iteW (fun _ => ?_) (fun _ => ?_)
  · skip
    refine pb_some (rg_3 a0 _ h) ?_
    refine pb_some (r_obj a0 _ h) ?_
    refine pb_sameW (p_passed _ a0 h _) (fun v => ?_)
    refine pi_iteW (fun _ => ?_) (fun _ => ?_)
    · skip
      apply p_expandName_j264
    · skip
      refine pb_some (r_obj a0 _ h) ?_
      refine pw_call (ε := fun s => rE a0 s h) (p_mark a0 h _ _) (fun v st => ?_)
      apply p_expandName_j264
  · skip
    apply p_expandName_j264
theorem p_expandName_j190 (n : Nat) (a0 : Nat) (h : hH) (x1 : Int32) (x2 : Int32) (x3 : Int32) (x4 : Int32) (x6 : Int32) (x7 : Int32) (y0 : Int32) (st : rS) : f_MacroExpandModel_expandName_j190 n a0 x1 x2 x3 x4 x6 x7 y0 (rE a0 st h) = (g_expandName_j190 n x1 x2 x3 x4 x6 x7 y0 st).map (fun q => (q.1, rE a0 q.2 h)) := by
  unfold f_MacroExpandModel_expandName_j190 g_expandName_j190
  refine pb_some (rr_19 a0 _ h) ?_
  refine pb_some rfl ?_
  refine pb_sameW (ra a0 _ h (by decide) rfl) (fun v => ?_)
  rfl
theorem p_expandName_b119 (n : Nat) (a0 : Nat) (h : hH) (x1 : Int32) (x2 : Int32) (x3 : Int32) (x4 : Int32) (x : Int32 × Int32 × Int32) (st : rS) : f_MacroExpandModel_expandName_b119 n a0 x1 x2 x3 x4 x (rE a0 st h) = (g_expandName_b119 n x1 x2 x3 x4 x st).map (fun q => (q.1, rE a0 q.2 h)) := by
  unfold f_MacroExpandModel_expandName_b119 g_expandName_b119
  refine pb_some (rr_7 a0 _ h) ?_
  refine pb_some rfl ?_
  refine pb_sameW (ra a0 _ h (by decide) rfl) (fun v => ?_)
  refine pi_iteW (fun _ => ?_) (fun _ => ?_)
  · skip
    rfl
  · skip
    refine pb_some (rg_21 a0 _ h) ?_
    refine pi_iteW (fun _ => ?_) (fun _ => ?_)
    · skip
      refine pb_some (rr_19 a0 _ h) ?_
      refine pb_some rfl ?_
      refine pb_mapW (rs a0 _ h (by decide) rfl) (fun st => ?_)
      refine pb_some (rr_11 a0 _ h) ?_
      refine pb_some rfl ?_
      refine pb_sameW (ra a0 _ h (by decide) rfl) (fun v => ?_)
      refine pi_iteW (fun _ => ?_) (fun _ => ?_)
      · skip
        refine pb_some (r_obj a0 _ h) ?_
        refine pw_call (ε := fun s => rE a0 s h) (p_plain _ a0 h _ _ _ _) (fun v st => ?_)
        apply p_expandName_j190
      · skip
        refine pb_some (r_obj a0 _ h) ?_
        refine pw_call (ε := fun s => rE a0 s h) (p_delimited _ a0 h _ _ _ _ _) (fun v st => ?_)
        apply p_expandName_j190
    · skip
      rfl
theorem pl_expandName_119 (n : Nat) (a0 : Nat) (h : hH) (x1 : Int32) (x2 : Int32) (x3 : Int32) (x4 : Int32) (k : Nat) (x : Int32 × Int32 × Int32) (st : rS) : hloopW (f_MacroExpandModel_expandName_b119 n a0 x1 x2 x3 x4) k x (rE a0 st h) = (gloopW (g_expandName_b119 n x1 x2 x3 x4) k x st).map (fun q => (q.1, rE a0 q.2 h)) := pl_W (fun x st => p_expandName_b119 n a0 h x1 x2 x3 x4 x st) k x st
theorem p_expandName_j104 (n : Nat) (a0 : Nat) (h : hH) (x1 : Int32) (x2 : Int32) (x3 : Int32) (x4 : Int32) (x5 : Int32) (x6 : Int32) (st : rS) : f_MacroExpandModel_expandName_j104 n a0 x1 x2 x3 x4 x5 x6 (rE a0 st h) = (g_expandName_j104 n x1 x2 x3 x4 x5 x6 st).map (fun q => (q.1, rE a0 q.2 h)) := by
  unfold f_MacroExpandModel_expandName_j104 g_expandName_j104
  rfl
theorem p_expandName_b46 (n : Nat) (a0 : Nat) (h : hH) (x1 : Int32) (x2 : Int32) (x3 : Int32) (x4 : Int32) (x : Int32 × Int32) (st : rS) : f_MacroExpandModel_expandName_b46 n a0 x1 x2 x3 x4 x (rE a0 st h) = (g_expandName_b46 n x1 x2 x3 x4 x st).map (fun q => (q.1, rE a0 q.2 h)) := by
  unfold f_MacroExpandModel_expandName_b46 g_expandName_b46
  refine pb_some (rr_11 a0 _ h) ?_
  refine pb_some rfl ?_
  refine pb_sameW (ra a0 _ h (by decide) rfl) (fun v => ?_)
  refine pi_iteW (fun _ => ?_) (fun _ => ?_)
  · skip
    rfl
  · skip
    refine pb_some (rg_21 a0 _ h) ?_
    refine pi_iteW (fun _ => ?_) (fun _ => ?_)
    · skip
      refine pb_some (r_obj a0 _ h) ?_
      refine pw_call (ε := fun s => rE a0 s h) (p_isThere a0 h _ _ _) (fun v st => ?_)
      refine pi_iteW (fun _ => ?_) (fun _ => ?_)
      · skip
        apply p_expandName_j104
      · skip
        refine pb_some (r_obj a0 _ h) ?_
        refine pb_sameW (p_get a0 h _ _) (fun v => ?_)
        refine pb_some (rr_12 a0 _ h) ?_
        refine pb_some rfl ?_
        refine pb_sameW (ra a0 _ h (by decide) rfl) (fun v => ?_)
        refine pi_iteW (fun _ => ?_) (fun _ => ?_)
        · skip
          apply p_expandName_j104
        · skip
          refine pb_some (r_obj a0 _ h) ?_
          refine pw_call (ε := fun s => rE a0 s h) (p_mark a0 h _ _) (fun v st => ?_)
          apply p_expandName_j104
    · skip
      rfl
theorem pl_expandName_46 (n : Nat) (a0 : Nat) (h : hH) (x1 : Int32) (x2 : Int32) (x3 : Int32) (x4 : Int32) (k : Nat) (x : Int32 × Int32) (st : rS) : hloopW (f_MacroExpandModel_expandName_b46 n a0 x1 x2 x3 x4) k x (rE a0 st h) = (gloopW (g_expandName_b46 n x1 x2 x3 x4) k x st).map (fun q => (q.1, rE a0 q.2 h)) := pl_W (fun x st => p_expandName_b46 n a0 h x1 x2 x3 x4 x st) k x st
theorem p_expandName_j36 (n : Nat) (a0 : Nat) (h : hH) (x1 : Int32) (x2 : Int32) (x3 : Int32) (y0 : Int32) (st : rS) : f_MacroExpandModel_expandName_j36 n a0 x1 x2 x3 y0 (rE a0 st h) = (g_expandName_j36 n x1 x2 x3 y0 st).map (fun q => (q.1, rE a0 q.2 h)) := by
  unfold f_MacroExpandModel_expandName_j36 g_expandName_j36
  refine pw_call (ε := fun s => rE a0 s h) (by apply pl_expandName_46) (fun b st => ?_)
  refine pw_call (ε := fun s => rE a0 s h) (by apply pl_expandName_119) (fun b st => ?_)
  refine pb_some (rg_21 a0 _ h) ?_
  refine pi_iteW (fun _ => ?_) (fun _ => ?_)
  · skip
    refine pb_some (r_obj a0 _ h) ?_
    refine pb_sameW (p_comes _ a0 h _ _) (fun v => ?_)
    apply p_expandName_j226
  · skip
    apply p_expandName_j226
theorem p_expandName (n : Nat) (a0 : Nat) (h : hH) (i1 : Int32) (st : rS) : f_MacroExpandModel_expandName n a0 i1 (rE a0 st h) = (g_expandName n i1 st).map (fun q => (q.1, rE a0 q.2 h)) := by
  unfold f_MacroExpandModel_expandName g_expandName
  refine pb_some (rg_22 a0 _ h) ?_
  refine pb_some (r_obj a0 _ h) ?_
  refine pb_sameW (p_get a0 h _ _) (fun v => ?_)
  refine pb_some (rp_22 a0 _ h _) ?_
  refine pb_some (r_obj a0 _ h) ?_
  refine pb_sameW (p_macroAt a0 h _ _) (fun v => ?_)
  refine pb_some (rr_8 a0 _ h) ?_
  refine pb_some rfl ?_
  refine pb_sameW (ra a0 _ h (by decide) rfl) (fun v => ?_)
  refine pi_iteW (fun _ => ?_) (fun _ => ?_)
  · skip
    apply p_expandName_j36
  · skip
    apply p_expandName_j36
theorem p_nameOf_b117 (n : Nat) (a0 : Nat) (h : hH) (x1 : Int32) (x2 : Int32) (x : Int32) (st : rS) : f_MacroExpandModel_nameOf_b117 n a0 x1 x2 x (rE a0 st h) = (g_nameOf_b117 n x1 x2 x st).map (fun q => (q.1, rE a0 q.2 h)) := by
  unfold f_MacroExpandModel_nameOf_b117 g_nameOf_b117
  refine pi_iteW (fun _ => ?_) (fun _ => ?_)
  · skip
    rfl
  · skip
    refine pb_some (rr_18 a0 _ h) ?_
    refine pb_some (rg_16 a0 _ h) ?_
    refine pb_some (rr_27 a0 _ h) ?_
    refine pb_some rfl ?_
    refine pb_sameW (ra a0 _ h (by decide) rfl) (fun v => ?_)
    refine pb_some rfl ?_
    refine pb_mapW (rs a0 _ h (by decide) rfl) (fun st => ?_)
    rfl
theorem pl_nameOf_117 (n : Nat) (a0 : Nat) (h : hH) (x1 : Int32) (x2 : Int32) (k : Nat) (x : Int32) (st : rS) : hloopW (f_MacroExpandModel_nameOf_b117 n a0 x1 x2) k x (rE a0 st h) = (gloopW (g_nameOf_b117 n x1 x2) k x st).map (fun q => (q.1, rE a0 q.2 h)) := pl_W (fun x st => p_nameOf_b117 n a0 h x1 x2 x st) k x st
theorem p_nameOf_j73 (n : Nat) (a0 : Nat) (h : hH) (x1 : Int32) (x2 : Int32) (x3 : Int32) (x5 : Int32) (y0 : Int32) (st : rS) : f_MacroExpandModel_nameOf_j73 n a0 x1 x2 x3 x5 y0 (rE a0 st h) = (g_nameOf_j73 n x1 x2 x3 x5 y0 st).map (fun q => (q.1, rE a0 q.2 h)) := by
  unfold f_MacroExpandModel_nameOf_j73 g_nameOf_j73
  rfl
theorem p_nameOf_b30 (n : Nat) (a0 : Nat) (h : hH) (x1 : Int32) (x2 : Int32) (x3 : Int32) (x : Int32 × Int32) (st : rS) : f_MacroExpandModel_nameOf_b30 n a0 x1 x2 x3 x (rE a0 st h) = (g_nameOf_b30 n x1 x2 x3 x st).map (fun q => (q.1, rE a0 q.2 h)) := by
  unfold f_MacroExpandModel_nameOf_b30 g_nameOf_b30
  refine pi_iteW (fun _ => ?_) (fun _ => ?_)
  · skip
    rfl
  · skip
    refine pi_iteW (fun _ => ?_) (fun _ => ?_)
    · skip
      rfl
    · skip
      refine pb_some (rr_18 a0 _ h) ?_
      refine pb_some rfl ?_
      refine pb_sameW (ra a0 _ h (by decide) rfl) (fun v => ?_)
      refine pb_some (rr_27 a0 _ h) ?_
      refine pb_some rfl ?_
      refine pb_sameW (ra a0 _ h (by decide) rfl) (fun v => ?_)
      refine pi_iteW (fun _ => ?_) (fun _ => ?_)
      · skip
        apply p_nameOf_j73
      · skip
        apply p_nameOf_j73
theorem pl_nameOf_30 (n : Nat) (a0 : Nat) (h : hH) (x1 : Int32) (x2 : Int32) (x3 : Int32) (k : Nat) (x : Int32 × Int32) (st : rS) : hloopW (f_MacroExpandModel_nameOf_b30 n a0 x1 x2 x3) k x (rE a0 st h) = (gloopW (g_nameOf_b30 n x1 x2 x3) k x st).map (fun q => (q.1, rE a0 q.2 h)) := pl_W (fun x st => p_nameOf_b30 n a0 h x1 x2 x3 x st) k x st
theorem p_nameOf_j25 (n : Nat) (a0 : Nat) (h : hH) (x1 : Int32) (x2 : Int32) (x3 : Int32) (y0 : Int32) (st : rS) : f_MacroExpandModel_nameOf_j25 n a0 x1 x2 x3 y0 (rE a0 st h) = (g_nameOf_j25 n x1 x2 x3 y0 st).map (fun q => (q.1, rE a0 q.2 h)) := by
  unfold f_MacroExpandModel_nameOf_j25 g_nameOf_j25
  refine pw_call (ε := fun s => rE a0 s h) (by apply pl_nameOf_30) (fun b st => ?_)
  refine pi_iteW (fun _ => ?_) (fun _ => ?_)
  · skip
    rfl
  · skip
    rfl
theorem p_nameOf_b2 (n : Nat) (a0 : Nat) (h : hH) (x1 : Int32) (x2 : Int32) (x : Int32) (st : rS) : f_MacroExpandModel_nameOf_b2 n a0 x1 x2 x (rE a0 st h) = (g_nameOf_b2 n x1 x2 x st).map (fun q => (q.1, rE a0 q.2 h)) := by
  unfold f_MacroExpandModel_nameOf_b2 g_nameOf_b2
  refine pb_some (rg_16 a0 _ h) ?_
  refine pi_iteW (fun _ => ?_) (fun _ => ?_)
  · skip
    rfl
  · skip
    refine pb_some (rr_17 a0 _ h) ?_
    refine pb_some rfl ?_
    refine pb_sameW (ra a0 _ h (by decide) rfl) (fun v => ?_)
    refine pi_iteW (fun _ => ?_) (fun _ => ?_)
    · skip
      apply p_nameOf_j25
    · skip
      apply p_nameOf_j25
theorem pl_nameOf_2 (n : Nat) (a0 : Nat) (h : hH) (x1 : Int32) (x2 : Int32) (k : Nat) (x : Int32) (st : rS) : hloopW (f_MacroExpandModel_nameOf_b2 n a0 x1 x2) k x (rE a0 st h) = (gloopW (g_nameOf_b2 n x1 x2) k x st).map (fun q => (q.1, rE a0 q.2 h)) := pl_W (fun x st => p_nameOf_b2 n a0 h x1 x2 x st) k x st
theorem p_nameOf (n : Nat) (a0 : Nat) (h : hH) (i1 : Int32) (i2 : Int32) (st : rS) : f_MacroExpandModel_nameOf n a0 i1 i2 (rE a0 st h) = (g_nameOf n i1 i2 st).map (fun q => (q.1, rE a0 q.2 h)) := by
  unfold f_MacroExpandModel_nameOf g_nameOf
  refine pw_call (ε := fun s => rE a0 s h) (by apply pl_nameOf_2) (fun b st => ?_)
  rcases b with b | b
  · skip
    rfl
  refine pb_some (rg_16 a0 _ h) ?_
  refine pi_iteW (fun _ => ?_) (fun _ => ?_)
  · skip
    refine pb_some (r_obj a0 _ h) ?_
    refine pw_call (ε := fun s => rE a0 s h) (p_mark a0 h _ _) (fun v st => ?_)
    rfl
  · skip
    refine pw_call (ε := fun s => rE a0 s h) (by apply pl_nameOf_117) (fun b st => ?_)
    refine pb_some (rr_17 a0 _ h) ?_
    refine pb_some (rg_16 a0 _ h) ?_
    refine pb_some rfl ?_
    refine pb_mapW (rs a0 _ h (by decide) rfl) (fun st => ?_)
    refine pb_some (rg_16 a0 _ h) ?_
    refine pb_some (rp_16 a0 _ h _) ?_
    refine pb_some (rg_16 a0 _ h) ?_
    rfl
theorem p_pile (a0 : Nat) (h : hH) (i1 : Int32) (i2 : Int32) (st : rS) : f_MacroExpandModel_pile a0 i1 i2 (rE a0 st h) = (g_pile i1 i2 st).map (fun q => (q.1, rE a0 q.2 h)) := by
  unfold f_MacroExpandModel_pile g_pile
  refine pb_some (rr_29 a0 _ h) ?_
  refine pb_some (rg_28 a0 _ h) ?_
  refine pb_some rfl ?_
  refine pb_mapW (rs a0 _ h (by decide) rfl) (fun st => ?_)
  refine pb_some (rr_30 a0 _ h) ?_
  refine pb_some (rg_28 a0 _ h) ?_
  refine pb_some rfl ?_
  refine pb_mapW (rs a0 _ h (by decide) rfl) (fun st => ?_)
  refine pb_some (rr_31 a0 _ h) ?_
  refine pb_some (rg_28 a0 _ h) ?_
  refine pb_some rfl ?_
  refine pb_mapW (rs a0 _ h (by decide) rfl) (fun st => ?_)
  refine pb_some (rg_28 a0 _ h) ?_
  refine pb_some (rp_28 a0 _ h _) ?_
  rfl
theorem p_start_j222 (n : Nat) (a0 : Nat) (h : hH) (x2 : Int32) (x3 : Int32) (st : rS) : f_MacroExpandModel_start_j222 n a0 x2 x3 (rE a0 st h) = (g_start_j222 n x2 x3 st).map (fun q => (q.1, rE a0 q.2 h)) := by
  unfold f_MacroExpandModel_start_j222 g_start_j222
  rfl
theorem p_start_b4 (n : Nat) (a0 : Nat) (h : hH) (x : Int32 × Int32) (st : rS) : f_MacroExpandModel_start_b4 n a0 x (rE a0 st h) = (g_start_b4 n x st).map (fun q => (q.1, rE a0 q.2 h)) := by
  unfold f_MacroExpandModel_start_b4 g_start_b4
  refine pi_iteW (fun _ => ?_) (fun _ => ?_)
  · skip
    rfl
  · skip
    refine pb_some (rg_21 a0 _ h) ?_
    refine pi_iteW (fun _ => ?_) (fun _ => ?_)
    · skip
      refine pb_some (rg_23 a0 _ h) ?_
      refine pb_some (rg_0 a0 _ h) ?_
      refine pi_iteW (fun _ => ?_) (fun _ => ?_)
      · skip
        rfl
      · skip
        refine pb_some (rg_23 a0 _ h) ?_
        refine pb_some (rp_23 a0 _ h _) ?_
        refine pb_some (r_obj a0 _ h) ?_
        refine pb_sameW (p_get a0 h _ _) (fun v => ?_)
        refine pi_iteW (fun _ => ?_) (fun _ => ?_)
        · skip
          refine pb_some (rg_3 a0 _ h) ?_
          refine pi_iteW (fun _ => ?_) (fun _ => ?_)
          · skip
            refine pb_some (r_obj a0 _ h) ?_
            refine pw_call (ε := fun s => rE a0 s h) (p_take _ a0 h _ _ _) (fun v st => ?_)
            refine pb_mapW (rz_24 a0 _ h _) (fun st => ?_)
            apply p_start_j222
          · skip
            rfl
        · skip
          refine pi_iteW (fun _ => ?_) (fun _ => ?_)
          · skip
            refine pb_some (rg_3 a0 _ h) ?_
            refine pi_iteW (fun _ => ?_) (fun _ => ?_)
            · skip
              refine pb_some (rg_28 a0 _ h) ?_
              refine pi_iteW (fun _ => ?_) (fun _ => ?_)
              · skip
                refine pb_some (r_obj a0 _ h) ?_
                refine pw_call (ε := fun s => rE a0 s h) (p_take _ a0 h _ _ _) (fun v st => ?_)
                refine pb_mapW (rz_24 a0 _ h _) (fun st => ?_)
                refine pb_some (r_obj a0 _ h) ?_
                refine pb_sameW (p_canBeExpanded a0 h _ _) (fun v => ?_)
                refine pi_iteW (fun _ => ?_) (fun _ => ?_)
                · skip
                  apply p_start_j222
                · skip
                  refine pb_some (r_obj a0 _ h) ?_
                  refine pw_call (ε := fun s => rE a0 s h) (p_pile a0 h _ _ _) (fun v st => ?_)
                  apply p_start_j222
              · skip
                rfl
            · skip
              rfl
          · skip
            refine pi_iteW (fun _ => ?_) (fun _ => ?_)
            · skip
              refine pb_some (rg_28 a0 _ h) ?_
              refine pi_iteW (fun _ => ?_) (fun _ => ?_)
              · skip
                refine pb_some (r_obj a0 _ h) ?_
                refine pw_call (ε := fun s => rE a0 s h) (p_take _ a0 h _ _ _) (fun v st => ?_)
                refine pb_mapW (rz_24 a0 _ h _) (fun st => ?_)
                refine pb_some (r_obj a0 _ h) ?_
                refine pw_call (ε := fun s => rE a0 s h) (p_pile a0 h _ _ _) (fun v st => ?_)
                apply p_start_j222
              · skip
                rfl
            · skip
              refine pb_some (r_obj a0 _ h) ?_
              refine pw_call (ε := fun s => rE a0 s h) (p_expandName _ a0 h _ _) (fun v st => ?_)
              refine pb_mapW (rz_24 a0 _ h _) (fun st => ?_)
              apply p_start_j222
    · skip
      rfl
theorem pl_start_4 (n : Nat) (a0 : Nat) (h : hH) (k : Nat) (x : Int32 × Int32) (st : rS) : hloopW (f_MacroExpandModel_start_b4 n a0) k x (rE a0 st h) = (gloopW (g_start_b4 n) k x st).map (fun q => (q.1, rE a0 q.2 h)) := pl_W (fun x st => p_start_b4 n a0 h x st) k x st
theorem p_start (n : Nat) (a0 : Nat) (h : hH) (i1 : Int32) (st : rS) : f_MacroExpandModel_start n a0 i1 (rE a0 st h) = (g_start n i1 st).map (fun q => (q.1, rE a0 q.2 h)) := by
  unfold f_MacroExpandModel_start g_start
  refine pw_call (ε := fun s => rE a0 s h) (by apply pl_start_4) (fun b st => ?_)
  rcases b with b | b
  · skip
    refine pb_some (r_obj a0 _ h) ?_
    refine pw_call (ε := fun s => rE a0 s h) (p_mark a0 h _ _) (fun v st => ?_)
    rfl
  rcases b with b | b
  · skip
    refine pb_some (r_obj a0 _ h) ?_
    refine pw_call (ε := fun s => rE a0 s h) (p_mark a0 h _ _) (fun v st => ?_)
    rfl
  rcases b with b | b
  · skip
    refine pb_some (r_obj a0 _ h) ?_
    refine pw_call (ε := fun s => rE a0 s h) (p_mark a0 h _ _) (fun v st => ?_)
    rfl
  rcases b with b | b
  · skip
    refine pb_some (r_obj a0 _ h) ?_
    refine pw_call (ε := fun s => rE a0 s h) (p_mark a0 h _ _) (fun v st => ?_)
    rfl
  rcases b with b | b
  · skip
    refine pb_some (r_obj a0 _ h) ?_
    refine pw_call (ε := fun s => rE a0 s h) (p_mark a0 h _ _) (fun v st => ?_)
    rfl
  rfl
theorem p_goOn_j165 (n : Nat) (a0 : Nat) (h : hH) (x1 : Int32) (x2 : Int32) (x4 : Int32) (x5 : Int32) (y0 : Int32) (st : rS) : f_MacroExpandModel_goOn_j165 n a0 x1 x2 x4 x5 y0 (rE a0 st h) = (g_goOn_j165 n x1 x2 x4 x5 y0 st).map (fun q => (q.1, rE a0 q.2 h)) := by
  unfold f_MacroExpandModel_goOn_j165 g_goOn_j165
  refine pi_iteW (fun _ => ?_) (fun _ => ?_)
  · skip
    refine pb_some (r_obj a0 _ h) ?_
    refine pw_call (ε := fun s => rE a0 s h) (p_mark a0 h _ _) (fun v st => ?_)
    rfl
  · skip
    refine pb_some (r_obj a0 _ h) ?_
    refine pw_call (ε := fun s => rE a0 s h) (p_take _ a0 h _ _ _) (fun v st => ?_)
    refine pi_iteW (fun _ => ?_) (fun _ => ?_)
    · skip
      refine pb_some (r_obj a0 _ h) ?_
      refine pw_call (ε := fun s => rE a0 s h) (p_nameOf _ a0 h _ _ _) (fun v st => ?_)
      refine pb_some (rg_21 a0 _ h) ?_
      refine pi_iteW (fun _ => ?_) (fun _ => ?_)
      · skip
        refine pb_some (r_obj a0 _ h) ?_
        refine pw_call (ε := fun s => rE a0 s h) (p_spread _ a0 h _ _ _) (fun v st => ?_)
        refine pb_some (r_obj a0 _ h) ?_
        refine pw_call (ε := fun s => rE a0 s h) (p_set a0 h _ _ _) (fun v st => ?_)
        refine pb_some (rg_28 a0 _ h) ?_
        refine pb_some (rp_28 a0 _ h _) ?_
        rfl
      · skip
        rfl
    · skip
      refine pb_some (rr_27 a0 _ h) ?_
      refine pb_some rfl ?_
      refine pb_mapW (rs a0 _ h (by decide) rfl) (fun st => ?_)
      refine pb_some (rr_31 a0 _ h) ?_
      refine pb_some rfl ?_
      refine pb_sameW (ra a0 _ h (by decide) rfl) (fun v => ?_)
      refine pb_mapW (rs a0 _ h (by decide) rfl) (fun st => ?_)
      rfl
theorem p_goOn_j164 (n : Nat) (a0 : Nat) (h : hH) (x1 : Int32) (x2 : Int32) (x4 : Int32) (x5 : Int32) (st : rS) : f_MacroExpandModel_goOn_j164 n a0 x1 x2 x4 x5 (rE a0 st h) = (g_goOn_j164 n x1 x2 x4 x5 st).map (fun q => (q.1, rE a0 q.2 h)) := by
  unfold f_MacroExpandModel_goOn_j164 g_goOn_j164
  apply p_goOn_j165
theorem p_goOn_j105 (n : Nat) (a0 : Nat) (h : hH) (x1 : Int32) (x2 : Int32) (st : rS) : f_MacroExpandModel_goOn_j105 n a0 x1 x2 (rE a0 st h) = (g_goOn_j105 n x1 x2 st).map (fun q => (q.1, rE a0 q.2 h)) := by
  unfold f_MacroExpandModel_goOn_j105 g_goOn_j105
  refine pb_some (r_obj a0 _ h) ?_
  refine pb_sameW (p_get a0 h _ _) (fun v => ?_)
  refine pb_some (rr_31 a0 _ h) ?_
  refine pb_some rfl ?_
  refine pb_sameW (ra a0 _ h (by decide) rfl) (fun v => ?_)
  refine pi_iteW (fun _ => ?_) (fun _ => ?_)
  · skip
    refine pi_iteW (fun _ => ?_) (fun _ => ?_)
    · skip
      apply p_goOn_j165
    · skip
      apply p_goOn_j165
  · skip
    refine pb_sameW (p_in a0 h _ _ _ _) (fun v => ?_)
    refine pi_iteW (fun _ => ?_) (fun _ => ?_)
    · skip
      apply p_goOn_j164
    · skip
      refine pi_iteW (fun _ => ?_) (fun _ => ?_)
      · skip
        apply p_goOn_j164
      · skip
        apply p_goOn_j165
theorem p_goOn (n : Nat) (a0 : Nat) (h : hH) (st : rS) : f_MacroExpandModel_goOn n a0 (rE a0 st h) = (g_goOn n st).map (fun q => (q.1, rE a0 q.2 h)) := by
  unfold f_MacroExpandModel_goOn g_goOn
  refine pb_some (rg_28 a0 _ h) ?_
  refine pb_some (rr_29 a0 _ h) ?_
  refine pb_some rfl ?_
  refine pb_sameW (ra a0 _ h (by decide) rfl) (fun v => ?_)
  refine pi_iteW (fun _ => ?_) (fun _ => ?_)
  · skip
    refine pb_some (rg_28 a0 _ h) ?_
    refine pb_some (rp_28 a0 _ h _) ?_
    refine pb_mapW (rz_24 a0 _ h _) (fun st => ?_)
    refine pb_some (rg_3 a0 _ h) ?_
    refine pb_some (r_obj a0 _ h) ?_
    refine pb_sameW (p_passed _ a0 h _) (fun v => ?_)
    refine pi_iteW (fun _ => ?_) (fun _ => ?_)
    · skip
      rfl
    · skip
      refine pb_some (r_obj a0 _ h) ?_
      refine pw_call (ε := fun s => rE a0 s h) (p_mark a0 h _ _) (fun v st => ?_)
      rfl
  · skip
    refine pb_some (rr_30 a0 _ h) ?_
    refine pb_some rfl ?_
    refine pb_sameW (ra a0 _ h (by decide) rfl) (fun v => ?_)
    refine pb_some (rg_24 a0 _ h) ?_
    refine pb_mapW (rz_24 a0 _ h _) (fun st => ?_)
    refine pb_some (rg_3 a0 _ h) ?_
    refine pi_iteW (fun _ => ?_) (fun _ => ?_)
    · skip
      refine pi_iteW (fun _ => ?_) (fun _ => ?_)
      · skip
        refine pb_some (r_obj a0 _ h) ?_
        refine pb_sameW (p_canBeExpanded a0 h _ _) (fun v => ?_)
        refine pi_iteW (fun _ => ?_) (fun _ => ?_)
        · skip
          apply p_goOn_j105
        · skip
          refine pb_some (r_obj a0 _ h) ?_
          refine pw_call (ε := fun s => rE a0 s h) (p_start _ a0 h _ _) (fun v st => ?_)
          rfl
      · skip
        apply p_goOn_j105
    · skip
      refine pb_some (r_obj a0 _ h) ?_
      refine pw_call (ε := fun s => rE a0 s h) (p_mark a0 h _ _) (fun v st => ?_)
      rfl
theorem p_expandAt_b10 (n : Nat) (a0 : Nat) (h : hH) (x : Unit) (st : rS) : f_MacroExpandModel_expandAt_b10 n a0 x (rE a0 st h) = (g_expandAt_b10 n x st).map (fun q => (q.1, rE a0 q.2 h)) := by
  unfold f_MacroExpandModel_expandAt_b10 g_expandAt_b10
  refine pb_some (rg_28 a0 _ h) ?_
  refine pi_iteW (fun _ => ?_) (fun _ => ?_)
  · skip
    rfl
  · skip
    refine pb_some (rg_21 a0 _ h) ?_
    refine pi_iteW (fun _ => ?_) (fun _ => ?_)
    · skip
      refine pb_some (r_obj a0 _ h) ?_
      refine pw_call (ε := fun s => rE a0 s h) (p_goOn _ a0 h _) (fun v st => ?_)
      rfl
    · skip
      rfl
theorem pl_expandAt_10 (n : Nat) (a0 : Nat) (h : hH) (k : Nat) (x : Unit) (st : rS) : hloopW (f_MacroExpandModel_expandAt_b10 n a0) k x (rE a0 st h) = (gloopW (g_expandAt_b10 n) k x st).map (fun q => (q.1, rE a0 q.2 h)) := pl_W (fun x st => p_expandAt_b10 n a0 h x st) k x st
theorem p_expandAt (n : Nat) (a0 : Nat) (h : hH) (i1 : Int32) (st : rS) : f_MacroExpandModel_expandAt n a0 i1 (rE a0 st h) = (g_expandAt n i1 st).map (fun q => (q.1, rE a0 q.2 h)) := by
  unfold f_MacroExpandModel_expandAt g_expandAt
  refine pb_some (rp_28 a0 _ h _) ?_
  refine pb_some (r_obj a0 _ h) ?_
  refine pw_call (ε := fun s => rE a0 s h) (p_start _ a0 h _ _) (fun v st => ?_)
  refine pw_call (ε := fun s => rE a0 s h) (by apply pl_expandAt_10) (fun b st => ?_)
  rfl
theorem p_begin (a0 : Nat) (h : hH) (st : rS) : f_MacroExpandModel_begin a0 (rE a0 st h) = (g_begin  st).map (fun q => (q.1, rE a0 q.2 h)) := by
  unfold f_MacroExpandModel_begin g_begin
  refine pb_some (rp_21 a0 _ h _) ?_
  refine pb_some (rp_22 a0 _ h _) ?_
  refine pb_some (rp_23 a0 _ h _) ?_
  refine pb_mapW (rz_24 a0 _ h _) (fun st => ?_)
  refine pb_some (rp_25 a0 _ h _) ?_
  refine pb_some (rp_32 a0 _ h _) ?_
  refine pb_some (rp_33 a0 _ h _) ?_
  rfl
theorem p_defines_b586 (n : Nat) (a0 : Nat) (h : hH) (x3 : Int32) (x7 : Int32) (x8 : Int32) (x : Int32) (st : rS) : f_MacroExpandModel_defines_b586 n a0 x3 x7 x8 x (rE a0 st h) = (g_defines_b586 n x3 x7 x8 x st).map (fun q => (q.1, rE a0 q.2 h)) := by
  unfold f_MacroExpandModel_defines_b586 g_defines_b586
  refine pb_some (rr_35 a0 _ h) ?_
  refine pb_some rfl ?_
  refine pb_sameW (ra a0 _ h (by decide) rfl) (fun v => ?_)
  refine pi_iteW (fun _ => ?_) (fun _ => ?_)
  · skip
    rfl
  · skip
    refine pb_some (rr_12 a0 _ h) ?_
    refine pb_some (rr_34 a0 _ h) ?_
    refine pb_some rfl ?_
    refine pb_sameW (ra a0 _ h (by decide) rfl) (fun v => ?_)
    refine pb_some rfl ?_
    refine pb_mapW (rs a0 _ h (by decide) rfl) (fun st => ?_)
    rfl
theorem pl_defines_586 (n : Nat) (a0 : Nat) (h : hH) (x3 : Int32) (x7 : Int32) (x8 : Int32) (k : Nat) (x : Int32) (st : rS) : hloopW (f_MacroExpandModel_defines_b586 n a0 x3 x7 x8) k x (rE a0 st h) = (gloopW (g_defines_b586 n x3 x7 x8) k x st).map (fun q => (q.1, rE a0 q.2 h)) := pl_W (fun x st => p_defines_b586 n a0 h x3 x7 x8 x st) k x st
theorem p_defines_b557 (n : Nat) (a0 : Nat) (h : hH) (x3 : Int32) (x7 : Int32) (x : Int32) (st : rS) : f_MacroExpandModel_defines_b557 n a0 x3 x7 x (rE a0 st h) = (g_defines_b557 n x3 x7 x st).map (fun q => (q.1, rE a0 q.2 h)) := by
  unfold f_MacroExpandModel_defines_b557 g_defines_b557
  refine pi_iteW (fun _ => ?_) (fun _ => ?_)
  · skip
    rfl
  · skip
    refine pb_some (rr_11 a0 _ h) ?_
    refine pb_some (rr_35 a0 _ h) ?_
    refine pb_some rfl ?_
    refine pb_sameW (ra a0 _ h (by decide) rfl) (fun v => ?_)
    refine pb_some rfl ?_
    refine pb_mapW (rs a0 _ h (by decide) rfl) (fun st => ?_)
    refine pw_call (ε := fun s => rE a0 s h) (by apply pl_defines_586) (fun b st => ?_)
    rfl
theorem pl_defines_557 (n : Nat) (a0 : Nat) (h : hH) (x3 : Int32) (x7 : Int32) (k : Nat) (x : Int32) (st : rS) : hloopW (f_MacroExpandModel_defines_b557 n a0 x3 x7) k x (rE a0 st h) = (gloopW (g_defines_b557 n x3 x7) k x st).map (fun q => (q.1, rE a0 q.2 h)) := pl_W (fun x st => p_defines_b557 n a0 h x3 x7 x st) k x st
theorem p_defines_b520 (n : Nat) (a0 : Nat) (h : hH) (x3 : Int32) (x4 : Int32) (x7 : Int32) (x : Int32) (st : rS) : f_MacroExpandModel_defines_b520 n a0 x3 x4 x7 x (rE a0 st h) = (g_defines_b520 n x3 x4 x7 x st).map (fun q => (q.1, rE a0 q.2 h)) := by
  unfold f_MacroExpandModel_defines_b520 g_defines_b520
  refine pi_iteW (fun _ => ?_) (fun _ => ?_)
  · skip
    rfl
  · skip
    refine pb_some (rr_10 a0 _ h) ?_
    refine pb_some (rr_36 a0 _ h) ?_
    refine pb_some rfl ?_
    refine pb_sameW (ra a0 _ h (by decide) rfl) (fun v => ?_)
    refine pb_some rfl ?_
    refine pb_mapW (rs a0 _ h (by decide) rfl) (fun st => ?_)
    rfl
theorem pl_defines_520 (n : Nat) (a0 : Nat) (h : hH) (x3 : Int32) (x4 : Int32) (x7 : Int32) (k : Nat) (x : Int32) (st : rS) : hloopW (f_MacroExpandModel_defines_b520 n a0 x3 x4 x7) k x (rE a0 st h) = (gloopW (g_defines_b520 n x3 x4 x7) k x st).map (fun q => (q.1, rE a0 q.2 h)) := pl_W (fun x st => p_defines_b520 n a0 h x3 x4 x7 x st) k x st
theorem p_defines_j488 (n : Nat) (a0 : Nat) (h : hH) (x2 : Int32) (x3 : Int32) (x4 : Int32) (st : rS) : f_MacroExpandModel_defines_j488 n a0 x2 x3 x4 (rE a0 st h) = (g_defines_j488 n x2 x3 x4 st).map (fun q => (q.1, rE a0 q.2 h)) := by
  unfold f_MacroExpandModel_defines_j488 g_defines_j488
  refine pb_some (rg_21 a0 _ h) ?_
  refine pi_iteW (fun _ => ?_) (fun _ => ?_)
  · skip
    refine pb_some (rg_32 a0 _ h) ?_
    refine pb_some (r_obj a0 _ h) ?_
    refine pw_call (ε := fun s => rE a0 s h) (p_newMacro _ a0 h _ _ _ _) (fun v st => ?_)
    refine pb_some (rr_9 a0 _ h) ?_
    refine pb_some rfl ?_
    refine pb_mapW (rs a0 _ h (by decide) rfl) (fun st => ?_)
    refine pw_call (ε := fun s => rE a0 s h) (by apply pl_defines_520) (fun b st => ?_)
    refine pw_call (ε := fun s => rE a0 s h) (by apply pl_defines_557) (fun b st => ?_)
    refine pb_some (rp_22 a0 _ h _) ?_
    refine pb_some (rp_32 a0 _ h _) ?_
    refine pb_some (rg_33 a0 _ h) ?_
    refine pi_iteW (fun _ => ?_) (fun _ => ?_)
    · skip
      rfl
    · skip
      refine pb_some (rg_3 a0 _ h) ?_
      refine pi_iteW (fun _ => ?_) (fun _ => ?_)
      · skip
        refine pb_some (r_obj a0 _ h) ?_
        refine pw_call (ε := fun s => rE a0 s h) (p_mark a0 h _ _) (fun v st => ?_)
        rfl
      · skip
        refine pb_some (r_obj a0 _ h) ?_
        refine pw_call (ε := fun s => rE a0 s h) (p_spread _ a0 h _ _ _) (fun v st => ?_)
        refine pb_some (rg_33 a0 _ h) ?_
        refine pb_some (r_obj a0 _ h) ?_
        refine pw_call (ε := fun s => rE a0 s h) (p_set a0 h _ _ _) (fun v st => ?_)
        refine pb_some (rp_33 a0 _ h _) ?_
        rfl
  · skip
    rfl
theorem p_defines_j463 (n : Nat) (a0 : Nat) (h : hH) (x1 : Int32) (x2 : Int32) (x3 : Int32) (x4 : Int32) (x6 : Int32) (st : rS) : f_MacroExpandModel_defines_j463 n a0 x1 x2 x3 x4 x6 (rE a0 st h) = (g_defines_j463 n x1 x2 x3 x4 x6 st).map (fun q => (q.1, rE a0 q.2 h)) := by
  unfold f_MacroExpandModel_defines_j463 g_defines_j463
  rfl
theorem p_defines_j450 (n : Nat) (a0 : Nat) (h : hH) (x1 : Int32) (x2 : Int32) (x3 : Int32) (x4 : Int32) (x6 : Int32) (st : rS) : f_MacroExpandModel_defines_j450 n a0 x1 x2 x3 x4 x6 (rE a0 st h) = (g_defines_j450 n x1 x2 x3 x4 x6 st).map (fun q => (q.1, rE a0 q.2 h)) := by
  unfold f_MacroExpandModel_defines_j450 g_defines_j450
  refine pb_some (rg_21 a0 _ h) ?_
  refine pi_iteW (fun _ => ?_) (fun _ => ?_)
  · skip
    refine pb_some (r_obj a0 _ h) ?_
    refine pw_call (ε := fun s => rE a0 s h) (p_take _ a0 h _ _ _) (fun v st => ?_)
    apply p_defines_j463
  · skip
    apply p_defines_j463
theorem p_defines_j433 (n : Nat) (a0 : Nat) (h : hH) (x1 : Int32) (x2 : Int32) (x3 : Int32) (x4 : Int32) (x6 : Int32) (x8 : Int32) (st : rS) : f_MacroExpandModel_defines_j433 n a0 x1 x2 x3 x4 x6 x8 (rE a0 st h) = (g_defines_j433 n x1 x2 x3 x4 x6 x8 st).map (fun q => (q.1, rE a0 q.2 h)) := by
  unfold f_MacroExpandModel_defines_j433 g_defines_j433
  refine pi_iteW (fun _ => ?_) (fun _ => ?_)
  · skip
    apply p_defines_j450
  · skip
    refine pb_some (rr_36 a0 _ h) ?_
    refine pb_some rfl ?_
    refine pb_mapW (rs a0 _ h (by decide) rfl) (fun st => ?_)
    apply p_defines_j450
theorem p_defines_j411 (n : Nat) (a0 : Nat) (h : hH) (x1 : Int32) (x2 : Int32) (x3 : Int32) (x4 : Int32) (x6 : Int32) (x8 : Int32) (st : rS) : f_MacroExpandModel_defines_j411 n a0 x1 x2 x3 x4 x6 x8 (rE a0 st h) = (g_defines_j411 n x1 x2 x3 x4 x6 x8 st).map (fun q => (q.1, rE a0 q.2 h)) := by
  unfold f_MacroExpandModel_defines_j411 g_defines_j411
  refine pi_iteW (fun _ => ?_) (fun _ => ?_)
  · skip
    apply p_defines_j433
  · skip
    refine pi_iteW (fun _ => ?_) (fun _ => ?_)
    · skip
      refine pb_some (r_obj a0 _ h) ?_
      refine pw_call (ε := fun s => rE a0 s h) (p_mark a0 h _ _) (fun v st => ?_)
      apply p_defines_j450
    · skip
      apply p_defines_j433
theorem p_defines_j375 (n : Nat) (a0 : Nat) (h : hH) (x1 : Int32) (x2 : Int32) (x3 : Int32) (x4 : Int32) (x8 : Int32) (y0 : Int32) (y1 : Int32) (st : rS) : f_MacroExpandModel_defines_j375 n a0 x1 x2 x3 x4 x8 y0 y1 (rE a0 st h) = (g_defines_j375 n x1 x2 x3 x4 x8 y0 y1 st).map (fun q => (q.1, rE a0 q.2 h)) := by
  unfold f_MacroExpandModel_defines_j375 g_defines_j375
  refine pb_sameW (p_in a0 h _ _ _ _) (fun v => ?_)
  refine pi_iteW (fun _ => ?_) (fun _ => ?_)
  · skip
    apply p_defines_j411
  · skip
    refine pi_iteW (fun _ => ?_) (fun _ => ?_)
    · skip
      apply p_defines_j411
    · skip
      refine pb_some (r_obj a0 _ h) ?_
      refine pw_call (ε := fun s => rE a0 s h) (p_mark a0 h _ _) (fun v st => ?_)
      apply p_defines_j450
theorem p_defines_j341 (n : Nat) (a0 : Nat) (h : hH) (x1 : Int32) (x2 : Int32) (x3 : Int32) (x4 : Int32) (x6 : Int32) (st : rS) : f_MacroExpandModel_defines_j341 n a0 x1 x2 x3 x4 x6 (rE a0 st h) = (g_defines_j341 n x1 x2 x3 x4 x6 st).map (fun q => (q.1, rE a0 q.2 h)) := by
  unfold f_MacroExpandModel_defines_j341 g_defines_j341
  refine pb_some (r_obj a0 _ h) ?_
  refine pb_sameW (p_get a0 h _ _) (fun v => ?_)
  refine pi_iteW (fun _ => ?_) (fun _ => ?_)
  · skip
    apply p_defines_j375
  · skip
    refine pi_iteW (fun _ => ?_) (fun _ => ?_)
    · skip
      apply p_defines_j375
    · skip
      apply p_defines_j375
theorem p_defines_b278 (n : Nat) (a0 : Nat) (h : hH) (x1 : Int32) (x2 : Int32) (x3 : Int32) (x : Int32 × Int32) (st : rS) : f_MacroExpandModel_defines_b278 n a0 x1 x2 x3 x (rE a0 st h) = (g_defines_b278 n x1 x2 x3 x st).map (fun q => (q.1, rE a0 q.2 h)) := by
  unfold f_MacroExpandModel_defines_b278 g_defines_b278
  refine pi_iteW (fun _ => ?_) (fun _ => ?_)
  · skip
    rfl
  · skip
    refine pb_some (rg_21 a0 _ h) ?_
    refine pi_iteW (fun _ => ?_) (fun _ => ?_)
    · skip
      refine pb_some (rg_24 a0 _ h) ?_
      refine pb_mapW (rz_24 a0 _ h _) (fun st => ?_)
      refine pb_some (rg_3 a0 _ h) ?_
      refine pi_iteW (fun _ => ?_) (fun _ => ?_)
      · skip
        refine pb_some (r_obj a0 _ h) ?_
        refine pw_call (ε := fun s => rE a0 s h) (p_mark a0 h _ _) (fun v st => ?_)
        apply p_defines_j463
      · skip
        refine pi_iteW (fun _ => ?_) (fun _ => ?_)
        · skip
          apply p_defines_j341
        · skip
          refine pi_iteW (fun _ => ?_) (fun _ => ?_)
          · skip
            refine pb_some (r_obj a0 _ h) ?_
            refine pb_sameW (p_canBeExpanded a0 h _ _) (fun v => ?_)
            refine pi_iteW (fun _ => ?_) (fun _ => ?_)
            · skip
              apply p_defines_j341
            · skip
              refine pb_some (r_obj a0 _ h) ?_
              refine pw_call (ε := fun s => rE a0 s h) (p_expandAt _ a0 h _ _) (fun v st => ?_)
              apply p_defines_j463
          · skip
            apply p_defines_j341
    · skip
      rfl
theorem pl_defines_278 (n : Nat) (a0 : Nat) (h : hH) (x1 : Int32) (x2 : Int32) (x3 : Int32) (k : Nat) (x : Int32 × Int32) (st : rS) : hloopW (f_MacroExpandModel_defines_b278 n a0 x1 x2 x3) k x (rE a0 st h) = (gloopW (g_defines_b278 n x1 x2 x3) k x st).map (fun q => (q.1, rE a0 q.2 h)) := pl_W (fun x st => p_defines_b278 n a0 h x1 x2 x3 x st) k x st
theorem p_defines_j267 (n : Nat) (a0 : Nat) (h : hH) (x1 : Int32) (x2 : Int32) (x3 : Int32) (x4 : Int32) (x5 : Int32) (st : rS) : f_MacroExpandModel_defines_j267 n a0 x1 x2 x3 x4 x5 (rE a0 st h) = (g_defines_j267 n x1 x2 x3 x4 x5 st).map (fun q => (q.1, rE a0 q.2 h)) := by
  unfold f_MacroExpandModel_defines_j267 g_defines_j267
  rfl
theorem p_defines_j254 (n : Nat) (a0 : Nat) (h : hH) (x1 : Int32) (x2 : Int32) (x3 : Int32) (x4 : Int32) (x5 : Int32) (st : rS) : f_MacroExpandModel_defines_j254 n a0 x1 x2 x3 x4 x5 (rE a0 st h) = (g_defines_j254 n x1 x2 x3 x4 x5 st).map (fun q => (q.1, rE a0 q.2 h)) := by
  unfold f_MacroExpandModel_defines_j254 g_defines_j254
  refine pb_some (rg_21 a0 _ h) ?_
  refine pi_iteW (fun _ => ?_) (fun _ => ?_)
  · skip
    refine pb_some (r_obj a0 _ h) ?_
    refine pw_call (ε := fun s => rE a0 s h) (p_take _ a0 h _ _ _) (fun v st => ?_)
    apply p_defines_j267
  · skip
    apply p_defines_j267
theorem p_defines_j176 (n : Nat) (a0 : Nat) (h : hH) (x1 : Int32) (x2 : Int32) (x3 : Int32) (x4 : Int32) (x5 : Int32) (x6 : Int32) (st : rS) : f_MacroExpandModel_defines_j176 n a0 x1 x2 x3 x4 x5 x6 (rE a0 st h) = (g_defines_j176 n x1 x2 x3 x4 x5 x6 st).map (fun q => (q.1, rE a0 q.2 h)) := by
  unfold f_MacroExpandModel_defines_j176 g_defines_j176
  refine pi_iteW (fun _ => ?_) (fun _ => ?_)
  · skip
    apply p_defines_j254
  · skip
    refine pb_sameW (p_isParameter a0 h _ _) (fun v => ?_)
    refine pi_iteW (fun _ => ?_) (fun _ => ?_)
    · skip
      refine pb_some (rr_35 a0 _ h) ?_
      refine pb_some rfl ?_
      refine pb_sameW (ra a0 _ h (by decide) rfl) (fun v => ?_)
      refine pi_iteW (fun _ => ?_) (fun _ => ?_)
      · skip
        refine pb_some (r_obj a0 _ h) ?_
        refine pw_call (ε := fun s => rE a0 s h) (p_mark a0 h _ _) (fun v st => ?_)
        apply p_defines_j254
      · skip
        refine pb_some (rr_34 a0 _ h) ?_
        refine pb_some (rr_35 a0 _ h) ?_
        refine pb_some rfl ?_
        refine pb_sameW (ra a0 _ h (by decide) rfl) (fun v => ?_)
        refine pb_some rfl ?_
        refine pb_mapW (rs a0 _ h (by decide) rfl) (fun st => ?_)
        refine pb_some (rr_35 a0 _ h) ?_
        refine pb_some rfl ?_
        refine pb_sameW (ra a0 _ h (by decide) rfl) (fun v => ?_)
        refine pb_mapW (rs a0 _ h (by decide) rfl) (fun st => ?_)
        apply p_defines_j254
    · skip
      apply p_defines_j254
theorem p_defines_j167 (n : Nat) (a0 : Nat) (h : hH) (x1 : Int32) (x2 : Int32) (x3 : Int32) (x4 : Int32) (x5 : Int32) (st : rS) : f_MacroExpandModel_defines_j167 n a0 x1 x2 x3 x4 x5 (rE a0 st h) = (g_defines_j167 n x1 x2 x3 x4 x5 st).map (fun q => (q.1, rE a0 q.2 h)) := by
  unfold f_MacroExpandModel_defines_j167 g_defines_j167
  refine pb_some (r_obj a0 _ h) ?_
  refine pw_call (ε := fun s => rE a0 s h) (p_mark a0 h _ _) (fun v st => ?_)
  apply p_defines_j254
theorem p_defines_j118 (n : Nat) (a0 : Nat) (h : hH) (x1 : Int32) (x2 : Int32) (x3 : Int32) (x4 : Int32) (x5 : Int32) (y0 : Int32) (st : rS) : f_MacroExpandModel_defines_j118 n a0 x1 x2 x3 x4 x5 y0 (rE a0 st h) = (g_defines_j118 n x1 x2 x3 x4 x5 y0 st).map (fun q => (q.1, rE a0 q.2 h)) := by
  unfold f_MacroExpandModel_defines_j118 g_defines_j118
  refine pb_some (rg_3 a0 _ h) ?_
  refine pi_iteW (fun _ => ?_) (fun _ => ?_)
  · skip
    refine pb_some (r_obj a0 _ h) ?_
    refine pw_call (ε := fun s => rE a0 s h) (p_mark a0 h _ _) (fun v st => ?_)
    apply p_defines_j254
  · skip
    refine pi_iteW (fun _ => ?_) (fun _ => ?_)
    · skip
      apply p_defines_j167
    · skip
      refine pb_sameW (p_isParameter a0 h _ _) (fun v => ?_)
      refine pi_iteW (fun _ => ?_) (fun _ => ?_)
      · skip
        apply p_defines_j176
      · skip
        refine pi_iteW (fun _ => ?_) (fun _ => ?_)
        · skip
          refine pi_iteW (fun _ => ?_) (fun _ => ?_)
          · skip
            apply p_defines_j167
          · skip
            apply p_defines_j176
        · skip
          apply p_defines_j167
theorem p_defines_b90 (n : Nat) (a0 : Nat) (h : hH) (x1 : Int32) (x2 : Int32) (x4 : Int32) (x : Int32 × Int32) (st : rS) : f_MacroExpandModel_defines_b90 n a0 x1 x2 x4 x (rE a0 st h) = (g_defines_b90 n x1 x2 x4 x st).map (fun q => (q.1, rE a0 q.2 h)) := by
  unfold f_MacroExpandModel_defines_b90 g_defines_b90
  refine pi_iteW (fun _ => ?_) (fun _ => ?_)
  · skip
    rfl
  · skip
    refine pb_some (rg_21 a0 _ h) ?_
    refine pi_iteW (fun _ => ?_) (fun _ => ?_)
    · skip
      refine pb_some (rg_3 a0 _ h) ?_
      refine pi_iteW (fun _ => ?_) (fun _ => ?_)
      · skip
        apply p_defines_j118
      · skip
        refine pb_some (r_obj a0 _ h) ?_
        refine pb_sameW (p_get a0 h _ _) (fun v => ?_)
        apply p_defines_j118
    · skip
      rfl
theorem pl_defines_90 (n : Nat) (a0 : Nat) (h : hH) (x1 : Int32) (x2 : Int32) (x4 : Int32) (k : Nat) (x : Int32 × Int32) (st : rS) : hloopW (f_MacroExpandModel_defines_b90 n a0 x1 x2 x4) k x (rE a0 st h) = (gloopW (g_defines_b90 n x1 x2 x4) k x st).map (fun q => (q.1, rE a0 q.2 h)) := pl_W (fun x st => p_defines_b90 n a0 h x1 x2 x4 x st) k x st
theorem p_defines_b63 (n : Nat) (a0 : Nat) (h : hH) (x1 : Int32) (x2 : Int32) (x : Int32) (st : rS) : f_MacroExpandModel_defines_b63 n a0 x1 x2 x (rE a0 st h) = (g_defines_b63 n x1 x2 x st).map (fun q => (q.1, rE a0 q.2 h)) := by
  unfold f_MacroExpandModel_defines_b63 g_defines_b63
  refine pi_iteW (fun _ => ?_) (fun _ => ?_)
  · skip
    rfl
  · skip
    refine pb_some (rr_35 a0 _ h) ?_
    refine pb_some rfl ?_
    refine pb_mapW (rs a0 _ h (by decide) rfl) (fun st => ?_)
    rfl
theorem pl_defines_63 (n : Nat) (a0 : Nat) (h : hH) (x1 : Int32) (x2 : Int32) (k : Nat) (x : Int32) (st : rS) : hloopW (f_MacroExpandModel_defines_b63 n a0 x1 x2) k x (rE a0 st h) = (gloopW (g_defines_b63 n x1 x2) k x st).map (fun q => (q.1, rE a0 q.2 h)) := pl_W (fun x st => p_defines_b63 n a0 h x1 x2 x st) k x st
theorem p_defines (n : Nat) (a0 : Nat) (h : hH) (i1 : Int32) (st : rS) : f_MacroExpandModel_defines n a0 i1 (rE a0 st h) = (g_defines n i1 st).map (fun q => (q.1, rE a0 q.2 h)) := by
  unfold f_MacroExpandModel_defines g_defines
  refine pb_some (r_obj a0 _ h) ?_
  refine pw_call (ε := fun s => rE a0 s h) (p_take _ a0 h _ _ _) (fun v st => ?_)
  refine pb_some (rg_3 a0 _ h) ?_
  refine pi_iteW (fun _ => ?_) (fun _ => ?_)
  · skip
    refine pb_some (r_obj a0 _ h) ?_
    refine pw_call (ε := fun s => rE a0 s h) (p_mark a0 h _ _) (fun v st => ?_)
    rfl
  · skip
    refine pb_some (r_obj a0 _ h) ?_
    refine pb_sameW (p_get a0 h _ _) (fun v => ?_)
    refine pb_sameW (p_isName a0 h _ _) (fun v => ?_)
    refine pi_iteW (fun _ => ?_) (fun _ => ?_)
    · skip
      refine pb_some (r_obj a0 _ h) ?_
      refine pw_call (ε := fun s => rE a0 s h) (p_mark a0 h _ _) (fun v st => ?_)
      rfl
    · skip
      refine pb_some (r_obj a0 _ h) ?_
      refine pb_sameW (p_get a0 h _ _) (fun v => ?_)
      refine pb_some (rp_22 a0 _ h _) ?_
      refine pb_some (rg_22 a0 _ h) ?_
      refine pb_some (r_obj a0 _ h) ?_
      refine pw_call (ε := fun s => rE a0 s h) (p_take _ a0 h _ _ _) (fun v st => ?_)
      refine pw_call (ε := fun s => rE a0 s h) (by apply pl_defines_63) (fun b st => ?_)
      refine pw_call (ε := fun s => rE a0 s h) (by apply pl_defines_90) (fun b st => ?_)
      refine pb_mapW (rz_24 a0 _ h _) (fun st => ?_)
      refine pw_call (ε := fun s => rE a0 s h) (by apply pl_defines_278) (fun b st => ?_)
      refine pb_some (rg_21 a0 _ h) ?_
      refine pi_iteW (fun _ => ?_) (fun _ => ?_)
      · skip
        refine pb_some (rg_6 a0 _ h) ?_
        refine pi_iteW (fun _ => ?_) (fun _ => ?_)
        · skip
          refine pb_some (r_obj a0 _ h) ?_
          refine pw_call (ε := fun s => rE a0 s h) (p_mark a0 h _ _) (fun v st => ?_)
          apply p_defines_j488
        · skip
          apply p_defines_j488
      · skip
        apply p_defines_j488
