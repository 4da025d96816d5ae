def f_MacroExpandModel_carryOut_j71 (n : Nat) (y0 : Option Nat) (y1 : Int32) (h : hH) : Option ((Unit) × hH) :=
  (y0).bind fun p71 =>
  (hObj h p71 1).bind fun c71 =>
  hbW (f_MacroExpandModel_defines n p71 y1 h) fun _ h71 =>
  some ((), h71)
def f_MacroExpandModel_carryOut_j58 (n : Nat) (a0 : Nat) (x1 : Int32) (h : hH) : Option ((Unit) × hH) :=
  if x1 = (265 : Int32) then
    f_MacroExpandModel_carryOut_j71 n (some a0) (1 : Int32) h
  else
    f_MacroExpandModel_carryOut_j71 n (some a0) (0 : Int32) h
def f_MacroExpandModel_carryOut (n : Nat) (a0 : Nat) (h : hH) : Option ((Unit) × hH) :=
  (hObj h a0 1).bind fun c2 =>
  (f_MacroExpandModel_get a0 (0 : Int32) h).bind fun v2 =>
  (f_MacroExpandModel_in v2 (266 : Int32) (268 : Int32) h).bind fun v13 =>
  if v13 = 0 then
    if v2 = (264 : Int32) then
      f_MacroExpandModel_carryOut_j58 n a0 v2 h
    else
      if v2 = (265 : Int32) then
        f_MacroExpandModel_carryOut_j58 n a0 v2 h
      else
        (hgI h a0 1 32).bind fun v78 =>
        if v78 = 0 then
          if v2 = (269 : Int32) then
            (hgI h a0 1 3).bind fun v101 =>
            if (2 : Int32) ≤ v101 then
              (hObj h a0 1).bind fun c117 =>
              (f_MacroExpandModel_get a0 (1 : Int32) h).bind fun v117 =>
              (hpV h a0 1 33 (.int v117)).bind fun h120 =>
              (hObj h120 a0 1).bind fun c126 =>
              hbW (f_MacroExpandModel_take n a0 (0 : Int32) (2 : Int32) h120) fun _ h126 =>
              some ((), h126)
            else
              (hObj h a0 1).bind fun c110 =>
              hbW (f_MacroExpandModel_mark a0 (1 : Int32) h) fun _ h110 =>
              some ((), h110)
          else
            (hgI h a0 1 4).bind fun v133 =>
            if v133 = (3000 : Int32) then
              (hObj h a0 1).bind fun c145 =>
              hbW (f_MacroExpandModel_mark a0 (8 : Int32) h) fun _ h145 =>
              some ((), h145)
            else
              (hgR h a0 1 5).bind fun v152 =>
              (hgI h a0 1 4).bind fun v156 =>
              (v152).bind fun p160 =>
              (hsI h p160 0 v156 v2).bind fun h160 =>
              (hgI h160 a0 1 4).bind fun v163 =>
              (hpV h160 a0 1 4 (.int (v163 + (1 : Int32)))).bind fun h168 =>
              (hObj h168 a0 1).bind fun c174 =>
              hbW (f_MacroExpandModel_take n a0 (0 : Int32) (1 : Int32) h168) fun _ h174 =>
              some ((), h174)
        else
          (hObj h a0 1).bind fun c87 =>
          hbW (f_MacroExpandModel_mark a0 (6 : Int32) h) fun _ h87 =>
          some ((), h87)
  else
    (hgI h a0 1 32).bind fun v21 =>
    (hpV h a0 1 32 (.int (v21 ||| ((1 : Int32) <<< ((v2 - (266 : Int32)) &&& 31))))).bind fun h32 =>
    (hObj h32 a0 1).bind fun c38 =>
    hbW (f_MacroExpandModel_take n a0 (0 : Int32) (1 : Int32) h32) fun _ h38 =>
    some ((), h38)
def f_MacroExpandModel_ended (a0 : Nat) (i1 : Int32) (h : hH) : Option ((Int32) × hH) :=
  (hgI h a0 1 21).bind fun v1 =>
  if v1 = 0 then
    some (i1, h)
  else
    (hpV h a0 1 3 (.int (0 : Int32))).bind fun h11 =>
    (hgI h11 a0 1 21).bind fun v15 =>
    some ((-v15), h11)
def f_MacroExpandModel_expand_j112 (n : Nat) (a0 : Nat) (h : hH) : Option ((Int32) × hH) :=
  (hgI h a0 1 4).bind fun v114 =>
  (hObj h a0 1).bind fun c117 =>
  hbW (f_MacroExpandModel_ended a0 v114 h) fun v117 h117 =>
  some (v117, h117)
def f_MacroExpandModel_expand_j90 (n : Nat) (a0 : Nat) (h : hH) : Option (((Unit) ⊕ ((Unit))) × hH) :=
  some (.inl (), h)
def f_MacroExpandModel_expand_j86 (n : Nat) (a0 : Nat) (h : hH) : Option (((Unit) ⊕ ((Unit))) × hH) :=
  (hObj h a0 1).bind fun c87 =>
  hbW (f_MacroExpandModel_carryOut n a0 h) fun _ h87 =>
  f_MacroExpandModel_expand_j90 n a0 h87
def f_MacroExpandModel_expand_b42 (n : Nat) (a0 : Nat) : (Unit) → hH → Option (((Unit) ⊕ ((Unit))) × hH) := fun x h =>
  (hgI h a0 1 3).bind fun v43 =>
  if v43 ≤ 0 then
    some (.inr (), h)
  else
    (hgI h a0 1 21).bind fun v50 =>
    if v50 = 0 then
      (hgI h a0 1 24).bind fun v57 =>
      (hpZ h a0 1 24 (0 : Int32)).bind fun h63 =>
      if v57 = 0 then
        (hObj h63 a0 1).bind fun c72 =>
        (f_MacroExpandModel_canBeExpanded a0 (0 : Int32) h63).bind fun v72 =>
        if v72 = 0 then
          f_MacroExpandModel_expand_j86 n a0 h63
        else
          (hObj h63 a0 1).bind fun c80 =>
          hbW (f_MacroExpandModel_expandAt n a0 (0 : Int32) h63) fun _ h80 =>
          f_MacroExpandModel_expand_j90 n a0 h80
      else
        f_MacroExpandModel_expand_j86 n a0 h63
    else
      some (.inr (), h)
def f_MacroExpandModel_expand_j28 (n : Nat) (a0 : Nat) (h : hH) : Option ((Int32) × hH) :=
  (hgI h a0 1 3).bind fun v30 =>
  (hObj h a0 1).bind fun c33 =>
  hbW (f_MacroExpandModel_ended a0 v30 h) fun v33 h33 =>
  some (v33, h33)
def f_MacroExpandModel_expand (n : Nat) (a0 : Nat) (i1 : Int32) (h : hH) : Option ((Int32) × hH) :=
  (hObj h a0 1).bind fun c1 =>
  hbW (f_MacroExpandModel_begin a0 h) fun _ h1 =>
  if i1 = 0 then
    (hgI h1 a0 1 3).bind fun v9 =>
    if v9 ≤ 0 then
      f_MacroExpandModel_expand_j28 n a0 h1
    else
      (hObj h1 a0 1).bind fun c17 =>
      (f_MacroExpandModel_canBeExpanded a0 (0 : Int32) h1).bind fun v17 =>
      if v17 = 0 then
        f_MacroExpandModel_expand_j28 n a0 h1
      else
        (hObj h1 a0 1).bind fun c25 =>
        hbW (f_MacroExpandModel_expandAt n a0 (0 : Int32) h1) fun _ h25 =>
        f_MacroExpandModel_expand_j28 n a0 h25
  else
    (hpV h1 a0 1 4 (.int (0 : Int32))).bind fun h39 =>
    hbW (hloopW (f_MacroExpandModel_expand_b42 n a0) n () h39) fun b42 h42l =>
    (hgI h42l a0 1 21).bind fun v94 =>
    if v94 = 0 then
      (hgI h42l a0 1 32).bind fun v101 =>
      if v101 = 0 then
        f_MacroExpandModel_expand_j112 n a0 h42l
      else
        (hObj h42l a0 1).bind fun c109 =>
        hbW (f_MacroExpandModel_mark a0 (1 : Int32) h42l) fun _ h109 =>
        f_MacroExpandModel_expand_j112 n a0 h109
    else
      f_MacroExpandModel_expand_j112 n a0 h42l
def f_MacroExpandModel_at (a0 : Nat) (i1 : Int32) (h : hH) : Option (Int32) :=
  (hgI h a0 1 4).bind fun v3 =>
  (f_MacroExpandModel_in i1 (0 : Int32) (v3 - (1 : Int32)) h).bind fun v8 =>
  if v8 = 0 then
    some (-1 : Int32)
  else
    (hgR h a0 1 5).bind fun v15 =>
    (v15).bind fun p19 =>
    (haI h p19 0 i1).bind fun v19 =>
    some v19
def f_MacroExpandModel_fault (a0 : Nat) (i1 : Int32) (h : hH) : Option (Int32) :=
  if i1 = 0 then
    (hgI h a0 1 21).bind fun v5 =>
    some v5
  else
    if i1 = (1 : Int32) then
      (hgI h a0 1 21).bind fun v17 =>
      if v17 = 0 then
        some (0 : Int32)
      else
        (hgI h a0 1 22).bind fun v28 =>
        some v28
    else
      if i1 = (2 : Int32) then
        (hgI h a0 1 23).bind fun v40 =>
        some v40
      else
        some (-2 : Int32)
def f_MacroExpandModel_named (a0 : Nat) (i1 : Int32) (h : hH) : Option (Int32) :=
  if i1 = (-1 : Int32) then
    (hgI h a0 1 16).bind fun v6 =>
    some v6
  else
    (hgI h a0 1 16).bind fun v15 =>
    (f_MacroExpandModel_in i1 (0 : Int32) (v15 - (1 : Int32)) h).bind fun v20 =>
    if v20 = 0 then
      some (-1 : Int32)
    else
      (hgR h a0 1 17).bind fun v27 =>
      (v27).bind fun p31 =>
      (haI h p31 0 i1).bind fun v31 =>
      some v31
def f_MacroExpandModel_traced (a0 : Nat) (i1 : Int32) (i2 : Int32) (h : hH) : Option (Int32) :=
  (hgI h a0 1 25).bind fun v3 =>
  (f_MacroExpandModel_in i1 (0 : Int32) (v3 - (1 : Int32)) h).bind fun v8 =>
  if v8 = 0 then
    some (-1 : Int32)
  else
    (f_MacroExpandModel_in i2 (0 : Int32) (2 : Int32) h).bind fun v17 =>
    if v17 = 0 then
      some (-1 : Int32)
    else
      (hgR h a0 1 26).bind fun v24 =>
      (v24).bind fun p32 =>
      (haI h p32 0 (((3 : Int32) * i1) + i2)).bind fun v32 =>
      some v32
def f_MacroExpandModel_input (a0 : Nat) (i1 : Int32) (h : hH) : Option (Int32) :=
  (hgI h a0 1 3).bind fun v3 =>
  (f_MacroExpandModel_in i1 (0 : Int32) (v3 - (1 : Int32)) h).bind fun v8 =>
  if v8 = 0 then
    some (-1 : Int32)
  else
    (hObj h a0 1).bind fun c16 =>
    (f_MacroExpandModel_get a0 i1 h).bind fun v16 =>
    some v16
def f_MacroExpandModel_macro (a0 : Nat) (i1 : Int32) (h : hH) : Option (Int32) :=
  (f_MacroExpandModel_in i1 (0 : Int32) (199 : Int32) h).bind fun v5 =>
  if v5 = 0 then
    some (-1 : Int32)
  else
    (hgR h a0 1 13).bind fun v12 =>
    (v12).bind fun p16 =>
    (haI h p16 0 i1).bind fun v16 =>
    some v16
def f_Arrays_fill_b5 (n : Nat) (a0 : Nat) (x1 : Int32) (x3 : Int32) : (Int32) → hH → Option (((Int32) ⊕ ((Unit))) × hH) := fun x h =>
  let x2 := x
  if x3 ≤ x2 then
    some (.inr (), h)
  else
    (hsI h a0 0 x2 x1).bind fun h13 =>
    some (.inl (x2 + (1 : Int32)), h13)
def f_Arrays_fill (n : Nat) (a0 : Nat) (i1 : Int32) (h : hH) : Option ((Unit) × hH) :=
  (haL h a0 0).bind fun v3 =>
  hbW (hloopW (f_Arrays_fill_b5 n a0 i1 v3) n (0 : Int32) h) fun b5 h5l =>
  some ((), h5l)
def f_Arrays_copyOf (a0 : Nat) (i1 : Int32) (nx : Nat) (h : hH) : hR (Option Nat) :=
  (haL h a0 0).bind fun v2 =>
  if i1 = v2 then
    (hAI h a0 0).bind fun c7 =>
    hbind (hnew (.inl (0, c7.1, .inl c7.2)) c7.1 nx h) nx fun _ nx7 h7 =>
    (haL h7 nx 0).bind fun _ =>
    some (some nx, 0, 0, h7)
  else
    if i1 < 0 ∨ 134217728 < i1.toNatClampNeg then none else
    hbind (hnew (.inl (0, i1.toNatClampNeg, .inl (fun _ => 0))) (i1.toNatClampNeg) nx h) nx fun _ nx15 h15 =>
    (haL h15 a0 0).bind fun v23 =>
    (hcpI h15 a0 (0 : Int32) nx (0 : Int32) (if i1 < v23 then i1 else v23) 0).bind fun h28 =>
    some (some nx, 0, 0, h28)
def f_Book_init (n : Nat) (a0 : Nat) (nx : Nat) (h : hH) : hR (Unit) :=
  hbind (hnew (.inl (1, 100, .inr (.inr (.inr (.inr (fun _ => none)))))) (100) nx h) nx fun _ nx7 h7 =>
  (hpV h7 a0 3 0 (.ref nx)).bind fun h10 =>
  hbind (hnew (.inl (0, 200, .inl (fun _ => 0))) (200) nx7 h10) nx7 fun _ nx17 h17 =>
  (hpV h17 a0 3 1 (.ref nx7)).bind fun h19 =>
  (hgR h19 a0 3 1).bind fun v23 =>
  (v23).bind fun p27_0 =>
  hbW (f_Arrays_fill n p27_0 (-1 : Int32) h19) fun _ h27 =>
  hbind (hmul 2 0 20 200 nx17 h27) nx17 fun _ nx36 h36 =>
  (hpV h36 a0 3 2 (.ref nx17)).bind fun h40 =>
  (hpV h40 a0 3 3 (.int (0 : Int32))).bind fun h45 =>
  (hpV h45 a0 3 4 (.int (0 : Int32))).bind fun h50 =>
  some ((), 0, 0, h50)
def f_Spelling_init (a0 : Nat) (nx : Nat) (h : hH) : hR (Unit) :=
  hbind (hnew (.inl (0, 800, .inl (fun _ => 0))) (800) nx h) nx fun _ nx8 h8 =>
  (hpV h8 a0 9 0 (.ref nx)).bind fun h10 =>
  hbind (hnew (.inl (0, 100, .inl (fun _ => 0))) (100) nx8 h10) nx8 fun _ nx16 h16 =>
  (hpV h16 a0 9 1 (.ref nx8)).bind fun h18 =>
  (hpV h18 a0 9 2 (.int (0 : Int32))).bind fun h23 =>
  some ((), 0, 0, h23)
def f_Input_init (a0 : Nat) (nx : Nat) (h : hH) : hR (Unit) :=
  hbind (hnew (.inl (0, 3000, .inl (fun _ => 0))) (3000) nx h) nx fun _ nx8 h8 =>
  (hpV h8 a0 6 0 (.ref nx)).bind fun h10 =>
  (hpV h10 a0 6 1 (.int (0 : Int32))).bind fun h15 =>
  some ((), 0, 0, h15)
def f_Trace_init (a0 : Nat) (nx : Nat) (h : hH) : hR (Unit) :=
  hbind (hnew (.inl (0, 100, .inl (fun _ => 0))) (100) nx h) nx fun _ nx7 h7 =>
  (hpV h7 a0 10 0 (.ref nx)).bind fun h9 =>
  hbind (hnew (.inl (0, 100, .inl (fun _ => 0))) (100) nx7 h9) nx7 fun _ nx15 h15 =>
  (hpV h15 a0 10 1 (.ref nx7)).bind fun h17 =>
  hbind (hnew (.inl (0, 100, .inl (fun _ => 0))) (100) nx15 h17) nx15 fun _ nx23 h23 =>
  (hpV h23 a0 10 2 (.ref nx15)).bind fun h25 =>
  (hpV h25 a0 10 3 (.int (0 : Int32))).bind fun h30 =>
  some ((), 0, 0, h30)
def f_Row_init (a0 : Nat) (i1 : Int32) (nx : Nat) (h : hH) : hR (Unit) :=
  (hpV h a0 8 0 (.int i1)).bind fun h6 =>
  hbind (hnew (.inl (0, 0, .inl (fun _ => 0))) (0) nx h6) nx fun _ nx11 h11 =>
  (hpV h11 a0 8 1 (.ref nx)).bind fun h13 =>
  (hpV h13 a0 8 2 (.int (0 : Int32))).bind fun h18 =>
  some ((), 0, 0, h18)
def f_Arguments_init_b25 (n : Nat) (a0 : Nat) : (Int32) → Nat → hH → hR ((Int32) ⊕ ((Unit))) := fun x nx h =>
  let x3 := x
  (hgR h a0 2 2).bind fun v27 =>
  (v27).bind fun p30 =>
  (haL h p30 3).bind fun v30 =>
  if v30 ≤ x3 then
    some (.inr (), 0, 0, h)
  else
    (hgR h a0 2 2).bind fun v35 =>
    hbind (hnew (.inr (8, [.int 0, .null, .int 0])) (3) nx h) nx fun _ nx39 h39 =>
    hbind (f_Row_init nx (400 : Int32) nx39 h39) nx39 fun _ nx46 h46 =>
    (v35).bind fun p49 =>
    (hObj h46 nx 8).bind fun c49 =>
    (hsR h46 p49 3 x3 (some nx)).bind fun h49 =>
    some (.inl (x3 + (1 : Int32)), 0, 0, h49)
def f_Arguments_init (n : Nat) (a0 : Nat) (a1 : Nat) (a2 : Nat) (nx : Nat) (h : hH) : hR (Unit) :=
  (hpV h a0 2 0 (.ref a1)).bind fun h6 =>
  (hpV h6 a0 2 1 (.ref a2)).bind fun h11 =>
  hbind (hnew (.inl (3, 9, .inr (.inr (.inr (.inr (fun _ => none)))))) (9) nx h11) nx fun _ nx17 h17 =>
  (hpV h17 a0 2 2 (.ref nx)).bind fun h20 =>
  hbind (hloopA (f_Arguments_init_b25 n a0) n (0 : Int32) nx17 h20) nx17 fun b25 nx25l h25l =>
  some ((), 0, 0, h25l)
def f_Expander_init (n : Nat) (a0 : Nat) (i1 : Int32) (a2 : Nat) (a3 : Nat) (a4 : Nat) (nx : Nat) (h : hH) : hR (Unit) :=
  (hpV h a0 5 0 (.int i1)).bind fun h6 =>
  (hpV h6 a0 5 1 (.ref a2)).bind fun h11 =>
  (hpV h11 a0 5 2 (.ref a3)).bind fun h16 =>
  (hpV h16 a0 5 3 (.ref a4)).bind fun h22 =>
  hbind (hnew (.inr (10, [.null, .null, .null, .int 0])) (4) nx h22) nx fun _ nx26 h26 =>
  hbind (f_Trace_init nx nx26 h26) nx26 fun _ nx30 h30 =>
  (hpV h30 a0 5 4 (.ref nx)).bind fun h33 =>
  hbind (hnew (.inr (2, [.null, .null, .null])) (3) nx30 h33) nx30 fun _ nx37 h37 =>
  hbind (f_Arguments_init n nx30 a2 a3 nx37 h37) nx37 fun _ nx43 h43 =>
  (hpV h43 a0 5 5 (.ref nx30)).bind fun h46 =>
  hbind (hnew (.inl (0, 50, .inl (fun _ => 0))) (50) nx43 h46) nx43 fun _ nx52 h52 =>
  (hpV h52 a0 5 6 (.ref nx43)).bind fun h54 =>
  hbind (hnew (.inl (0, 400, .inl (fun _ => 0))) (400) nx52 h54) nx52 fun _ nx61 h61 =>
  (hpV h61 a0 5 7 (.ref nx52)).bind fun h63 =>
  hbind (hnew (.inl (0, 50, .inl (fun _ => 0))) (50) nx61 h63) nx61 fun _ nx69 h69 =>
  (hpV h69 a0 5 8 (.ref nx61)).bind fun h71 =>
  some ((), 0, 0, h71)
def f_Definition_init_b15 (n : Nat) (a0 : Nat) : (Int32) → Nat → hH → hR ((Int32) ⊕ ((Unit))) := fun x nx h =>
  let x1 := x
  (hgR h a0 4 0).bind fun v17 =>
  (v17).bind fun p20 =>
  (haL h p20 3).bind fun v20 =>
  if v20 ≤ x1 then
    some (.inr (), 0, 0, h)
  else
    (hgR h a0 4 0).bind fun v25 =>
    hbind (hnew (.inr (8, [.int 0, .null, .int 0])) (3) nx h) nx fun _ nx29 h29 =>
    hbind (f_Row_init nx (200 : Int32) nx29 h29) nx29 fun _ nx36 h36 =>
    (v25).bind fun p39 =>
    (hObj h36 nx 8).bind fun c39 =>
    (hsR h36 p39 3 x1 (some nx)).bind fun h39 =>
    some (.inl (x1 + (1 : Int32)), 0, 0, h39)
def f_Definition_init (n : Nat) (a0 : Nat) (nx : Nat) (h : hH) : hR (Unit) :=
  hbind (hnew (.inl (3, 10, .inr (.inr (.inr (.inr (fun _ => none)))))) (10) nx h) nx fun _ nx7 h7 =>
  (hpV h7 a0 4 0 (.ref nx)).bind fun h10 =>
  hbind (hloopA (f_Definition_init_b15 n a0) n (0 : Int32) nx7 h10) nx7 fun b15 nx15l h15l =>
  hbind (hnew (.inr (8, [.int 0, .null, .int 0])) (3) nx15l h15l) nx15l fun _ nx47 h47 =>
  hbind (f_Row_init nx15l (200 : Int32) nx47 h47) nx47 fun _ nx54 h54 =>
  (hpV h54 a0 4 1 (.ref nx15l)).bind fun h57 =>
  (hpV h57 a0 4 2 (.int (0 : Int32))).bind fun h62 =>
  some ((), 0, 0, h62)
def f_Whole_init (n : Nat) (a0 : Nat) (a1 : Nat) (a2 : Nat) (a3 : Nat) (nx : Nat) (h : hH) : hR (Unit) :=
  (hpV h a0 11 0 (.ref a1)).bind fun h6 =>
  (hpV h6 a0 11 1 (.ref a2)).bind fun h11 =>
  (hpV h11 a0 11 2 (.ref a3)).bind fun h16 =>
  hbind (hnew (.inr (4, [.null, .null, .int 0, .int 0, .int 0, .int 0, .int 0])) (7) nx h16) nx fun _ nx20 h20 =>
  hbind (f_Definition_init n nx nx20 h20) nx20 fun _ nx24 h24 =>
  (hpV h24 a0 11 3 (.ref nx)).bind fun h27 =>
  hbind (hnew (.inr (8, [.int 0, .null, .int 0])) (3) nx24 h27) nx24 fun _ nx31 h31 =>
  hbind (f_Row_init nx24 (3000 : Int32) nx31 h31) nx31 fun _ nx38 h38 =>
  (hpV h38 a0 11 4 (.ref nx24)).bind fun h41 =>
  (hpV h41 a0 11 5 (.int (0 : Int32))).bind fun h46 =>
  (hpV h46 a0 11 6 (.int (-1 : Int32))).bind fun h51 =>
  some ((), 0, 0, h51)
def f_MacroExpand_init (n : Nat) (a0 : Nat) (i1 : Int64) (nx : Nat) (h : hH) : hR (Unit) :=
  hbind (hnew (.inr (3, [.null, .null, .null, .int 0, .int 0])) (5) nx h) nx fun _ nx18 h18 =>
  hbind (f_Book_init n nx nx18 h18) nx18 fun _ nx22 h22 =>
  (hpV h22 a0 0 0 (.ref nx)).bind fun h25 =>
  hbind (hnew (.inr (9, [.null, .null, .int 0])) (3) nx22 h25) nx22 fun _ nx29 h29 =>
  hbind (f_Spelling_init nx22 nx29 h29) nx29 fun _ nx33 h33 =>
  (hpV h33 a0 0 1 (.ref nx22)).bind fun h36 =>
  hbind (hnew (.inr (6, [.null, .int 0])) (2) nx33 h36) nx33 fun _ nx40 h40 =>
  hbind (f_Input_init nx33 nx40 h40) nx40 fun _ nx44 h44 =>
  (hpV h44 a0 0 2 (.ref nx33)).bind fun h47 =>
  hbind (hnew (.inr (5, [.int 0, .null, .null, .null, .null, .null, .null, .null, .null, .int 0, .int 0, .int 0, .int 0, .int 0])) (14) nx44 h47) nx44 fun _ nx51 h51 =>
  (hgR h51 a0 0 2).bind fun v57 =>
  (hgR h51 a0 0 0).bind fun v61 =>
  (hgR h51 a0 0 1).bind fun v65 =>
  (v57).bind fun p68_1 =>
  (v61).bind fun p68_2 =>
  (v65).bind fun p68_3 =>
  hbind (f_Expander_init n nx44 ((if (if i1 < (20000 : Int64) then i1 else (20000 : Int64)) < (1 : Int64) then (1 : Int64) else (if i1 < (20000 : Int64) then i1 else (20000 : Int64))).toInt32) p68_1 p68_2 p68_3 nx51 h51) nx51 fun _ nx68 h68 =>
  (hpV h68 a0 0 3 (.ref nx44)).bind fun h71 =>
  hbind (hnew (.inr (11, [.null, .null, .null, .null, .null, .int 0, .int 0])) (7) nx68 h71) nx68 fun _ nx75 h75 =>
  (hgR h75 a0 0 2).bind fun v80 =>
  (hgR h75 a0 0 0).bind fun v84 =>
  (hgR h75 a0 0 3).bind fun v88 =>
  (v80).bind fun p91_0 =>
  (v84).bind fun p91_1 =>
  (v88).bind fun p91_2 =>
  hbind (f_Whole_init n nx68 p91_0 p91_1 p91_2 nx75 h75) nx75 fun _ nx91 h91 =>
  (hpV h91 a0 0 4 (.ref nx68)).bind fun h94 =>
  (hpV h94 a0 0 5 (.int (0 : Int32))).bind fun h99 =>
  (hpV h99 a0 0 6 (.int (0 : Int32))).bind fun h104 =>
  some ((), 0, 0, h104)
def f_Book_isFull (a0 : Nat) (h : hH) : Option (Int32) :=
  (hgI h a0 3 3).bind fun v1 =>
  if v1 < (100 : Int32) then
    some (0 : Int32)
  else
    some (1 : Int32)
def f_Macro_init_b63 (n : Nat) (a0 : Nat) : (Int32) → Nat → hH → hR ((Int32) ⊕ ((Unit))) := fun x nx h =>
  let x3 := x
  (hgR h a0 7 3).bind fun v65 =>
  (v65).bind fun p68 =>
  (haL h p68 3).bind fun v68 =>
  if v68 ≤ x3 then
    some (.inr (), 0, 0, h)
  else
    (hgR h a0 7 3).bind fun v73 =>
    hbind (hnew (.inr (8, [.int 0, .null, .int 0])) (3) nx h) nx fun _ nx77 h77 =>
    hbind (f_Row_init nx (200 : Int32) nx77 h77) nx77 fun _ nx84 h84 =>
    (v73).bind fun p87 =>
    (hObj h84 nx 8).bind fun c87 =>
    (hsR h84 p87 3 x3 (some nx)).bind fun h87 =>
    some (.inl (x3 + (1 : Int32)), 0, 0, h87)
def f_Macro_init_j45 (n : Nat) (a0 : Nat) (y0 : Option Nat) (y1 : Int32) (nx : Nat) (h : hH) : hR (Unit) :=
  (y0).bind fun p45 =>
  (hpZ h p45 7 2 y1).bind fun h45 =>
  (hgI h45 a0 7 0).bind fun v50 =>
  if (v50 + (1 : Int32)) < 0 ∨ 134217728 < (v50 + (1 : Int32)).toNatClampNeg then none else
  hbind (hnew (.inl (3, (v50 + (1 : Int32)).toNatClampNeg, .inr (.inr (.inr (.inr (fun _ => none)))))) ((v50 + (1 : Int32)).toNatClampNeg) nx h45) nx fun _ nx55 h55 =>
  (hpV h55 a0 7 3 (.ref nx)).bind fun h58 =>
  hbind (hloopA (f_Macro_init_b63 n a0) n (0 : Int32) nx55 h58) nx55 fun b63 nx63l h63l =>
  hbind (hnew (.inr (8, [.int 0, .null, .int 0])) (3) nx63l h63l) nx63l fun _ nx95 h95 =>
  hbind (f_Row_init nx63l (200 : Int32) nx95 h95) nx95 fun _ nx102 h102 =>
  (hpV h102 a0 7 4 (.ref nx63l)).bind fun h105 =>
  some ((), 0, 0, h105)
def f_Macro_init_j30 (n : Nat) (a0 : Nat) (x2 : Int32) (y0 : Option Nat) (y1 : Int32) (nx : Nat) (h : hH) : hR (Unit) :=
  (y0).bind fun p30 =>
  (hpZ h p30 7 1 y1).bind fun h30 =>
  if (x2 &&& (2 : Int32)) = 0 then
    f_Macro_init_j45 n a0 (some a0) (0 : Int32) nx h30
  else
    f_Macro_init_j45 n a0 (some a0) (1 : Int32) nx h30
def f_Macro_init (n : Nat) (a0 : Nat) (i1 : Int32) (i2 : Int32) (nx : Nat) (h : hH) : hR (Unit) :=
  (hpV h a0 7 0 (.int (if (0 : Int32) < (if i1 < (9 : Int32) then i1 else (9 : Int32)) then (if i1 < (9 : Int32) then i1 else (9 : Int32)) else (0 : Int32)))).bind fun h15 =>
  if (i2 &&& (1 : Int32)) = 0 then
    f_Macro_init_j30 n a0 i2 (some a0) (0 : Int32) nx h15
  else
    f_Macro_init_j30 n a0 i2 (some a0) (1 : Int32) nx h15
def f_Book_enter_j88 (n : Nat) (a0 : Nat) (h : hH) : Option ((Int32) × hH) :=
  (hgI h a0 3 3).bind fun v90 =>
  (hpV h a0 3 3 (.int (v90 + (1 : Int32)))).bind fun h95 =>
  (hgI h95 a0 3 3).bind fun v99 =>
  some ((v99 - (1 : Int32)), h95)
def f_Book_enter_b59 (n : Nat) (a0 : Nat) (x4 : Int32) : (Int32) → hH → Option (((Int32) ⊕ ((Unit))) × hH) := fun x h =>
  let x5 := x
  (hgI h a0 3 4).bind fun v62 =>
  if v62 ≤ x5 then
    some (.inr (), h)
  else
    (hgR h a0 3 2).bind fun v69 =>
    (v69).bind fun p74 =>
    (haR h p74 2 x5).bind fun v74 =>
    (hgI h a0 3 3).bind fun v78 =>
    (v74).bind fun p81 =>
    (hsI h p81 0 x4 v78).bind fun h81 =>
    some (.inl (x5 + (1 : Int32)), h81)
def f_Book_enter (n : Nat) (a0 : Nat) (i1 : Int32) (a2 : Nat) (i3 : Int32) (h : hH) : Option ((Int32) × hH) :=
  (hObj h a0 3).bind fun c8 =>
  (f_Book_isFull a0 h).bind fun v8 =>
  if v8 = 0 then
    if (i1 - (1000 : Int32)) < 0 then
      some ((-1 : Int32), h)
    else
      if (i1 - (1000 : Int32)) < (200 : Int32) then
        (hgR h a0 3 0).bind fun v30 =>
        (hgI h a0 3 3).bind fun v34 =>
        (v30).bind fun p38 =>
        (hObj h a2 7).bind fun c38 =>
        (hsR h p38 1 v34 (some a2)).bind fun h38 =>
        (hgR h38 a0 3 1).bind fun v40 =>
        (hgI h38 a0 3 3).bind fun v46 =>
        (v40).bind fun p49 =>
        (hsI h38 p49 0 (i1 - (1000 : Int32)) v46).bind fun h49 =>
        if (i3 &&& (4 : Int32)) = 0 then
          f_Book_enter_j88 n a0 h49
        else
          hbW (hloopW (f_Book_enter_b59 n a0 (i1 - (1000 : Int32))) n (0 : Int32) h49) fun b59 h59l =>
          f_Book_enter_j88 n a0 h59l
      else
        some ((-1 : Int32), h)
  else
    some ((-1 : Int32), h)
def f_MacroExpand_define (n : Nat) (a0 : Nat) (i1 : Int32) (i2 : Int32) (i3 : Int32) (nx : Nat) (h : hH) : hR (Int32) :=
  if i1 < 0 then
    some ((-2 : Int32), 0, 0, h)
  else
    if (200 : Int32) ≤ i1 then
      some ((-2 : Int32), 0, 0, h)
    else
      if i2 < 0 then
        some ((-2 : Int32), 0, 0, h)
      else
        if (9 : Int32) < i2 then
          some ((-2 : Int32), 0, 0, h)
        else
          if i3 < 0 then
            some ((-2 : Int32), 0, 0, h)
          else
            if i3 ≤ (7 : Int32) then
              (hgR h a0 0 0).bind fun v35 =>
              (v35).bind fun p38 =>
              (hObj h p38 3).bind fun c38 =>
              (f_Book_isFull p38 h).bind fun v38 =>
              if v38 = 0 then
                (hgR h a0 0 0).bind fun v48 =>
                hbind (hnew (.inr (7, [.int 0, .int 0, .int 0, .null, .null])) (5) nx h) nx fun _ nx56 h56 =>
                hbind (f_Macro_init n nx i2 i3 nx56 h56) nx56 fun _ nx62 h62 =>
                (v48).bind fun p66 =>
                (hObj h62 p66 3).bind fun c66 =>
                hbW (f_Book_enter n p66 ((1000 : Int32) + i1) nx i3 h62) fun v66 h66 =>
                some (v66, 0, 0, h66)
              else
                some ((-4 : Int32), 0, 0, h)
            else
              some ((-2 : Int32), 0, 0, h)
def f_Book_numbered (a0 : Nat) (i1 : Int32) (h : hH) : Option (Option Nat) :=
  if i1 < 0 then
    some none
  else
    (hgI h a0 3 3).bind fun v6 =>
    if v6 ≤ i1 then
      some none
    else
      (hgR h a0 3 0).bind fun v14 =>
      (v14).bind fun p17 =>
      (haL h p17 1).bind fun v17 =>
      if v17 ≤ i1 then
        some none
      else
        (hgR h a0 3 0).bind fun v22 =>
        (v22).bind fun p26 =>
        (haR h p26 1 i1).bind fun v26 =>
        some v26
def f_Kind_isParameter (i0 : Int32) (h : hH) : Option (Int32) :=
  if i0 ≤ (310 : Int32) then
    some (0 : Int32)
  else
    if (399 : Int32) < i0 then
      some (0 : Int32)
    else
      if (10 : Int32) = 0 then none else
      if ((i0 - (310 : Int32)) - (i0 - (310 : Int32)) / (10 : Int32) * (10 : Int32)) = 0 then
        some (0 : Int32)
      else
        some (1 : Int32)
def f_Kind_isName (i0 : Int32) (h : hH) : Option (Int32) :=
  if i0 < (1000 : Int32) then
    some (0 : Int32)
  else
    if (1200 : Int32) ≤ i0 then
      some (0 : Int32)
    else
      some (1 : Int32)
def f_Kind_isToken_j25 (x0 : Int32) (h : hH) : Option (Int32) :=
  (f_Kind_isParameter x0 h).bind fun v26 =>
  if v26 = 0 then
    (f_Kind_isName x0 h).bind fun v33 =>
    if v33 = 0 then
      some (0 : Int32)
    else
      some (1 : Int32)
  else
    some (1 : Int32)
def f_Kind_isToken_j11 (x0 : Int32) (h : hH) : Option (Int32) :=
  if x0 < (260 : Int32) then
    f_Kind_isToken_j25 x0 h
  else
    if x0 ≤ (269 : Int32) then
      some (1 : Int32)
    else
      f_Kind_isToken_j25 x0 h
def f_Kind_isToken (i0 : Int32) (h : hH) : Option (Int32) :=
  if i0 < 0 then
    f_Kind_isToken_j11 i0 h
  else
    if i0 ≤ (258 : Int32) then
      some (1 : Int32)
    else
      f_Kind_isToken_j11 i0 h
def f_Row_isFull (a0 : Nat) (h : hH) : Option (Int32) :=
  (hgI h a0 8 2).bind fun v1 =>
  (hgI h a0 8 0).bind fun v5 =>
  if v1 < v5 then
    some (0 : Int32)
  else
    some (1 : Int32)
def f_Row_add_j52 (a0 : Nat) (x1 : Int32) (nx : Nat) (h : hH) : hR (Unit) :=
  (hgI h a0 8 2).bind fun v53 =>
  (hgR h a0 8 1).bind fun v57 =>
  (v57).bind fun p60 =>
  (haL h p60 0).bind fun v60 =>
  if v60 ≤ v53 then
    some ((), 0, 0, h)
  else
    (hgR h a0 8 1).bind fun v65 =>
    (hgI h a0 8 2).bind fun v69 =>
    (v65).bind fun p73 =>
    (hsI h p73 0 v69 x1).bind fun h73 =>
    (hgI h73 a0 8 2).bind fun v76 =>
    (hpV h73 a0 8 2 (.int (v76 + (1 : Int32)))).bind fun h81 =>
    some ((), 0, 0, h81)
def f_Row_add (a0 : Nat) (i1 : Int32) (nx : Nat) (h : hH) : hR (Unit) :=
  (hgI h a0 8 2).bind fun v1 =>
  (hgI h a0 8 0).bind fun v5 =>
  if v1 < v5 then
    (hgI h a0 8 2).bind fun v13 =>
    (hgR h a0 8 1).bind fun v17 =>
    (v17).bind fun p20 =>
    (haL h p20 0).bind fun v20 =>
    if v13 < v20 then
      f_Row_add_j52 a0 i1 nx h
    else
      (hgR h a0 8 1).bind fun v26 =>
      (hgI h a0 8 0).bind fun v30 =>
      (hgR h a0 8 1).bind fun v35 =>
      (v35).bind fun p38 =>
      (haL h p38 0).bind fun v38 =>
      (v26).bind fun p46_0 =>
      hbind (f_Arrays_copyOf p46_0 (if (((2 : Int32) * v38) + (8 : Int32)) < v30 then (((2 : Int32) * v38) + (8 : Int32)) else v30) nx h) nx fun v46 nx46 h46 =>
      (hpV h46 a0 8 1 (va_rf v46)).bind fun h49 =>
      f_Row_add_j52 a0 i1 nx46 h49
  else
    some ((), 0, 0, h)
def f_MacroExpand_oneMore (a0 : Nat) (i1 : Int32) (nx : Nat) (h : hH) : hR (Int32) :=
  (hObj h a0 8).bind fun c1 =>
  (f_Row_isFull a0 h).bind fun v1 =>
  if v1 = 0 then
    (hObj h a0 8).bind fun c12 =>
    hbind (f_Row_add a0 i1 nx h) nx fun _ nx12 h12 =>
    (hgI h12 a0 8 2).bind fun v16 =>
    some (v16, 0, 0, h12)
  else
    some ((-4 : Int32), 0, 0, h)
def f_MacroExpand_body (a0 : Nat) (i1 : Int32) (i2 : Int32) (nx : Nat) (h : hH) : hR (Int32) :=
  (hgR h a0 0 0).bind fun v1 =>
  (v1).bind fun p5 =>
  (hObj h p5 3).bind fun c5 =>
  (f_Book_numbered p5 i1 h).bind fun v5 =>
  hNull v5
  (
    some ((-1 : Int32), 0, 0, h))
  fun p10 =>
    (f_Kind_isToken i2 h).bind fun v16 =>
    if v16 = 0 then
      some ((-2 : Int32), 0, 0, h)
    else
      (hgR h p10 7 4).bind fun v26 =>
      (v26).bind fun p30_0 =>
      hbind (f_MacroExpand_oneMore p30_0 i2 nx h) nx fun v30 nx30 h30 =>
      some (v30, 0, 0, h30)
def f_Kind_canDelimit (i0 : Int32) (h : hH) : Option (Int32) :=
  (f_Kind_isToken i0 h).bind fun v1 =>
  if v1 = 0 then
    some (0 : Int32)
  else
    if i0 = (257 : Int32) then
      some (0 : Int32)
    else
      if i0 = (258 : Int32) then
        some (0 : Int32)
      else
        (f_Kind_isParameter i0 h).bind fun v22 =>
        if v22 = 0 then
          some (1 : Int32)
        else
          some (0 : Int32)
def f_Macro_row (a0 : Nat) (i1 : Int32) (h : hH) : Option (Option Nat) :=
  (hgR h a0 7 3).bind fun v1 =>
  (hgR h a0 7 3).bind fun v7 =>
  (v7).bind fun p10 =>
  (haL h p10 3).bind fun v10 =>
  (v1).bind fun p19 =>
  (haR h p19 3 (if (0 : Int32) < (if (v10 - (1 : Int32)) < i1 then (v10 - (1 : Int32)) else i1) then (if (v10 - (1 : Int32)) < i1 then (v10 - (1 : Int32)) else i1) else (0 : Int32))).bind fun v19 =>
  some v19
def f_MacroExpand_delimiter (a0 : Nat) (i1 : Int32) (i2 : Int32) (i3 : Int32) (nx : Nat) (h : hH) : hR (Int32) :=
  (hgR h a0 0 0).bind fun v1 =>
  (v1).bind fun p5 =>
  (hObj h p5 3).bind fun c5 =>
  (f_Book_numbered p5 i1 h).bind fun v5 =>
  hNull v5
  (
    some ((-1 : Int32), 0, 0, h))
  fun p12 =>
    if i2 < 0 then
      some ((-2 : Int32), 0, 0, h)
    else
      (hgI h p12 7 0).bind fun v24 =>
      if v24 < i2 then
        some ((-2 : Int32), 0, 0, h)
      else
        (f_Kind_canDelimit i3 h).bind fun v31 =>
        if v31 = 0 then
          some ((-2 : Int32), 0, 0, h)
        else
          (hObj h p12 7).bind fun c43 =>
          (f_Macro_row p12 i2 h).bind fun v43 =>
          (v43).bind fun p47_0 =>
          hbind (f_MacroExpand_oneMore p47_0 i3 nx h) nx fun v47 nx47 h47 =>
          some (v47, 0, 0, h47)
def f_Input_isFull (a0 : Nat) (h : hH) : Option (Int32) :=
  (hgI h a0 6 1).bind fun v1 =>
  if v1 < (3000 : Int32) then
    some (0 : Int32)
  else
    some (1 : Int32)
def f_Input_addLast (a0 : Nat) (i1 : Int32) (h : hH) : Option ((Unit) × hH) :=
  (hgI h a0 6 1).bind fun v1 =>
  if (3000 : Int32) ≤ v1 then
    some ((), h)
  else
    (hgR h a0 6 0).bind fun v11 =>
    (hgR h a0 6 0).bind fun v16 =>
    (hgI h a0 6 1).bind fun v21 =>
    (v11).bind fun p24_0 =>
    (v16).bind fun p24_2 =>
    (hcpI h p24_0 (0 : Int32) p24_2 (1 : Int32) v21 0).bind fun h24 =>
    (hgR h24 a0 6 0).bind fun v28 =>
    (v28).bind fun p33 =>
    (hsI h24 p33 0 (0 : Int32) i1).bind fun h33 =>
    (hgI h33 a0 6 1).bind fun v36 =>
    (hpV h33 a0 6 1 (.int (v36 + (1 : Int32)))).bind fun h41 =>
    some ((), h41)
