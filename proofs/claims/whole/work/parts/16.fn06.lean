def f_MacroExpand_at (a0 : Nat) (i1 : Int32) (h : hH) : Option (Int32) :=
  (hgR h a0 0 4).bind fun v1 =>
  (v1).bind fun p4 =>
  (hgR h p4 11 4).bind fun v4 =>
  (v4).bind fun p8 =>
  (hObj h p8 8).bind fun c8 =>
  (f_Row_get p8 i1 h).bind fun v8 =>
  some v8
def f_MacroExpand_fault (a0 : Nat) (i1 : Int32) (h : hH) : Option (Int32) :=
  if i1 = 0 then
    (hgI h a0 0 5).bind fun v5 =>
    some v5
  else
    if i1 = (1 : Int32) then
      (hgI h a0 0 6).bind fun v15 =>
      some v15
    else
      if i1 = (2 : Int32) then
        (hgR h a0 0 3).bind fun v25 =>
        (v25).bind fun p28 =>
        (hgI h p28 5 12).bind fun v28 =>
        some v28
      else
        some (-2 : Int32)
def f_Book_openGroup (a0 : Nat) (h : hH) : Option ((Int32) × hH) :=
  (hgI h a0 3 4).bind fun v1 =>
  if v1 < (20 : Int32) then
    (hgR h a0 3 1).bind fun v12 =>
    (hgR h a0 3 2).bind fun v17 =>
    (hgI h a0 3 4).bind fun v21 =>
    (v17).bind fun p24 =>
    (haR h p24 2 v21).bind fun v24 =>
    (v12).bind fun p29_0 =>
    (v24).bind fun p29_2 =>
    (hcpI h p29_0 (0 : Int32) p29_2 (0 : Int32) (200 : Int32) 0).bind fun h29 =>
    (hgI h29 a0 3 4).bind fun v34 =>
    (hpV h29 a0 3 4 (.int (v34 + (1 : Int32)))).bind fun h39 =>
    some ((1 : Int32), h39)
  else
    some ((0 : Int32), h)
def f_Book_closeGroup (a0 : Nat) (h : hH) : Option ((Int32) × hH) :=
  (hgI h a0 3 4).bind fun v1 =>
  if 0 < v1 then
    (hgI h a0 3 4).bind fun v11 =>
    (hpV h a0 3 4 (.int (v11 - (1 : Int32)))).bind fun h16 =>
    (hgR h16 a0 3 2).bind fun v20 =>
    (hgI h16 a0 3 4).bind fun v24 =>
    (v20).bind fun p27 =>
    (haR h16 p27 2 v24).bind fun v27 =>
    (hgR h16 a0 3 1).bind fun v30 =>
    (v27).bind fun p37_0 =>
    (v30).bind fun p37_2 =>
    (hcpI h16 p37_0 (0 : Int32) p37_2 (0 : Int32) (200 : Int32) 0).bind fun h37 =>
    some ((1 : Int32), h37)
  else
    some ((0 : Int32), h)
def f_MacroExpand_group (a0 : Nat) (i1 : Int32) (h : hH) : Option ((Int32) × hH) :=
  if i1 = 0 then
    (hgR h a0 0 0).bind fun v28 =>
    (v28).bind fun p31 =>
    (hObj h p31 3).bind fun c31 =>
    hbW (f_Book_closeGroup p31 h) fun v31 h31 =>
    if v31 = 0 then
      some ((-3 : Int32), h31)
    else
      (hgR h31 a0 0 0).bind fun v38 =>
      (v38).bind fun p41 =>
      (hgI h31 p41 3 4).bind fun v41 =>
      some (v41, h31)
  else
    (hgR h a0 0 0).bind fun v5 =>
    (v5).bind fun p8 =>
    (hObj h p8 3).bind fun c8 =>
    hbW (f_Book_openGroup p8 h) fun v8 h8 =>
    if v8 = 0 then
      some ((-4 : Int32), h8)
    else
      (hgR h8 a0 0 0).bind fun v15 =>
      (v15).bind fun p18 =>
      (hgI h8 p18 3 4).bind fun v18 =>
      some (v18, h8)
def f_Spelling_lengthOf (a0 : Nat) (i1 : Int32) (h : hH) : Option (Int32) :=
  if i1 < 0 then
    some (-1 : Int32)
  else
    (hgI h a0 9 2).bind fun v6 =>
    if v6 ≤ i1 then
      some (-1 : Int32)
    else
      (hgR h a0 9 1).bind fun v14 =>
      (v14).bind fun p17 =>
      (haL h p17 0).bind fun v17 =>
      if v17 ≤ i1 then
        some (-1 : Int32)
      else
        (hgR h a0 9 1).bind fun v22 =>
        (v22).bind fun p26 =>
        (haI h p26 0 i1).bind fun v26 =>
        some v26
def f_MacroExpand_named (a0 : Nat) (i1 : Int32) (h : hH) : Option (Int32) :=
  if i1 = (-1 : Int32) then
    (hgR h a0 0 1).bind fun v6 =>
    (v6).bind fun p9 =>
    (hgI h p9 9 2).bind fun v9 =>
    some v9
  else
    (hgR h a0 0 1).bind fun v16 =>
    (v16).bind fun p20 =>
    (hObj h p20 9).bind fun c20 =>
    (f_Spelling_lengthOf p20 i1 h).bind fun v20 =>
    some v20
def f_Trace_get (a0 : Nat) (i1 : Int32) (i2 : Int32) (h : hH) : Option (Int32) :=
  if i1 < 0 then
    some (-1 : Int32)
  else
    (hgI h a0 10 3).bind fun v6 =>
    if v6 ≤ i1 then
      some (-1 : Int32)
    else
      if i1 < (100 : Int32) then
        if i2 = 0 then
          (hgR h a0 10 0).bind fun v25 =>
          (v25).bind fun p29 =>
          (haI h p29 0 i1).bind fun v29 =>
          some v29
        else
          if i2 = (1 : Int32) then
            (hgR h a0 10 1).bind fun v37 =>
            (v37).bind fun p41 =>
            (haI h p41 0 i1).bind fun v41 =>
            some v41
          else
            if i2 = (2 : Int32) then
              (hgR h a0 10 2).bind fun v49 =>
              (v49).bind fun p53 =>
              (haI h p53 0 i1).bind fun v53 =>
              some v53
            else
              some (-1 : Int32)
      else
        some (-1 : Int32)
def f_MacroExpand_traced (a0 : Nat) (i1 : Int32) (i2 : Int32) (h : hH) : Option (Int32) :=
  (hgR h a0 0 3).bind fun v1 =>
  (v1).bind fun p4 =>
  (hgR h p4 5 4).bind fun v4 =>
  (v4).bind fun p9 =>
  (hObj h p9 10).bind fun c9 =>
  (f_Trace_get p9 i1 i2 h).bind fun v9 =>
  some v9
def f_MacroExpand_input (a0 : Nat) (i1 : Int32) (h : hH) : Option (Int32) :=
  (hgR h a0 0 2).bind fun v1 =>
  (v1).bind fun p5 =>
  (hObj h p5 6).bind fun c5 =>
  (f_Input_get p5 i1 h).bind fun v5 =>
  some v5
def f_MacroExpand_macro (a0 : Nat) (i1 : Int32) (h : hH) : Option (Int32) :=
  (hgR h a0 0 0).bind fun v1 =>
  (v1).bind fun p5 =>
  (hObj h p5 3).bind fun c5 =>
  (f_Book_numberOf p5 i1 h).bind fun v5 =>
  some v5
