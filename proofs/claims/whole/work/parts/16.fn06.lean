def f_MacroExpandModel_at (a0 : Nat) (i1 : Int32) (h : hH) : Option (Int32) :=
  (hgI h a0 1 4).bind fun v3 =>
  (f_MacroExpandModel_in i1 (0 : Int32) (v3 - (1 : Int32)) h).bind fun v8 =>
  if v8 = 0 then
    some (-1 : Int32)
  else
    (hgR h a0 1 5).bind fun v15 =>
    (v15).bind fun p19 =>
    (haI h p19 0 i1).bind fun v19 =>
    some v19
def f_MacroExpandModel_fault (a0 : Nat) (i1 : Int32) (h : hH) : Option (Int32) :=
  if i1 = 0 then
    (hgI h a0 1 21).bind fun v5 =>
    some v5
  else
    if i1 = (1 : Int32) then
      (hgI h a0 1 21).bind fun v17 =>
      if v17 = 0 then
        some (0 : Int32)
      else
        (hgI h a0 1 22).bind fun v28 =>
        some v28
    else
      if i1 = (2 : Int32) then
        (hgI h a0 1 23).bind fun v40 =>
        some v40
      else
        some (-2 : Int32)
def f_MacroExpandModel_named (a0 : Nat) (i1 : Int32) (h : hH) : Option (Int32) :=
  if i1 = (-1 : Int32) then
    (hgI h a0 1 16).bind fun v6 =>
    some v6
  else
    (hgI h a0 1 16).bind fun v15 =>
    (f_MacroExpandModel_in i1 (0 : Int32) (v15 - (1 : Int32)) h).bind fun v20 =>
    if v20 = 0 then
      some (-1 : Int32)
    else
      (hgR h a0 1 17).bind fun v27 =>
      (v27).bind fun p31 =>
      (haI h p31 0 i1).bind fun v31 =>
      some v31
def f_MacroExpandModel_traced (a0 : Nat) (i1 : Int32) (i2 : Int32) (h : hH) : Option (Int32) :=
  (hgI h a0 1 25).bind fun v3 =>
  (f_MacroExpandModel_in i1 (0 : Int32) (v3 - (1 : Int32)) h).bind fun v8 =>
  if v8 = 0 then
    some (-1 : Int32)
  else
    (f_MacroExpandModel_in i2 (0 : Int32) (2 : Int32) h).bind fun v17 =>
    if v17 = 0 then
      some (-1 : Int32)
    else
      (hgR h a0 1 26).bind fun v24 =>
      (v24).bind fun p32 =>
      (haI h p32 0 (((3 : Int32) * i1) + i2)).bind fun v32 =>
      some v32
def f_MacroExpandModel_input (a0 : Nat) (i1 : Int32) (h : hH) : Option (Int32) :=
  (hgI h a0 1 3).bind fun v3 =>
  (f_MacroExpandModel_in i1 (0 : Int32) (v3 - (1 : Int32)) h).bind fun v8 =>
  if v8 = 0 then
    some (-1 : Int32)
  else
    (hObj h a0 1).bind fun c16 =>
    (f_MacroExpandModel_get a0 i1 h).bind fun v16 =>
    some v16
def f_MacroExpandModel_macro (a0 : Nat) (i1 : Int32) (h : hH) : Option (Int32) :=
  (f_MacroExpandModel_in i1 (0 : Int32) (199 : Int32) h).bind fun v5 =>
  if v5 = 0 then
    some (-1 : Int32)
  else
    (hgR h a0 1 13).bind fun v12 =>
    (v12).bind fun p16 =>
    (haI h p16 0 i1).bind fun v16 =>
    some v16
