def f_MacroExpand_token (a0 : Nat) (i1 : Int32) (h : hH) : Option ((Int32) × hH) :=
  (f_Kind_isToken i1 h).bind fun v1 =>
  if v1 = 0 then
    some ((-2 : Int32), h)
  else
    (hgR h a0 0 2).bind fun v11 =>
    (v11).bind fun p14 =>
    (hObj h p14 6).bind fun c14 =>
    (f_Input_isFull p14 h).bind fun v14 =>
    if v14 = 0 then
      (hgR h a0 0 2).bind fun v24 =>
      (v24).bind fun p28 =>
      (hObj h p28 6).bind fun c28 =>
      hbW (f_Input_addLast p28 i1 h) fun _ h28 =>
      (hgR h28 a0 0 2).bind fun v32 =>
      (v32).bind fun p35 =>
      (hgI h28 p35 6 1).bind fun v35 =>
      some (v35, h28)
    else
      some ((-4 : Int32), h)
def f_Trace_clear (a0 : Nat) (h : hH) : Option ((Unit) × hH) :=
  (hpV h a0 10 3 (.int (0 : Int32))).bind fun h2 =>
  some ((), h2)
def f_Expander_begin (a0 : Nat) (h : hH) : Option ((Unit) × hH) :=
  (hgR h a0 5 4).bind fun v1 =>
  (v1).bind fun p4 =>
  (hObj h p4 10).bind fun c4 =>
  hbW (f_Trace_clear p4 h) fun _ h4 =>
  (hpV h4 a0 5 9 (.int (0 : Int32))).bind fun h9 =>
  (hpZ h9 a0 5 10 (0 : Int32)).bind fun h14 =>
  (hpZ h14 a0 5 11 (0 : Int32)).bind fun h19 =>
  (hpV h19 a0 5 12 (.int (0 : Int32))).bind fun h24 =>
  (hpV h24 a0 5 13 (.int (0 : Int32))).bind fun h29 =>
  some ((), h29)
def f_Row_clear (a0 : Nat) (h : hH) : Option ((Unit) × hH) :=
  (hpV h a0 8 2 (.int (0 : Int32))).bind fun h2 =>
  some ((), h2)
def f_Definition_leave (a0 : Nat) (h : hH) : Option ((Unit) × hH) :=
  (hpV h a0 4 2 (.int (0 : Int32))).bind fun h2 =>
  some ((), h2)
def f_Input_isEmpty (a0 : Nat) (h : hH) : Option (Int32) :=
  (hgI h a0 6 1).bind fun v1 =>
  if 0 < v1 then
    some (0 : Int32)
  else
    some (1 : Int32)
def f_Definition_isUnderWay (a0 : Nat) (h : hH) : Option (Int32) :=
  (hgI h a0 4 2).bind fun v1 =>
  if v1 = 0 then
    some (0 : Int32)
  else
    some (1 : Int32)
def f_Definition_takesTokensAsTheyAre (a0 : Nat) (h : hH) : Option (Int32) :=
  (hObj h a0 4).bind fun c1 =>
  (f_Definition_isUnderWay a0 h).bind fun v1 =>
  if v1 = 0 then
    some (0 : Int32)
  else
    (hgI h a0 4 2).bind fun v8 =>
    if v8 = (3 : Int32) then
      (hgI h a0 4 3).bind fun v16 =>
      if v16 = 0 then
        some (1 : Int32)
      else
        some (0 : Int32)
    else
      some (1 : Int32)
def f_Input_get (a0 : Nat) (i1 : Int32) (h : hH) : Option (Int32) :=
  if i1 < 0 then
    some (-1 : Int32)
  else
    (hgI h a0 6 1).bind fun v6 =>
    if v6 ≤ i1 then
      some (-1 : Int32)
    else
      (hgR h a0 6 0).bind fun v13 =>
      (hgI h a0 6 1).bind fun v17 =>
      (v13).bind fun p24 =>
      (haI h p24 0 ((v17 - (1 : Int32)) - i1)).bind fun v24 =>
      some v24
def f_Book_numberOf (a0 : Nat) (i1 : Int32) (h : hH) : Option (Int32) :=
  if i1 < 0 then
    some (-1 : Int32)
  else
    (hgR h a0 3 1).bind fun v6 =>
    (v6).bind fun p9 =>
    (haL h p9 0).bind fun v9 =>
    if v9 ≤ i1 then
      some (-1 : Int32)
    else
      (hgR h a0 3 1).bind fun v14 =>
      (v14).bind fun p18 =>
      (haI h p18 0 i1).bind fun v18 =>
      some v18
def f_Book_macroOf (a0 : Nat) (i1 : Int32) (h : hH) : Option (Option Nat) :=
  (hObj h a0 3).bind fun c7 =>
  (f_Book_numberOf a0 (i1 - (1000 : Int32)) h).bind fun v7 =>
  (hObj h a0 3).bind fun c10 =>
  (f_Book_numbered a0 v7 h).bind fun v10 =>
  some v10
def f_Expander_canExpand (a0 : Nat) (h : hH) : Option (Int32) :=
  (hgR h a0 5 1).bind fun v1 =>
  (v1).bind fun p5 =>
  (hObj h p5 6).bind fun c5 =>
  (f_Input_get p5 (0 : Int32) h).bind fun v5 =>
  (hgI h a0 5 11).bind fun v10 =>
  if v10 = 0 then
    if v5 = (260 : Int32) then
      some (1 : Int32)
    else
      if v5 = (261 : Int32) then
        some (1 : Int32)
      else
        if v5 = (262 : Int32) then
          some (1 : Int32)
        else
          (hgR h a0 5 2).bind fun v38 =>
          (v38).bind fun p42 =>
          (hObj h p42 3).bind fun c42 =>
          (f_Book_macroOf p42 v5 h).bind fun v42 =>
          hNull v42
          (
            some (0 : Int32))
          fun p45 =>
            some (1 : Int32)
  else
    some (0 : Int32)
def f_Input_take (a0 : Nat) (h : hH) : Option ((Int32) × hH) :=
  (hgI h a0 6 1).bind fun v1 =>
  if 0 < v1 then
    (hgI h a0 6 1).bind fun v11 =>
    (hpV h a0 6 1 (.int (v11 - (1 : Int32)))).bind fun h16 =>
    (hgR h16 a0 6 0).bind fun v20 =>
    (hgI h16 a0 6 1).bind fun v24 =>
    (v20).bind fun p27 =>
    (haI h16 p27 0 v24).bind fun v27 =>
    some (v27, h16)
  else
    some ((-1 : Int32), h)
def f_Expander_beginAfter (a0 : Nat) (h : hH) : Option ((Int32) × hH) :=
  (hgR h a0 5 1).bind fun v1 =>
  (v1).bind fun p4 =>
  (hgI h p4 6 1).bind fun v4 =>
  if (2 : Int32) ≤ v4 then
    (hgI h a0 5 9).bind fun v14 =>
    if v14 < (50 : Int32) then
      (hgR h a0 5 6).bind fun v26 =>
      (hgI h a0 5 9).bind fun v30 =>
      (hgR h a0 5 1).bind fun v34 =>
      (v34).bind fun p37 =>
      (hObj h p37 6).bind fun c37 =>
      hbW (f_Input_take p37 h) fun v37 h37 =>
      (v26).bind fun p40 =>
      (hsI h37 p40 0 v30 v37).bind fun h40 =>
      (hgI h40 a0 5 9).bind fun v43 =>
      (hpV h40 a0 5 9 (.int (v43 + (1 : Int32)))).bind fun h48 =>
      (hpZ h48 a0 5 10 (1 : Int32)).bind fun h53 =>
      some ((0 : Int32), h53)
    else
      some ((8 : Int32), h)
  else
    some ((1 : Int32), h)
def f_Expander_beginNaming (a0 : Nat) (h : hH) : Option ((Int32) × hH) :=
  (hgI h a0 5 9).bind fun v1 =>
  if v1 < (50 : Int32) then
    (hgR h a0 5 6).bind fun v13 =>
    (hgI h a0 5 9).bind fun v17 =>
    (v13).bind fun p21 =>
    (hsI h p21 0 v17 (-1 : Int32)).bind fun h21 =>
    (hgR h21 a0 5 8).bind fun v23 =>
    (hgI h21 a0 5 9).bind fun v27 =>
    (v23).bind fun p31 =>
    (hsI h21 p31 0 v27 (0 : Int32)).bind fun h31 =>
    (hgI h31 a0 5 9).bind fun v34 =>
    (hpV h31 a0 5 9 (.int (v34 + (1 : Int32)))).bind fun h39 =>
    some ((0 : Int32), h39)
  else
    some ((8 : Int32), h)
def f_Book_isOuter_j48 (y0 : Option Nat) (h : hH) : Option (Int32) :=
  hNull y0
  (
    some (0 : Int32))
  fun p52 =>
    (hgI h p52 7 2).bind fun v57 =>
    if v57 = 0 then
      some (0 : Int32)
    else
      some (1 : Int32)
def f_Book_isOuter_j47 (h : hH) : Option (Int32) :=
  f_Book_isOuter_j48 none h
def f_Book_isOuter (a0 : Nat) (i1 : Int32) (h : hH) : Option (Int32) :=
  if (i1 - (1000 : Int32)) < 0 then
    some (0 : Int32)
  else
    if (i1 - (1000 : Int32)) < (200 : Int32) then
      (hgR h a0 3 1).bind fun v20 =>
      (v20).bind fun p24 =>
      (haI h p24 0 (i1 - (1000 : Int32))).bind fun v24 =>
      if v24 < 0 then
        f_Book_isOuter_j47  h
      else
        (hgI h a0 3 3).bind fun v32 =>
        if v32 ≤ v24 then
          f_Book_isOuter_j47  h
        else
          (hgR h a0 3 0).bind fun v39 =>
          (v39).bind fun p43 =>
          (haR h p43 1 v24).bind fun v43 =>
          f_Book_isOuter_j48 v43 h
    else
      some (0 : Int32)
def f_Row_get (a0 : Nat) (i1 : Int32) (h : hH) : Option (Int32) :=
  if i1 < 0 then
    some (-1 : Int32)
  else
    (hgI h a0 8 2).bind fun v6 =>
    if v6 ≤ i1 then
      some (-1 : Int32)
    else
      (hgR h a0 8 1).bind fun v14 =>
      (v14).bind fun p17 =>
      (haL h p17 0).bind fun v17 =>
      if v17 ≤ i1 then
        some (-1 : Int32)
      else
        (hgR h a0 8 1).bind fun v22 =>
        (v22).bind fun p26 =>
        (haI h p26 0 i1).bind fun v26 =>
        some v26
def f_Arguments_readRow_b2 (n : Nat) (a0 : Nat) (a1 : Nat) : (Int32) → hH → Option (((Int32) ⊕ ((Unit) ⊕ (Unit) ⊕ (Unit) ⊕ (Unit))) × hH) := fun x h =>
  let x2 := x
  (hgI h a1 8 2).bind fun v4 =>
  if v4 ≤ x2 then
    some (.inr (.inr (.inr (.inr (())))), h)
  else
    (hgR h a0 2 0).bind fun v11 =>
    (v11).bind fun p14 =>
    (hObj h p14 6).bind fun c14 =>
    (f_Input_isEmpty p14 h).bind fun v14 =>
    if v14 = 0 then
      (hgR h a0 2 0).bind fun v23 =>
      (v23).bind fun p26 =>
      (hObj h p26 6).bind fun c26 =>
      hbW (f_Input_take p26 h) fun v26 h26 =>
      (hgR h26 a0 2 1).bind fun v31 =>
      (v31).bind fun p35 =>
      (hObj h26 p35 3).bind fun c35 =>
      (f_Book_isOuter p35 v26 h26).bind fun v35 =>
      if v35 = 0 then
        (hObj h26 a1 8).bind fun c46 =>
        (f_Row_get a1 x2 h26).bind fun v46 =>
        if v26 = v46 then
          some (.inl (x2 + (1 : Int32)), h26)
        else
          some (.inr (.inr (.inr (.inl ()))), h26)
      else
        some (.inr (.inr (.inl ())), h26)
    else
      some (.inr (.inl ()), h)
def f_Arguments_readRow (n : Nat) (a0 : Nat) (a1 : Nat) (h : hH) : Option ((Int32) × hH) :=
  hbW (hloopW (f_Arguments_readRow_b2 n a0 a1) n (0 : Int32) h) fun b2 h2l =>
  match b2 with
  | .inl z2 =>
    some ((1 : Int32), h2l)
  | .inr (.inl z2) =>
    some ((2 : Int32), h2l)
  | .inr (.inr (.inl z2)) =>
    some ((3 : Int32), h2l)
  | .inr (.inr (.inr (z2))) =>
    some ((0 : Int32), h2l)
def f_Arguments_argument (a0 : Nat) (i1 : Int32) (h : hH) : Option (Option Nat) :=
  (hgR h a0 2 2).bind fun v1 =>
  (hgR h a0 2 2).bind fun v9 =>
  (v9).bind fun p12 =>
  (haL h p12 3).bind fun v12 =>
  (v1).bind fun p21 =>
  (haR h p21 3 (if (0 : Int32) < (if (v12 - (1 : Int32)) < (i1 - (1 : Int32)) then (v12 - (1 : Int32)) else (i1 - (1 : Int32))) then (if (v12 - (1 : Int32)) < (i1 - (1 : Int32)) then (v12 - (1 : Int32)) else (i1 - (1 : Int32))) else (0 : Int32))).bind fun v21 =>
  some v21
def f_Arguments_isForbidden_j13 (a0 : Nat) (x1 : Int32) (h : hH) : Option (Int32) :=
  (hgR h a0 2 1).bind fun v14 =>
  (v14).bind fun p18 =>
  (hObj h p18 3).bind fun c18 =>
  (f_Book_isOuter p18 x1 h).bind fun v18 =>
  if v18 = 0 then
    some (0 : Int32)
  else
    some (1 : Int32)
def f_Arguments_isForbidden (a0 : Nat) (i1 : Int32) (a2 : Nat) (h : hH) : Option (Int32) :=
  if i1 = (10 : Int32) then
    (hgI h a2 7 1).bind fun v7 =>
    if v7 = 0 then
      some (1 : Int32)
    else
      f_Arguments_isForbidden_j13 a0 i1 h
  else
    f_Arguments_isForbidden_j13 a0 i1 h
def f_Kind_nesting (i0 : Int32) (h : hH) : Option (Int32) :=
  if i0 = (257 : Int32) then
    some (1 : Int32)
  else
    if i0 = (258 : Int32) then
      some (-1 : Int32)
    else
      some (0 : Int32)
def f_Arguments_readNext_j166 (n : Nat) (a0 : Nat) (a2 : Nat) (x3 : Option Nat) (x4 : Int32) (x5 : Int32) (nx : Nat) (h : hH) : hR ((Int32 × Int32) ⊕ ((Unit) ⊕ (Unit) ⊕ (Unit) ⊕ (Unit) ⊕ (Unit) ⊕ (Unit))) :=
  some (.inl (x4, (x5 + (1 : Int32))), 0, 0, h)
def f_Arguments_readNext_j143 (n : Nat) (a0 : Nat) (a2 : Nat) (x3 : Option Nat) (x4 : Int32) (x5 : Int32) (x6 : Int32) (nx : Nat) (h : hH) : hR ((Int32 × Int32) ⊕ ((Unit) ⊕ (Unit) ⊕ (Unit) ⊕ (Unit) ⊕ (Unit) ⊕ (Unit))) :=
  (x3).bind fun p144 =>
  (hObj h p144 8).bind fun c144 =>
  (f_Row_isFull p144 h).bind fun v144 =>
  if v144 = 0 then
    (hObj h p144 8).bind fun c156 =>
    hbind (f_Row_add p144 x6 nx h) nx fun _ nx156 h156 =>
    if x4 = 0 then
      some (.inr (.inr (.inr (.inr (.inr (.inl ()))))), 0, 0, h156)
    else
      f_Arguments_readNext_j166 n a0 a2 (some p144) x4 x5 nx156 h156
  else
    some (.inr (.inr (.inr (.inr (.inl ())))), 0, 0, h)
def f_Arguments_readNext_j130 (n : Nat) (a0 : Nat) (a2 : Nat) (x3 : Option Nat) (x4 : Int32) (x5 : Int32) (x6 : Int32) (x7 : Int32) (nx : Nat) (h : hH) : hR ((Int32 × Int32) ⊕ ((Unit) ⊕ (Unit) ⊕ (Unit) ⊕ (Unit) ⊕ (Unit) ⊕ (Unit))) :=
  if x7 = (1 : Int32) then
    if x4 = 0 then
      some (.inr (.inr (.inr (.inl ()))), 0, 0, h)
    else
      f_Arguments_readNext_j143 n a0 a2 x3 x4 x5 x6 nx h
  else
    f_Arguments_readNext_j143 n a0 a2 x3 x4 x5 x6 nx h
def f_Arguments_readNext_b55 (n : Nat) (a0 : Nat) (a2 : Nat) (x3 : Option Nat) : (Int32 × Int32) → Nat → hH → hR ((Int32 × Int32) ⊕ ((Unit) ⊕ (Unit) ⊕ (Unit) ⊕ (Unit) ⊕ (Unit) ⊕ (Unit))) := fun x nx h =>
  let x4 := x.1
  let x5 := x.2
  if (3000 : Int32) ≤ x5 then
    some (.inr (.inr (.inr (.inr (.inr (.inr (())))))), 0, 0, h)
  else
    (hgR h a0 2 0).bind fun v64 =>
    (v64).bind fun p67 =>
    (hObj h p67 6).bind fun c67 =>
    (f_Input_isEmpty p67 h).bind fun v67 =>
    if v67 = 0 then
      (hgR h a0 2 0).bind fun v74 =>
      (v74).bind fun p77 =>
      (hObj h p77 6).bind fun c77 =>
      hbW (f_Input_take p77 h) fun v77 h77 =>
      (hObj h77 a0 2).bind fun c86 =>
      (f_Arguments_isForbidden a0 v77 a2 h77).bind fun v86 =>
      if v86 = 0 then
        (f_Kind_nesting v77 h77).bind fun v102 =>
        if 0 ≤ (x4 + v102) then
          if x4 = 0 then
            if (x4 + v102) = (1 : Int32) then
              f_Arguments_readNext_j166 n a0 a2 x3 (x4 + v102) x5 nx h77
            else
              f_Arguments_readNext_j130 n a0 a2 x3 (x4 + v102) x5 v77 x4 nx h77
          else
            f_Arguments_readNext_j130 n a0 a2 x3 (x4 + v102) x5 v77 x4 nx h77
        else
          some (.inr (.inr (.inl ())), 0, 0, h77)
      else
        some (.inr (.inl ()), 0, 0, h77)
    else
      some (.inr (.inr (.inr (.inr (.inr (.inr (())))))), 0, 0, h)
def f_Arguments_readNext_b13 (n : Nat) (a0 : Nat) (a2 : Nat) (x3 : Option Nat) : (Int32) → Nat → hH → hR ((Int32) ⊕ ((Unit))) := fun x nx h =>
  let x4 := x
  if (3000 : Int32) ≤ x4 then
    some (.inr (), 0, 0, h)
  else
    (hgR h a0 2 0).bind fun v22 =>
    (v22).bind fun p26 =>
    (hObj h p26 6).bind fun c26 =>
    (f_Input_get p26 (0 : Int32) h).bind fun v26 =>
    if v26 = (256 : Int32) then
      (hgR h a0 2 0).bind fun v36 =>
      (v36).bind fun p39 =>
      (hObj h p39 6).bind fun c39 =>
      hbW (f_Input_take p39 h) fun v39 h39 =>
      some (.inl (x4 + (1 : Int32)), 0, 0, h39)
    else
      some (.inr (), 0, 0, h)
def f_Arguments_readNext (n : Nat) (a0 : Nat) (i1 : Int32) (a2 : Nat) (nx : Nat) (h : hH) : hR (Int32) :=
  (hObj h a0 2).bind fun c2 =>
  (f_Arguments_argument a0 i1 h).bind fun v2 =>
  (v2).bind fun p7 =>
  (hObj h p7 8).bind fun c7 =>
  hbW (f_Row_clear p7 h) fun _ h7 =>
  hbind (hloopA (f_Arguments_readNext_b13 n a0 a2 (some p7)) n (0 : Int32) nx h7) nx fun b13 nx13l h13l =>
  hbind (hloopA (f_Arguments_readNext_b55 n a0 a2 (some p7)) n ((0 : Int32), (0 : Int32)) nx13l h13l) nx13l fun b55 nx55l h55l =>
  match b55 with
  | .inl z55 =>
    some ((2 : Int32), 0, 0, h55l)
  | .inr (.inl z55) =>
    some ((7 : Int32), 0, 0, h55l)
  | .inr (.inr (.inl z55)) =>
    some ((0 : Int32), 0, 0, h55l)
  | .inr (.inr (.inr (.inl z55))) =>
    some ((8 : Int32), 0, 0, h55l)
  | .inr (.inr (.inr (.inr (.inl z55)))) =>
    some ((0 : Int32), 0, 0, h55l)
  | .inr (.inr (.inr (.inr (.inr (z55))))) =>
    some ((1 : Int32), 0, 0, h55l)
def f_Input_beginsWith_b15 (n : Nat) (a0 : Nat) (a1 : Nat) (h : hH) : (Int32) → Option ((Int32) ⊕ ((Unit) ⊕ (Unit))) := fun x =>
  let x2 := x
  (hgI h a1 8 2).bind fun v17 =>
  if v17 ≤ x2 then
    some (.inr (.inr (())))
  else
    (hObj h a0 6).bind fun c25 =>
    (f_Input_get a0 x2 h).bind fun v25 =>
    (hObj h a1 8).bind fun c30 =>
    (f_Row_get a1 x2 h).bind fun v30 =>
    if v25 = v30 then
      some (.inl (x2 + (1 : Int32)))
    else
      some (.inr (.inl ()))
def f_Input_beginsWith (n : Nat) (a0 : Nat) (a1 : Nat) (h : hH) : Option (Int32) :=
  (hgI h a1 8 2).bind fun v1 =>
  (hgI h a0 6 1).bind fun v5 =>
  if v1 ≤ v5 then
    (hloopR (f_Input_beginsWith_b15 n a0 a1 h) n (0 : Int32)).bind fun b15 =>
    match b15 with
    | .inl z15 =>
      some (0 : Int32)
    | .inr (z15) =>
      some (1 : Int32)
  else
    some (0 : Int32)
def f_Input_drop (a0 : Nat) (i1 : Int32) (h : hH) : Option ((Unit) × hH) :=
  (hgI h a0 6 1).bind fun v3 =>
  (hpV h a0 6 1 (.int (if (0 : Int32) < (v3 - (if (0 : Int32) < i1 then i1 else (0 : Int32))) then (v3 - (if (0 : Int32) < i1 then i1 else (0 : Int32))) else (0 : Int32)))).bind fun h15 =>
  some ((), h15)
def f_Row_leaveOutOuterPair_b40 (n : Nat) (a0 : Nat) : (Int32 × Int32) → hH → Option (((Int32 × Int32) ⊕ ((Unit) ⊕ (Unit))) × hH) := fun x h =>
  let x1 := x.1
  let x2 := x.2
  (hgI h a0 8 2).bind fun v42 =>
  if (v42 - (1 : Int32)) ≤ x2 then
    some (.inr (.inr (())), h)
  else
    (hObj h a0 8).bind fun c53 =>
    (f_Row_get a0 x2 h).bind fun v53 =>
    (f_Kind_nesting v53 h).bind fun v56 =>
    if (x1 + v56) = 0 then
      some (.inr (.inl ()), h)
    else
      some (.inl ((x1 + v56), (x2 + (1 : Int32))), h)
def f_Row_leaveOutOuterPair (n : Nat) (a0 : Nat) (h : hH) : Option ((Unit) × hH) :=
  (hgI h a0 8 2).bind fun v1 =>
  if v1 < (2 : Int32) then
    some ((), h)
  else
    (hObj h a0 8).bind fun c10 =>
    (f_Row_get a0 (0 : Int32) h).bind fun v10 =>
    if v10 = (257 : Int32) then
      (hgI h a0 8 2).bind fun v21 =>
      (hObj h a0 8).bind fun c26 =>
      (f_Row_get a0 (v21 - (1 : Int32)) h).bind fun v26 =>
      if v26 = (258 : Int32) then
        hbW (hloopW (f_Row_leaveOutOuterPair_b40 n a0) n ((0 : Int32), (0 : Int32)) h) fun b40 h40l =>
        match b40 with
        | .inl z40 =>
          some ((), h40l)
        | .inr (z40) =>
          (hgR h40l a0 8 1).bind fun v73 =>
          (hgR h40l a0 8 1).bind fun v78 =>
          (hgI h40l a0 8 2).bind fun v83 =>
          (v73).bind fun p88_0 =>
          (v78).bind fun p88_2 =>
          (hcpI h40l p88_0 (1 : Int32) p88_2 (0 : Int32) (v83 - (2 : Int32)) 0).bind fun h88 =>
          (hgI h88 a0 8 2).bind fun v93 =>
          (hpV h88 a0 8 2 (.int (v93 - (2 : Int32)))).bind fun h98 =>
          some ((), h98)
      else
        some ((), h)
    else
      some ((), h)
def f_Arguments_readUpTo_j70 (n : Nat) (a0 : Nat) (a1 : Nat) (a3 : Nat) (x4 : Option Nat) (x5 : Int32) (x6 : Int32) (nx : Nat) (h : hH) : hR ((Int32 × Int32) ⊕ ((Unit) ⊕ (Unit) ⊕ (Unit) ⊕ (Unit) ⊕ (Unit))) :=
  (hgR h a0 2 0).bind fun v71 =>
  (v71).bind fun p74 =>
  (hObj h p74 6).bind fun c74 =>
  hbW (f_Input_take p74 h) fun v74 h74 =>
  (hObj h74 a0 2).bind fun c83 =>
  (f_Arguments_isForbidden a0 v74 a3 h74).bind fun v83 =>
  if v83 = 0 then
    (f_Kind_nesting v74 h74).bind fun v95 =>
    if 0 ≤ (x5 + v95) then
      (x4).bind fun p111 =>
      (hObj h74 p111 8).bind fun c111 =>
      (f_Row_isFull p111 h74).bind fun v111 =>
      if v111 = 0 then
        (hObj h74 p111 8).bind fun c124 =>
        hbind (f_Row_add p111 v74 nx h74) nx fun _ nx124 h124 =>
        some (.inl ((x5 + v95), (x6 + (1 : Int32))), 0, 0, h124)
      else
        some (.inr (.inr (.inr (.inr (.inl ())))), 0, 0, h74)
    else
      some (.inr (.inr (.inr (.inl ()))), 0, 0, h74)
  else
    some (.inr (.inr (.inl ())), 0, 0, h74)
def f_Arguments_readUpTo_b18 (n : Nat) (a0 : Nat) (a1 : Nat) (a3 : Nat) (x4 : Option Nat) : (Int32 × Int32) → Nat → hH → hR ((Int32 × Int32) ⊕ ((Unit) ⊕ (Unit) ⊕ (Unit) ⊕ (Unit) ⊕ (Unit))) := fun x nx h =>
  let x5 := x.1
  let x6 := x.2
  if (3000 : Int32) ≤ x6 then
    some (.inr (.inr (.inr (.inr (.inr (()))))), 0, 0, h)
  else
    (hgR h a0 2 0).bind fun v27 =>
    (v27).bind fun p30 =>
    (hObj h p30 6).bind fun c30 =>
    (f_Input_isEmpty p30 h).bind fun v30 =>
    if v30 = 0 then
      if x5 = 0 then
        (hgR h a0 2 0).bind fun v42 =>
        (v42).bind fun p46 =>
        (hObj h p46 6).bind fun c46 =>
        (f_Input_beginsWith n p46 a1 h).bind fun v46 =>
        if v46 = 0 then
          f_Arguments_readUpTo_j70 n a0 a1 a3 x4 x5 x6 nx h
        else
          some (.inr (.inl ()), 0, 0, h)
      else
        f_Arguments_readUpTo_j70 n a0 a1 a3 x4 x5 x6 nx h
    else
      some (.inr (.inr (.inr (.inr (.inr (()))))), 0, 0, h)
def f_Arguments_readUpTo (n : Nat) (a0 : Nat) (a1 : Nat) (i2 : Int32) (a3 : Nat) (nx : Nat) (h : hH) : hR (Int32) :=
  (hObj h a0 2).bind fun c2 =>
  (f_Arguments_argument a0 i2 h).bind fun v2 =>
  (v2).bind fun p9 =>
  (hObj h p9 8).bind fun c9 =>
  hbW (f_Row_clear p9 h) fun _ h9 =>
  hbind (hloopA (f_Arguments_readUpTo_b18 n a0 a1 a3 (some p9)) n ((0 : Int32), (0 : Int32)) nx h9) nx fun b18 nx18l h18l =>
  match b18 with
  | .inl z18 =>
    (hgR h18l a0 2 0).bind fun v53 =>
    (hgI h18l a1 8 2).bind fun v57 =>
    (v53).bind fun p60 =>
    (hObj h18l p60 6).bind fun c60 =>
    hbW (f_Input_drop p60 v57 h18l) fun _ h60 =>
    (hObj h60 p9 8).bind fun c65 =>
    hbW (f_Row_leaveOutOuterPair n p9 h60) fun _ h65 =>
    some ((0 : Int32), 0, 0, h65)
  | .inr (.inl z18) =>
    some ((2 : Int32), 0, 0, h18l)
  | .inr (.inr (.inl z18)) =>
    some ((7 : Int32), 0, 0, h18l)
  | .inr (.inr (.inr (.inl z18))) =>
    some ((8 : Int32), 0, 0, h18l)
  | .inr (.inr (.inr (.inr (z18)))) =>
    some ((1 : Int32), 0, 0, h18l)
def f_Kind_argumentOf (i0 : Int32) (h : hH) : Option (Int32) :=
  if i0 ≤ (310 : Int32) then
    some (0 : Int32)
  else
    if (320 : Int32) ≤ i0 then
      some (0 : Int32)
    else
      some (i0 - (310 : Int32))
def f_Expander_sizeOfText_j63 (n : Nat) (a0 : Nat) (a1 : Nat) (x2 : Int32) (x3 : Int32) (h : hH) : Option ((Int32 × Int32) ⊕ ((Int32))) :=
  some (.inl (x2, (x3 + (1 : Int32))))
def f_Expander_sizeOfText_b4 (n : Nat) (a0 : Nat) (a1 : Nat) (h : hH) : (Int32 × Int32) → Option ((Int32 × Int32) ⊕ ((Int32))) := fun x =>
  let x2 := x.1
  let x3 := x.2
  (hgR h a1 7 4).bind fun v6 =>
  (v6).bind fun p9 =>
  (hgI h p9 8 2).bind fun v9 =>
  if v9 ≤ x3 then
    some (.inr x2)
  else
    (hgR h a1 7 4).bind fun v16 =>
    (v16).bind fun p20 =>
    (hObj h p20 8).bind fun c20 =>
    (f_Row_get p20 x3 h).bind fun v20 =>
    (f_Kind_argumentOf v20 h).bind fun v23 =>
    if v23 = 0 then
      f_Expander_sizeOfText_j63 n a0 a1 (x2 + (1 : Int32)) x3 h
    else
      (hgI h a1 7 0).bind fun v42 =>
      if v42 < v23 then
        f_Expander_sizeOfText_j63 n a0 a1 x2 x3 h
      else
        (hgR h a0 5 5).bind fun v50 =>
        (v50).bind fun p55 =>
        (hObj h p55 2).bind fun c55 =>
        (f_Arguments_argument p55 v23 h).bind fun v55 =>
        (v55).bind fun p58 =>
        (hgI h p58 8 2).bind fun v58 =>
        f_Expander_sizeOfText_j63 n a0 a1 (x2 + v58) x3 h
def f_Expander_sizeOfText (n : Nat) (a0 : Nat) (a1 : Nat) (h : hH) : Option (Int32) :=
  (hloopR (f_Expander_sizeOfText_b4 n a0 a1 h) n ((0 : Int32), (0 : Int32))).bind fun b4 =>
  let x2_4 := b4
  some x2_4
def f_Input_put (a0 : Nat) (i1 : Int32) (h : hH) : Option ((Unit) × hH) :=
  (hgI h a0 6 1).bind fun v1 =>
  if (3000 : Int32) ≤ v1 then
    some ((), h)
  else
    (hgR h a0 6 0).bind fun v11 =>
    (hgI h a0 6 1).bind fun v15 =>
    (v11).bind fun p19 =>
    (hsI h p19 0 v15 i1).bind fun h19 =>
    (hgI h19 a0 6 1).bind fun v22 =>
    (hpV h19 a0 6 1 (.int (v22 + (1 : Int32)))).bind fun h27 =>
    some ((), h27)
def f_Input_putAll_b7 (n : Nat) (a0 : Nat) (a1 : Nat) : (Int32) → hH → Option (((Int32) ⊕ ((Unit))) × hH) := fun x h =>
  let x2 := x
  if x2 < 0 then
    some (.inr (), h)
  else
    (hObj h a1 8).bind fun c14 =>
    (f_Row_get a1 x2 h).bind fun v14 =>
    (hObj h a0 6).bind fun c17 =>
    hbW (f_Input_put a0 v14 h) fun _ h17 =>
    some (.inl (x2 + (-1 : Int32)), h17)
def f_Input_putAll (n : Nat) (a0 : Nat) (a1 : Nat) (h : hH) : Option ((Unit) × hH) :=
  (hgI h a1 8 2).bind fun v1 =>
  hbW (hloopW (f_Input_putAll_b7 n a0 a1) n (v1 - (1 : Int32)) h) fun b7 h7l =>
  some ((), h7l)
def f_Expander_putText_j84 (n : Nat) (a0 : Nat) (a1 : Nat) (x2 : Int32) (h : hH) : Option (((Int32) ⊕ ((Unit))) × hH) :=
  some (.inl (x2 + (-1 : Int32)), h)
def f_Expander_putText_j53 (n : Nat) (a0 : Nat) (a1 : Nat) (x2 : Int32) (y0 : Option Nat) (y1 : Int32) (h : hH) : Option (((Int32) ⊕ ((Unit))) × hH) :=
  (y0).bind fun p53 =>
  (hObj h p53 6).bind fun c53 =>
  hbW (f_Input_put p53 y1 h) fun _ h53 =>
  f_Expander_putText_j84 n a0 a1 x2 h53
def f_Expander_putText_b10 (n : Nat) (a0 : Nat) (a1 : Nat) : (Int32) → hH → Option (((Int32) ⊕ ((Unit))) × hH) := fun x h =>
  let x2 := x
  if x2 < 0 then
    some (.inr (), h)
  else
    (hgR h a1 7 4).bind fun v15 =>
    (v15).bind fun p19 =>
    (hObj h p19 8).bind fun c19 =>
    (f_Row_get p19 x2 h).bind fun v19 =>
    (f_Kind_argumentOf v19 h).bind fun v24 =>
    if v24 = 0 then
      (hgR h a0 5 1).bind fun v35 =>
      (f_Kind_isParameter v19 h).bind fun v39 =>
      if v39 = 0 then
        f_Expander_putText_j53 n a0 a1 x2 v35 v19 h
      else
        f_Expander_putText_j53 n a0 a1 x2 v35 (v19 - (10 : Int32)) h
    else
      (hgI h a1 7 0).bind fun v62 =>
      if v62 < v24 then
        f_Expander_putText_j84 n a0 a1 x2 h
      else
        (hgR h a0 5 1).bind fun v69 =>
        (hgR h a0 5 5).bind fun v73 =>
        (v73).bind fun p78 =>
        (hObj h p78 2).bind fun c78 =>
        (f_Arguments_argument p78 v24 h).bind fun v78 =>
        (v69).bind fun p81 =>
        (v78).bind fun p81_0 =>
        (hObj h p81 6).bind fun c81 =>
        hbW (f_Input_putAll n p81 p81_0 h) fun _ h81 =>
        f_Expander_putText_j84 n a0 a1 x2 h81
def f_Expander_putText (n : Nat) (a0 : Nat) (a1 : Nat) (h : hH) : Option ((Unit) × hH) :=
  (hgR h a1 7 4).bind fun v1 =>
  (v1).bind fun p4 =>
  (hgI h p4 8 2).bind fun v4 =>
  hbW (hloopW (f_Expander_putText_b10 n a0 a1) n (v4 - (1 : Int32)) h) fun b10 h10l =>
  some ((), h10l)
def f_Arguments_sizeOfAll_b4 (n : Nat) (a0 : Nat) (x1 : Int32) (h : hH) : (Int32 × Int32) → Option ((Int32 × Int32) ⊕ ((Int32))) := fun x =>
  let x2 := x.1
  let x3 := x.2
  if x1 < x3 then
    some (.inr x2)
  else
    (hObj h a0 2).bind fun c12 =>
    (f_Arguments_argument a0 x3 h).bind fun v12 =>
    (v12).bind fun p15 =>
    (hgI h p15 8 2).bind fun v15 =>
    some (.inl ((x2 + v15), (x3 + (1 : Int32))))
def f_Arguments_sizeOfAll (n : Nat) (a0 : Nat) (i1 : Int32) (h : hH) : Option (Int32) :=
  (hloopR (f_Arguments_sizeOfAll_b4 n a0 i1 h) n ((0 : Int32), (1 : Int32))).bind fun b4 =>
  let x2_4 := b4
  some x2_4
def f_Trace_add (a0 : Nat) (i1 : Int32) (i2 : Int32) (i3 : Int32) (h : hH) : Option ((Unit) × hH) :=
  (hgI h a0 10 3).bind fun v1 =>
  if (100 : Int32) ≤ v1 then
    some ((), h)
  else
    (hgR h a0 10 0).bind fun v10 =>
    (hgI h a0 10 3).bind fun v14 =>
    (v10).bind fun p18 =>
    (hsI h p18 0 v14 i1).bind fun h18 =>
    (hgR h18 a0 10 1).bind fun v20 =>
    (hgI h18 a0 10 3).bind fun v24 =>
    (v20).bind fun p28 =>
    (hsI h18 p28 0 v24 i2).bind fun h28 =>
    (hgR h28 a0 10 2).bind fun v30 =>
    (hgI h28 a0 10 3).bind fun v34 =>
    (v30).bind fun p38 =>
    (hsI h28 p38 0 v34 i3).bind fun h38 =>
    (hgI h38 a0 10 3).bind fun v41 =>
    (hpV h38 a0 10 3 (.int (v41 + (1 : Int32)))).bind fun h46 =>
    some ((), h46)
def f_Expander_expandName_j82 (n : Nat) (a0 : Nat) (x1 : Int32) (a2 : Nat) (x3 : Int32) (x5 : Int32) (y0 : Int32) (nx : Nat) (h : hH) : hR ((Int32 × Int32) ⊕ ((Int32))) :=
  some (.inl (y0, (x5 + (1 : Int32))), 0, 0, h)
def f_Expander_expandName_b27 (n : Nat) (a0 : Nat) (x1 : Int32) (a2 : Nat) (x3 : Int32) : (Int32 × Int32) → Nat → hH → hR ((Int32 × Int32) ⊕ ((Int32))) := fun x nx h =>
  let x4 := x.1
  let x5 := x.2
  (hgI h a2 7 0).bind fun v30 =>
  if v30 < x5 then
    some (.inr x4, 0, 0, h)
  else
    if x4 = 0 then
      (hObj h a2 7).bind fun c44 =>
      (f_Macro_row a2 x5 h).bind fun v44 =>
      (v44).bind fun p51 =>
      (hgI h p51 8 2).bind fun v51 =>
      if v51 = 0 then
        (hgR h a0 5 5).bind fun v58 =>
        (v58).bind fun p64 =>
        (hObj h p64 2).bind fun c64 =>
        hbind (f_Arguments_readNext n p64 x5 a2 nx h) nx fun v64 nx64 h64 =>
        f_Expander_expandName_j82 n a0 x1 a2 x3 x5 v64 nx64 h64
      else
        (hgR h a0 5 5).bind fun v71 =>
        (v71).bind fun p79 =>
        (hObj h p79 2).bind fun c79 =>
        hbind (f_Arguments_readUpTo n p79 p51 x5 a2 nx h) nx fun v79 nx79 h79 =>
        f_Expander_expandName_j82 n a0 x1 a2 x3 x5 v79 nx79 h79
    else
      some (.inr x4, 0, 0, h)
def f_Expander_expandName (n : Nat) (a0 : Nat) (i1 : Int32) (a2 : Nat) (nx : Nat) (h : hH) : hR (Int32) :=
  (hgI h a0 5 13).bind fun v1 =>
  (hpV h a0 5 13 (.int i1)).bind fun h7 =>
  (hgR h7 a0 5 5).bind fun v11 =>
  (hObj h7 a2 7).bind fun c16 =>
  (f_Macro_row a2 (0 : Int32) h7).bind fun v16 =>
  (v11).bind fun p19 =>
  (v16).bind fun p19_0 =>
  (hObj h7 p19 2).bind fun c19 =>
  hbW (f_Arguments_readRow n p19 p19_0 h7) fun v19 h19 =>
  hbind (hloopA (f_Expander_expandName_b27 n a0 i1 a2 v1) n (v19, (1 : Int32)) nx h19) nx fun b27 nx27l h27l =>
  let x4_27 := b27
  if x4_27 = 0 then
    (hObj h27l a0 5).bind fun c100 =>
    (f_Expander_sizeOfText n a0 a2 h27l).bind fun v100 =>
    (hgR h27l a0 5 1).bind fun v111 =>
    (v111).bind fun p114 =>
    (hgI h27l p114 6 1).bind fun v114 =>
    if v100 ≤ ((3000 : Int32) - v114) then
      (hObj h27l a0 5).bind fun c126 =>
      hbW (f_Expander_putText n a0 a2 h27l) fun _ h126 =>
      (hgR h126 a0 5 4).bind fun v130 =>
      (hgR h126 a0 5 5).bind fun v135 =>
      (hgI h126 a2 7 0).bind fun v139 =>
      (v135).bind fun p142 =>
      (hObj h126 p142 2).bind fun c142 =>
      (f_Arguments_sizeOfAll n p142 v139 h126).bind fun v142 =>
      (v130).bind fun p147 =>
      (hObj h126 p147 10).bind fun c147 =>
      hbW (f_Trace_add p147 i1 v142 v100 h126) fun _ h147 =>
      (hpV h147 a0 5 13 (.int v1)).bind fun h152 =>
      some ((0 : Int32), 0, 0, h152)
    else
      some ((8 : Int32), 0, 0, h27l)
  else
    some (x4_27, 0, 0, h27l)
