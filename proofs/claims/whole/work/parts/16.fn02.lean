def f_Row_get (a0 : Nat) (i1 : Int32) (h : hH) : Option (Int32) :=
  if i1 < 0 then
    some (-1 : Int32)
  else
    (hgI h a0 8 2).bind fun v6 =>
    if v6 ≤ i1 then
      some (-1 : Int32)
    else
      (hgR h a0 8 1).bind fun v14 =>
      (v14).bind fun p17 =>
      (haL h p17 0).bind fun v17 =>
      if v17 ≤ i1 then
        some (-1 : Int32)
      else
        (hgR h a0 8 1).bind fun v22 =>
        (v22).bind fun p26 =>
        (haI h p26 0 i1).bind fun v26 =>
        some v26
def f_Arguments_readRow_b2 (n : Nat) (a0 : Nat) (a1 : Nat) : (Int32) → hH → Option (((Int32) ⊕ ((Unit) ⊕ (Unit) ⊕ (Unit) ⊕ (Unit))) × hH) := fun x h =>
  let x2 := x
  (hgI h a1 8 2).bind fun v4 =>
  if v4 ≤ x2 then
    some (.inr (.inr (.inr (.inr (())))), h)
  else
    (hgR h a0 2 0).bind fun v11 =>
    (v11).bind fun p14 =>
    (hObj h p14 6).bind fun c14 =>
    (f_Input_isEmpty p14 h).bind fun v14 =>
    if v14 = 0 then
      (hgR h a0 2 0).bind fun v23 =>
      (v23).bind fun p26 =>
      (hObj h p26 6).bind fun c26 =>
      hbW (f_Input_take p26 h) fun v26 h26 =>
      (hgR h26 a0 2 1).bind fun v31 =>
      (v31).bind fun p35 =>
      (hObj h26 p35 3).bind fun c35 =>
      (f_Book_isOuter p35 v26 h26).bind fun v35 =>
      if v35 = 0 then
        (hObj h26 a1 8).bind fun c46 =>
        (f_Row_get a1 x2 h26).bind fun v46 =>
        if v26 = v46 then
          some (.inl (x2 + (1 : Int32)), h26)
        else
          some (.inr (.inr (.inr (.inl ()))), h26)
      else
        some (.inr (.inr (.inl ())), h26)
    else
      some (.inr (.inl ()), h)
def f_Arguments_readRow (n : Nat) (a0 : Nat) (a1 : Nat) (h : hH) : Option ((Int32) × hH) :=
  hbW (hloopW (f_Arguments_readRow_b2 n a0 a1) n (0 : Int32) h) fun b2 h2l =>
  match b2 with
  | .inl z2 =>
    some ((1 : Int32), h2l)
  | .inr (.inl z2) =>
    some ((2 : Int32), h2l)
  | .inr (.inr (.inl z2)) =>
    some ((3 : Int32), h2l)
  | .inr (.inr (.inr (z2))) =>
    some ((0 : Int32), h2l)
def f_Arguments_argument (a0 : Nat) (i1 : Int32) (h : hH) : Option (Option Nat) :=
  (hgR h a0 2 2).bind fun v1 =>
  (hgR h a0 2 2).bind fun v9 =>
  (v9).bind fun p12 =>
  (haL h p12 3).bind fun v12 =>
  (v1).bind fun p21 =>
  (haR h p21 3 (if (0 : Int32) < (if (v12 - (1 : Int32)) < (i1 - (1 : Int32)) then (v12 - (1 : Int32)) else (i1 - (1 : Int32))) then (if (v12 - (1 : Int32)) < (i1 - (1 : Int32)) then (v12 - (1 : Int32)) else (i1 - (1 : Int32))) else (0 : Int32))).bind fun v21 =>
  some v21
def f_Arguments_isForbidden_j13 (a0 : Nat) (x1 : Int32) (h : hH) : Option (Int32) :=
  (hgR h a0 2 1).bind fun v14 =>
  (v14).bind fun p18 =>
  (hObj h p18 3).bind fun c18 =>
  (f_Book_isOuter p18 x1 h).bind fun v18 =>
  if v18 = 0 then
    some (0 : Int32)
  else
    some (1 : Int32)
def f_Arguments_isForbidden (a0 : Nat) (i1 : Int32) (a2 : Nat) (h : hH) : Option (Int32) :=
  if i1 = (10 : Int32) then
    (hgI h a2 7 1).bind fun v7 =>
    if v7 = 0 then
      some (1 : Int32)
    else
      f_Arguments_isForbidden_j13 a0 i1 h
  else
    f_Arguments_isForbidden_j13 a0 i1 h
def f_Kind_nesting (i0 : Int32) (h : hH) : Option (Int32) :=
  if i0 = (257 : Int32) then
    some (1 : Int32)
  else
    if i0 = (258 : Int32) then
      some (-1 : Int32)
    else
      some (0 : Int32)
def f_Arguments_readNext_j166 (n : Nat) (a0 : Nat) (a2 : Nat) (x3 : Option Nat) (x4 : Int32) (x5 : Int32) (nx : Nat) (h : hH) : hR ((Int32 × Int32) ⊕ ((Unit) ⊕ (Unit) ⊕ (Unit) ⊕ (Unit) ⊕ (Unit) ⊕ (Unit))) :=
  some (.inl (x4, (x5 + (1 : Int32))), 0, 0, h)
def f_Arguments_readNext_j143 (n : Nat) (a0 : Nat) (a2 : Nat) (x3 : Option Nat) (x4 : Int32) (x5 : Int32) (x6 : Int32) (nx : Nat) (h : hH) : hR ((Int32 × Int32) ⊕ ((Unit) ⊕ (Unit) ⊕ (Unit) ⊕ (Unit) ⊕ (Unit) ⊕ (Unit))) :=
  (x3).bind fun p144 =>
  (hObj h p144 8).bind fun c144 =>
  (f_Row_isFull p144 h).bind fun v144 =>
  if v144 = 0 then
    (hObj h p144 8).bind fun c156 =>
    hbind (f_Row_add p144 x6 nx h) nx fun _ nx156 h156 =>
    if x4 = 0 then
      some (.inr (.inr (.inr (.inr (.inr (.inl ()))))), 0, 0, h156)
    else
      f_Arguments_readNext_j166 n a0 a2 (some p144) x4 x5 nx156 h156
  else
    some (.inr (.inr (.inr (.inr (.inl ())))), 0, 0, h)
def f_Arguments_readNext_j130 (n : Nat) (a0 : Nat) (a2 : Nat) (x3 : Option Nat) (x4 : Int32) (x5 : Int32) (x6 : Int32) (x7 : Int32) (nx : Nat) (h : hH) : hR ((Int32 × Int32) ⊕ ((Unit) ⊕ (Unit) ⊕ (Unit) ⊕ (Unit) ⊕ (Unit) ⊕ (Unit))) :=
  if x7 = (1 : Int32) then
    if x4 = 0 then
      some (.inr (.inr (.inr (.inl ()))), 0, 0, h)
    else
      f_Arguments_readNext_j143 n a0 a2 x3 x4 x5 x6 nx h
  else
    f_Arguments_readNext_j143 n a0 a2 x3 x4 x5 x6 nx h
def f_Arguments_readNext_b55 (n : Nat) (a0 : Nat) (a2 : Nat) (x3 : Option Nat) : (Int32 × Int32) → Nat → hH → hR ((Int32 × Int32) ⊕ ((Unit) ⊕ (Unit) ⊕ (Unit) ⊕ (Unit) ⊕ (Unit) ⊕ (Unit))) := fun x nx h =>
  let x4 := x.1
  let x5 := x.2
  if (3000 : Int32) ≤ x5 then
    some (.inr (.inr (.inr (.inr (.inr (.inr (())))))), 0, 0, h)
  else
    (hgR h a0 2 0).bind fun v64 =>
    (v64).bind fun p67 =>
    (hObj h p67 6).bind fun c67 =>
    (f_Input_isEmpty p67 h).bind fun v67 =>
    if v67 = 0 then
      (hgR h a0 2 0).bind fun v74 =>
      (v74).bind fun p77 =>
      (hObj h p77 6).bind fun c77 =>
      hbW (f_Input_take p77 h) fun v77 h77 =>
      (hObj h77 a0 2).bind fun c86 =>
      (f_Arguments_isForbidden a0 v77 a2 h77).bind fun v86 =>
      if v86 = 0 then
        (f_Kind_nesting v77 h77).bind fun v102 =>
        if 0 ≤ (x4 + v102) then
          if x4 = 0 then
            if (x4 + v102) = (1 : Int32) then
              f_Arguments_readNext_j166 n a0 a2 x3 (x4 + v102) x5 nx h77
            else
              f_Arguments_readNext_j130 n a0 a2 x3 (x4 + v102) x5 v77 x4 nx h77
          else
            f_Arguments_readNext_j130 n a0 a2 x3 (x4 + v102) x5 v77 x4 nx h77
        else
          some (.inr (.inr (.inl ())), 0, 0, h77)
      else
        some (.inr (.inl ()), 0, 0, h77)
    else
      some (.inr (.inr (.inr (.inr (.inr (.inr (())))))), 0, 0, h)
def f_Arguments_readNext_b13 (n : Nat) (a0 : Nat) (a2 : Nat) (x3 : Option Nat) : (Int32) → Nat → hH → hR ((Int32) ⊕ ((Unit))) := fun x nx h =>
  let x4 := x
  if (3000 : Int32) ≤ x4 then
    some (.inr (), 0, 0, h)
  else
    (hgR h a0 2 0).bind fun v22 =>
    (v22).bind fun p26 =>
    (hObj h p26 6).bind fun c26 =>
    (f_Input_get p26 (0 : Int32) h).bind fun v26 =>
    if v26 = (256 : Int32) then
      (hgR h a0 2 0).bind fun v36 =>
      (v36).bind fun p39 =>
      (hObj h p39 6).bind fun c39 =>
      hbW (f_Input_take p39 h) fun v39 h39 =>
      some (.inl (x4 + (1 : Int32)), 0, 0, h39)
    else
      some (.inr (), 0, 0, h)
def f_Arguments_readNext (n : Nat) (a0 : Nat) (i1 : Int32) (a2 : Nat) (nx : Nat) (h : hH) : hR (Int32) :=
  (hObj h a0 2).bind fun c2 =>
  (f_Arguments_argument a0 i1 h).bind fun v2 =>
  (v2).bind fun p7 =>
  (hObj h p7 8).bind fun c7 =>
  hbW (f_Row_clear p7 h) fun _ h7 =>
  hbind (hloopA (f_Arguments_readNext_b13 n a0 a2 (some p7)) n (0 : Int32) nx h7) nx fun b13 nx13l h13l =>
  hbind (hloopA (f_Arguments_readNext_b55 n a0 a2 (some p7)) n ((0 : Int32), (0 : Int32)) nx13l h13l) nx13l fun b55 nx55l h55l =>
  match b55 with
  | .inl z55 =>
    some ((2 : Int32), 0, 0, h55l)
  | .inr (.inl z55) =>
    some ((7 : Int32), 0, 0, h55l)
  | .inr (.inr (.inl z55)) =>
    some ((0 : Int32), 0, 0, h55l)
  | .inr (.inr (.inr (.inl z55))) =>
    some ((8 : Int32), 0, 0, h55l)
  | .inr (.inr (.inr (.inr (.inl z55)))) =>
    some ((0 : Int32), 0, 0, h55l)
  | .inr (.inr (.inr (.inr (.inr (z55))))) =>
    some ((1 : Int32), 0, 0, h55l)
def f_Input_beginsWith_b15 (n : Nat) (a0 : Nat) (a1 : Nat) (h : hH) : (Int32) → Option ((Int32) ⊕ ((Unit) ⊕ (Unit))) := fun x =>
  let x2 := x
  (hgI h a1 8 2).bind fun v17 =>
  if v17 ≤ x2 then
    some (.inr (.inr (())))
  else
    (hObj h a0 6).bind fun c25 =>
    (f_Input_get a0 x2 h).bind fun v25 =>
    (hObj h a1 8).bind fun c30 =>
    (f_Row_get a1 x2 h).bind fun v30 =>
    if v25 = v30 then
      some (.inl (x2 + (1 : Int32)))
    else
      some (.inr (.inl ()))
def f_Input_beginsWith (n : Nat) (a0 : Nat) (a1 : Nat) (h : hH) : Option (Int32) :=
  (hgI h a1 8 2).bind fun v1 =>
  (hgI h a0 6 1).bind fun v5 =>
  if v1 ≤ v5 then
    (hloopR (f_Input_beginsWith_b15 n a0 a1 h) n (0 : Int32)).bind fun b15 =>
    match b15 with
    | .inl z15 =>
      some (0 : Int32)
    | .inr (z15) =>
      some (1 : Int32)
  else
    some (0 : Int32)
def f_Input_drop (a0 : Nat) (i1 : Int32) (h : hH) : Option ((Unit) × hH) :=
  (hgI h a0 6 1).bind fun v3 =>
  (hpV h a0 6 1 (.int (if (0 : Int32) < (v3 - (if (0 : Int32) < i1 then i1 else (0 : Int32))) then (v3 - (if (0 : Int32) < i1 then i1 else (0 : Int32))) else (0 : Int32)))).bind fun h15 =>
  some ((), h15)
def f_Row_leaveOutOuterPair_b40 (n : Nat) (a0 : Nat) : (Int32 × Int32) → hH → Option (((Int32 × Int32) ⊕ ((Unit) ⊕ (Unit))) × hH) := fun x h =>
  let x1 := x.1
  let x2 := x.2
  (hgI h a0 8 2).bind fun v42 =>
  if (v42 - (1 : Int32)) ≤ x2 then
    some (.inr (.inr (())), h)
  else
    (hObj h a0 8).bind fun c53 =>
    (f_Row_get a0 x2 h).bind fun v53 =>
    (f_Kind_nesting v53 h).bind fun v56 =>
    if (x1 + v56) = 0 then
      some (.inr (.inl ()), h)
    else
      some (.inl ((x1 + v56), (x2 + (1 : Int32))), h)
def f_Row_leaveOutOuterPair (n : Nat) (a0 : Nat) (h : hH) : Option ((Unit) × hH) :=
  (hgI h a0 8 2).bind fun v1 =>
  if v1 < (2 : Int32) then
    some ((), h)
  else
    (hObj h a0 8).bind fun c10 =>
    (f_Row_get a0 (0 : Int32) h).bind fun v10 =>
    if v10 = (257 : Int32) then
      (hgI h a0 8 2).bind fun v21 =>
      (hObj h a0 8).bind fun c26 =>
      (f_Row_get a0 (v21 - (1 : Int32)) h).bind fun v26 =>
      if v26 = (258 : Int32) then
        hbW (hloopW (f_Row_leaveOutOuterPair_b40 n a0) n ((0 : Int32), (0 : Int32)) h) fun b40 h40l =>
        match b40 with
        | .inl z40 =>
          some ((), h40l)
        | .inr (z40) =>
          (hgR h40l a0 8 1).bind fun v73 =>
          (hgR h40l a0 8 1).bind fun v78 =>
          (hgI h40l a0 8 2).bind fun v83 =>
          (v73).bind fun p88_0 =>
          (v78).bind fun p88_2 =>
          (hcpI h40l p88_0 (1 : Int32) p88_2 (0 : Int32) (v83 - (2 : Int32)) 0).bind fun h88 =>
          (hgI h88 a0 8 2).bind fun v93 =>
          (hpV h88 a0 8 2 (.int (v93 - (2 : Int32)))).bind fun h98 =>
          some ((), h98)
      else
        some ((), h)
    else
      some ((), h)
def f_Arguments_readUpTo_j70 (n : Nat) (a0 : Nat) (a1 : Nat) (a3 : Nat) (x4 : Option Nat) (x5 : Int32) (x6 : Int32) (nx : Nat) (h : hH) : hR ((Int32 × Int32) ⊕ ((Unit) ⊕ (Unit) ⊕ (Unit) ⊕ (Unit) ⊕ (Unit))) :=
  (hgR h a0 2 0).bind fun v71 =>
  (v71).bind fun p74 =>
  (hObj h p74 6).bind fun c74 =>
  hbW (f_Input_take p74 h) fun v74 h74 =>
  (hObj h74 a0 2).bind fun c83 =>
  (f_Arguments_isForbidden a0 v74 a3 h74).bind fun v83 =>
  if v83 = 0 then
    (f_Kind_nesting v74 h74).bind fun v95 =>
    if 0 ≤ (x5 + v95) then
      (x4).bind fun p111 =>
      (hObj h74 p111 8).bind fun c111 =>
      (f_Row_isFull p111 h74).bind fun v111 =>
      if v111 = 0 then
        (hObj h74 p111 8).bind fun c124 =>
        hbind (f_Row_add p111 v74 nx h74) nx fun _ nx124 h124 =>
        some (.inl ((x5 + v95), (x6 + (1 : Int32))), 0, 0, h124)
      else
        some (.inr (.inr (.inr (.inr (.inl ())))), 0, 0, h74)
    else
      some (.inr (.inr (.inr (.inl ()))), 0, 0, h74)
  else
    some (.inr (.inr (.inl ())), 0, 0, h74)
def f_Arguments_readUpTo_b18 (n : Nat) (a0 : Nat) (a1 : Nat) (a3 : Nat) (x4 : Option Nat) : (Int32 × Int32) → Nat → hH → hR ((Int32 × Int32) ⊕ ((Unit) ⊕ (Unit) ⊕ (Unit) ⊕ (Unit) ⊕ (Unit))) := fun x nx h =>
  let x5 := x.1
  let x6 := x.2
  if (3000 : Int32) ≤ x6 then
    some (.inr (.inr (.inr (.inr (.inr (()))))), 0, 0, h)
  else
    (hgR h a0 2 0).bind fun v27 =>
    (v27).bind fun p30 =>
    (hObj h p30 6).bind fun c30 =>
    (f_Input_isEmpty p30 h).bind fun v30 =>
    if v30 = 0 then
      if x5 = 0 then
        (hgR h a0 2 0).bind fun v42 =>
        (v42).bind fun p46 =>
        (hObj h p46 6).bind fun c46 =>
        (f_Input_beginsWith n p46 a1 h).bind fun v46 =>
        if v46 = 0 then
          f_Arguments_readUpTo_j70 n a0 a1 a3 x4 x5 x6 nx h
        else
          some (.inr (.inl ()), 0, 0, h)
      else
        f_Arguments_readUpTo_j70 n a0 a1 a3 x4 x5 x6 nx h
    else
      some (.inr (.inr (.inr (.inr (.inr (()))))), 0, 0, h)
def f_Arguments_readUpTo (n : Nat) (a0 : Nat) (a1 : Nat) (i2 : Int32) (a3 : Nat) (nx : Nat) (h : hH) : hR (Int32) :=
  (hObj h a0 2).bind fun c2 =>
  (f_Arguments_argument a0 i2 h).bind fun v2 =>
  (v2).bind fun p9 =>
  (hObj h p9 8).bind fun c9 =>
  hbW (f_Row_clear p9 h) fun _ h9 =>
  hbind (hloopA (f_Arguments_readUpTo_b18 n a0 a1 a3 (some p9)) n ((0 : Int32), (0 : Int32)) nx h9) nx fun b18 nx18l h18l =>
  match b18 with
  | .inl z18 =>
    (hgR h18l a0 2 0).bind fun v53 =>
    (hgI h18l a1 8 2).bind fun v57 =>
    (v53).bind fun p60 =>
    (hObj h18l p60 6).bind fun c60 =>
    hbW (f_Input_drop p60 v57 h18l) fun _ h60 =>
    (hObj h60 p9 8).bind fun c65 =>
    hbW (f_Row_leaveOutOuterPair n p9 h60) fun _ h65 =>
    some ((0 : Int32), 0, 0, h65)
  | .inr (.inl z18) =>
    some ((2 : Int32), 0, 0, h18l)
  | .inr (.inr (.inl z18)) =>
    some ((7 : Int32), 0, 0, h18l)
  | .inr (.inr (.inr (.inl z18))) =>
    some ((8 : Int32), 0, 0, h18l)
  | .inr (.inr (.inr (.inr (z18)))) =>
    some ((1 : Int32), 0, 0, h18l)
def f_Kind_argumentOf (i0 : Int32) (h : hH) : Option (Int32) :=
  if i0 ≤ (310 : Int32) then
    some (0 : Int32)
  else
    if (320 : Int32) ≤ i0 then
      some (0 : Int32)
    else
      some (i0 - (310 : Int32))
def f_Expander_sizeOfText_j63 (n : Nat) (a0 : Nat) (a1 : Nat) (x2 : Int32) (x3 : Int32) (h : hH) : Option ((Int32 × Int32) ⊕ ((Int32))) :=
  some (.inl (x2, (x3 + (1 : Int32))))
def f_Expander_sizeOfText_b4 (n : Nat) (a0 : Nat) (a1 : Nat) (h : hH) : (Int32 × Int32) → Option ((Int32 × Int32) ⊕ ((Int32))) := fun x =>
  let x2 := x.1
  let x3 := x.2
  (hgR h a1 7 4).bind fun v6 =>
  (v6).bind fun p9 =>
  (hgI h p9 8 2).bind fun v9 =>
  if v9 ≤ x3 then
    some (.inr x2)
  else
    (hgR h a1 7 4).bind fun v16 =>
    (v16).bind fun p20 =>
    (hObj h p20 8).bind fun c20 =>
    (f_Row_get p20 x3 h).bind fun v20 =>
    (f_Kind_argumentOf v20 h).bind fun v23 =>
    if v23 = 0 then
      f_Expander_sizeOfText_j63 n a0 a1 (x2 + (1 : Int32)) x3 h
    else
      (hgI h a1 7 0).bind fun v42 =>
      if v42 < v23 then
        f_Expander_sizeOfText_j63 n a0 a1 x2 x3 h
      else
        (hgR h a0 5 5).bind fun v50 =>
        (v50).bind fun p55 =>
        (hObj h p55 2).bind fun c55 =>
        (f_Arguments_argument p55 v23 h).bind fun v55 =>
        (v55).bind fun p58 =>
        (hgI h p58 8 2).bind fun v58 =>
        f_Expander_sizeOfText_j63 n a0 a1 (x2 + v58) x3 h
def f_Expander_sizeOfText (n : Nat) (a0 : Nat) (a1 : Nat) (h : hH) : Option (Int32) :=
  (hloopR (f_Expander_sizeOfText_b4 n a0 a1 h) n ((0 : Int32), (0 : Int32))).bind fun b4 =>
  let x2_4 := b4
  some x2_4
def f_Input_put (a0 : Nat) (i1 : Int32) (h : hH) : Option ((Unit) × hH) :=
  (hgI h a0 6 1).bind fun v1 =>
  if (3000 : Int32) ≤ v1 then
    some ((), h)
  else
    (hgR h a0 6 0).bind fun v11 =>
    (hgI h a0 6 1).bind fun v15 =>
    (v11).bind fun p19 =>
    (hsI h p19 0 v15 i1).bind fun h19 =>
    (hgI h19 a0 6 1).bind fun v22 =>
    (hpV h19 a0 6 1 (.int (v22 + (1 : Int32)))).bind fun h27 =>
    some ((), h27)
def f_Input_putAll_b7 (n : Nat) (a0 : Nat) (a1 : Nat) : (Int32) → hH → Option (((Int32) ⊕ ((Unit))) × hH) := fun x h =>
  let x2 := x
  if x2 < 0 then
    some (.inr (), h)
  else
    (hObj h a1 8).bind fun c14 =>
    (f_Row_get a1 x2 h).bind fun v14 =>
    (hObj h a0 6).bind fun c17 =>
    hbW (f_Input_put a0 v14 h) fun _ h17 =>
    some (.inl (x2 + (-1 : Int32)), h17)
def f_Input_putAll (n : Nat) (a0 : Nat) (a1 : Nat) (h : hH) : Option ((Unit) × hH) :=
  (hgI h a1 8 2).bind fun v1 =>
  hbW (hloopW (f_Input_putAll_b7 n a0 a1) n (v1 - (1 : Int32)) h) fun b7 h7l =>
  some ((), h7l)
def f_Expander_putText_j84 (n : Nat) (a0 : Nat) (a1 : Nat) (x2 : Int32) (h : hH) : Option (((Int32) ⊕ ((Unit))) × hH) :=
  some (.inl (x2 + (-1 : Int32)), h)
def f_Expander_putText_j53 (n : Nat) (a0 : Nat) (a1 : Nat) (x2 : Int32) (y0 : Option Nat) (y1 : Int32) (h : hH) : Option (((Int32) ⊕ ((Unit))) × hH) :=
  (y0).bind fun p53 =>
  (hObj h p53 6).bind fun c53 =>
  hbW (f_Input_put p53 y1 h) fun _ h53 =>
  f_Expander_putText_j84 n a0 a1 x2 h53
def f_Expander_putText_b10 (n : Nat) (a0 : Nat) (a1 : Nat) : (Int32) → hH → Option (((Int32) ⊕ ((Unit))) × hH) := fun x h =>
  let x2 := x
  if x2 < 0 then
    some (.inr (), h)
  else
    (hgR h a1 7 4).bind fun v15 =>
    (v15).bind fun p19 =>
    (hObj h p19 8).bind fun c19 =>
    (f_Row_get p19 x2 h).bind fun v19 =>
    (f_Kind_argumentOf v19 h).bind fun v24 =>
    if v24 = 0 then
      (hgR h a0 5 1).bind fun v35 =>
      (f_Kind_isParameter v19 h).bind fun v39 =>
      if v39 = 0 then
        f_Expander_putText_j53 n a0 a1 x2 v35 v19 h
      else
        f_Expander_putText_j53 n a0 a1 x2 v35 (v19 - (10 : Int32)) h
    else
      (hgI h a1 7 0).bind fun v62 =>
      if v62 < v24 then
        f_Expander_putText_j84 n a0 a1 x2 h
      else
        (hgR h a0 5 1).bind fun v69 =>
        (hgR h a0 5 5).bind fun v73 =>
        (v73).bind fun p78 =>
        (hObj h p78 2).bind fun c78 =>
        (f_Arguments_argument p78 v24 h).bind fun v78 =>
        (v69).bind fun p81 =>
        (v78).bind fun p81_0 =>
        (hObj h p81 6).bind fun c81 =>
        hbW (f_Input_putAll n p81 p81_0 h) fun _ h81 =>
        f_Expander_putText_j84 n a0 a1 x2 h81
def f_Expander_putText (n : Nat) (a0 : Nat) (a1 : Nat) (h : hH) : Option ((Unit) × hH) :=
  (hgR h a1 7 4).bind fun v1 =>
  (v1).bind fun p4 =>
  (hgI h p4 8 2).bind fun v4 =>
  hbW (hloopW (f_Expander_putText_b10 n a0 a1) n (v4 - (1 : Int32)) h) fun b10 h10l =>
  some ((), h10l)
def f_Arguments_sizeOfAll_b4 (n : Nat) (a0 : Nat) (x1 : Int32) (h : hH) : (Int32 × Int32) → Option ((Int32 × Int32) ⊕ ((Int32))) := fun x =>
  let x2 := x.1
  let x3 := x.2
  if x1 < x3 then
    some (.inr x2)
  else
    (hObj h a0 2).bind fun c12 =>
    (f_Arguments_argument a0 x3 h).bind fun v12 =>
    (v12).bind fun p15 =>
    (hgI h p15 8 2).bind fun v15 =>
    some (.inl ((x2 + v15), (x3 + (1 : Int32))))
def f_Arguments_sizeOfAll (n : Nat) (a0 : Nat) (i1 : Int32) (h : hH) : Option (Int32) :=
  (hloopR (f_Arguments_sizeOfAll_b4 n a0 i1 h) n ((0 : Int32), (1 : Int32))).bind fun b4 =>
  let x2_4 := b4
  some x2_4
def f_Trace_add (a0 : Nat) (i1 : Int32) (i2 : Int32) (i3 : Int32) (h : hH) : Option ((Unit) × hH) :=
  (hgI h a0 10 3).bind fun v1 =>
  if (100 : Int32) ≤ v1 then
    some ((), h)
  else
    (hgR h a0 10 0).bind fun v10 =>
    (hgI h a0 10 3).bind fun v14 =>
    (v10).bind fun p18 =>
    (hsI h p18 0 v14 i1).bind fun h18 =>
    (hgR h18 a0 10 1).bind fun v20 =>
    (hgI h18 a0 10 3).bind fun v24 =>
    (v20).bind fun p28 =>
    (hsI h18 p28 0 v24 i2).bind fun h28 =>
    (hgR h28 a0 10 2).bind fun v30 =>
    (hgI h28 a0 10 3).bind fun v34 =>
    (v30).bind fun p38 =>
    (hsI h28 p38 0 v34 i3).bind fun h38 =>
    (hgI h38 a0 10 3).bind fun v41 =>
    (hpV h38 a0 10 3 (.int (v41 + (1 : Int32)))).bind fun h46 =>
    some ((), h46)
def f_Expander_expandName_j82 (n : Nat) (a0 : Nat) (x1 : Int32) (a2 : Nat) (x3 : Int32) (x5 : Int32) (y0 : Int32) (nx : Nat) (h : hH) : hR ((Int32 × Int32) ⊕ ((Int32))) :=
  some (.inl (y0, (x5 + (1 : Int32))), 0, 0, h)
def f_Expander_expandName_b27 (n : Nat) (a0 : Nat) (x1 : Int32) (a2 : Nat) (x3 : Int32) : (Int32 × Int32) → Nat → hH → hR ((Int32 × Int32) ⊕ ((Int32))) := fun x nx h =>
  let x4 := x.1
  let x5 := x.2
  (hgI h a2 7 0).bind fun v30 =>
  if v30 < x5 then
    some (.inr x4, 0, 0, h)
  else
    if x4 = 0 then
      (hObj h a2 7).bind fun c44 =>
      (f_Macro_row a2 x5 h).bind fun v44 =>
      (v44).bind fun p51 =>
      (hgI h p51 8 2).bind fun v51 =>
      if v51 = 0 then
        (hgR h a0 5 5).bind fun v58 =>
        (v58).bind fun p64 =>
        (hObj h p64 2).bind fun c64 =>
        hbind (f_Arguments_readNext n p64 x5 a2 nx h) nx fun v64 nx64 h64 =>
        f_Expander_expandName_j82 n a0 x1 a2 x3 x5 v64 nx64 h64
      else
        (hgR h a0 5 5).bind fun v71 =>
        (v71).bind fun p79 =>
        (hObj h p79 2).bind fun c79 =>
        hbind (f_Arguments_readUpTo n p79 p51 x5 a2 nx h) nx fun v79 nx79 h79 =>
        f_Expander_expandName_j82 n a0 x1 a2 x3 x5 v79 nx79 h79
    else
      some (.inr x4, 0, 0, h)
def f_Expander_expandName (n : Nat) (a0 : Nat) (i1 : Int32) (a2 : Nat) (nx : Nat) (h : hH) : hR (Int32) :=
  (hgI h a0 5 13).bind fun v1 =>
  (hpV h a0 5 13 (.int i1)).bind fun h7 =>
  (hgR h7 a0 5 5).bind fun v11 =>
  (hObj h7 a2 7).bind fun c16 =>
  (f_Macro_row a2 (0 : Int32) h7).bind fun v16 =>
  (v11).bind fun p19 =>
  (v16).bind fun p19_0 =>
  (hObj h7 p19 2).bind fun c19 =>
  hbW (f_Arguments_readRow n p19 p19_0 h7) fun v19 h19 =>
  hbind (hloopA (f_Expander_expandName_b27 n a0 i1 a2 v1) n (v19, (1 : Int32)) nx h19) nx fun b27 nx27l h27l =>
  let x4_27 := b27
  if x4_27 = 0 then
    (hObj h27l a0 5).bind fun c100 =>
    (f_Expander_sizeOfText n a0 a2 h27l).bind fun v100 =>
    (hgR h27l a0 5 1).bind fun v111 =>
    (v111).bind fun p114 =>
    (hgI h27l p114 6 1).bind fun v114 =>
    if v100 ≤ ((3000 : Int32) - v114) then
      (hObj h27l a0 5).bind fun c126 =>
      hbW (f_Expander_putText n a0 a2 h27l) fun _ h126 =>
      (hgR h126 a0 5 4).bind fun v130 =>
      (hgR h126 a0 5 5).bind fun v135 =>
      (hgI h126 a2 7 0).bind fun v139 =>
      (v135).bind fun p142 =>
      (hObj h126 p142 2).bind fun c142 =>
      (f_Arguments_sizeOfAll n p142 v139 h126).bind fun v142 =>
      (v130).bind fun p147 =>
      (hObj h126 p147 10).bind fun c147 =>
      hbW (f_Trace_add p147 i1 v142 v100 h126) fun _ h147 =>
      (hpV h147 a0 5 13 (.int v1)).bind fun h152 =>
      some ((0 : Int32), 0, 0, h152)
    else
      some ((8 : Int32), 0, 0, h27l)
  else
    some (x4_27, 0, 0, h27l)
def f_Expander_expandFirst (n : Nat) (a0 : Nat) (nx : Nat) (h : hH) : hR (Int32) :=
  (hgI h a0 5 12).bind fun v1 =>
  (hgI h a0 5 0).bind fun v5 =>
  if v1 < v5 then
    (hgI h a0 5 12).bind fun v15 =>
    (hpV h a0 5 12 (.int (v15 + (1 : Int32)))).bind fun h20 =>
    (hgR h20 a0 5 1).bind fun v24 =>
    (v24).bind fun p27 =>
    (hObj h20 p27 6).bind fun c27 =>
    hbW (f_Input_take p27 h20) fun v27 h27 =>
    if v27 = (260 : Int32) then
      (hpZ h27 a0 5 11 (1 : Int32)).bind fun h40 =>
      (hgR h40 a0 5 1).bind fun v44 =>
      (v44).bind fun p47 =>
      (hObj h40 p47 6).bind fun c47 =>
      (f_Input_isEmpty p47 h40).bind fun v47 =>
      if v47 = 0 then
        some ((0 : Int32), 0, 0, h40)
      else
        some ((1 : Int32), 0, 0, h40)
    else
      if v27 = (261 : Int32) then
        (hObj h27 a0 5).bind fun c67 =>
        hbW (f_Expander_beginAfter a0 h27) fun v67 h67 =>
        some (v67, 0, 0, h67)
      else
        if v27 = (262 : Int32) then
          (hObj h27 a0 5).bind fun c79 =>
          hbW (f_Expander_beginNaming a0 h27) fun v79 h79 =>
          some (v79, 0, 0, h79)
        else
          (hgR h27 a0 5 2).bind fun v84 =>
          (v84).bind fun p88 =>
          (hObj h27 p88 3).bind fun c88 =>
          (f_Book_macroOf p88 v27 h27).bind fun v88 =>
          hNull v88
          (
            some ((0 : Int32), 0, 0, h27))
          fun p93 =>
            (hObj h27 a0 5).bind fun c103 =>
            hbind (f_Expander_expandName n a0 v27 p93 nx h27) nx fun v103 nx103 h103 =>
            some (v103, 0, 0, h103)
  else
    some ((5 : Int32), 0, 0, h)
def f_Expander_takeFirst (a0 : Nat) (h : hH) : Option ((Int32) × hH) :=
  (hpZ h a0 5 11 (0 : Int32)).bind fun h2 =>
  (hgR h2 a0 5 1).bind fun v6 =>
  (v6).bind fun p9 =>
  (hObj h2 p9 6).bind fun c9 =>
  hbW (f_Input_take p9 h2) fun v9 h9 =>
  some (v9, h9)
def f_Spelling_isSpelled_b16 (n : Nat) (a0 : Nat) (x1 : Int32) (a2 : Nat) (x3 : Int32) (x4 : Int32) (h : hH) : (Int32) → Option ((Int32) ⊕ ((Unit) ⊕ (Unit))) := fun x =>
  let x5 := x
  if x4 ≤ x5 then
    some (.inr (.inr (())))
  else
    (hgR h a0 9 0).bind fun v24 =>
    (v24).bind fun p34 =>
    (haI h p34 0 ((x1 * (8 : Int32)) + x5)).bind fun v34 =>
    (haI h a2 0 (x3 + x5)).bind fun v40 =>
    if v34 = v40 then
      some (.inl (x5 + (1 : Int32)))
    else
      some (.inr (.inl ()))
def f_Spelling_isSpelled (n : Nat) (a0 : Nat) (i1 : Int32) (a2 : Nat) (i3 : Int32) (i4 : Int32) (h : hH) : Option (Int32) :=
  (hgR h a0 9 1).bind fun v1 =>
  (v1).bind fun p5 =>
  (haI h p5 0 i1).bind fun v5 =>
  if v5 = i4 then
    (hloopR (f_Spelling_isSpelled_b16 n a0 i1 a2 i3 i4 h) n (0 : Int32)).bind fun b16 =>
    match b16 with
    | .inl z16 =>
      some (0 : Int32)
    | .inr (z16) =>
      some (1 : Int32)
  else
    some (0 : Int32)
def f_Spelling_numberOf_b27 (n : Nat) (a0 : Nat) (a1 : Nat) (x2 : Int32) (x3 : Int32) : (Int32) → hH → Option (((Int32) ⊕ ((Int32) ⊕ (Unit))) × hH) := fun x h =>
  let x4 := x
  (hgI h a0 9 2).bind fun v30 =>
  if v30 ≤ x4 then
    some (.inr (.inr (())), h)
  else
    (hObj h a0 9).bind fun c42 =>
    (f_Spelling_isSpelled n a0 x4 a1 x2 x3 h).bind fun v42 =>
    if v42 = 0 then
      some (.inl (x4 + (1 : Int32)), h)
    else
      some (.inr (.inl x4), h)
def f_Spelling_numberOf (n : Nat) (a0 : Nat) (a1 : Nat) (i2 : Int32) (i3 : Int32) (h : hH) : Option ((Int32) × hH) :=
  if i2 < 0 then
    some ((-1 : Int32), h)
  else
    if i3 < 0 then
      some ((-1 : Int32), h)
    else
      if (8 : Int32) < i3 then
        some ((-1 : Int32), h)
      else
        (haL h a1 0).bind fun v16 =>
        if i2 ≤ (v16 - i3) then
          hbW (hloopW (f_Spelling_numberOf_b27 n a0 a1 i2 i3) n (0 : Int32) h) fun b27 h27l =>
          match b27 with
          | .inl z27 =>
            let x4_27 := z27
            some (x4_27, h27l)
          | .inr (z27) =>
            (hgI h27l a0 9 2).bind fun v58 =>
            if v58 < (100 : Int32) then
              (hgR h27l a0 9 0).bind fun v71 =>
              (hgI h27l a0 9 2).bind fun v75 =>
              (v71).bind fun p82_2 =>
              (hcpI h27l a1 i2 p82_2 (v75 * (8 : Int32)) i3 0).bind fun h82 =>
              (hgR h82 a0 9 1).bind fun v86 =>
              (hgI h82 a0 9 2).bind fun v90 =>
              (v86).bind fun p94 =>
              (hsI h82 p94 0 v90 i3).bind fun h94 =>
              (hgI h94 a0 9 2).bind fun v97 =>
              (hpV h94 a0 9 2 (.int (v97 + (1 : Int32)))).bind fun h102 =>
              (hgI h102 a0 9 2).bind fun v106 =>
              some ((v106 - (1 : Int32)), h102)
            else
              some ((-1 : Int32), h27l)
        else
          some ((-1 : Int32), h)
def f_Expander_endNaming (n : Nat) (a0 : Nat) (i1 : Int32) (i2 : Int32) (h : hH) : Option ((Int32) × hH) :=
  if i2 = 0 then
    some ((4 : Int32), h)
  else
    (hgR h a0 5 3).bind fun v7 =>
    (hgR h a0 5 7).bind fun v11 =>
    (v7).bind fun p19 =>
    (v11).bind fun p19_0 =>
    (hObj h p19 9).bind fun c19 =>
    hbW (f_Spelling_numberOf n p19 p19_0 (i1 * (8 : Int32)) i2 h) fun v19 h19 =>
    if v19 = (-1 : Int32) then
      some ((8 : Int32), h19)
    else
      (hgI h19 a0 5 9).bind fun v33 =>
      (hpV h19 a0 5 9 (.int (v33 - (1 : Int32)))).bind fun h38 =>
      (hgR h38 a0 5 1).bind fun v42 =>
      (v42).bind fun p50 =>
      (hObj h38 p50 6).bind fun c50 =>
      hbW (f_Input_put p50 ((1100 : Int32) + v19) h38) fun _ h50 =>
      some ((0 : Int32), h50)
def f_Kind_isSign (i0 : Int32) (h : hH) : Option (Int32) :=
  if i0 < 0 then
    some (0 : Int32)
  else
    if (255 : Int32) < i0 then
      some (0 : Int32)
    else
      some (1 : Int32)
def f_Expander_goOnNaming (n : Nat) (a0 : Nat) (h : hH) : Option ((Int32) × hH) :=
  (hgR h a0 5 1).bind fun v1 =>
  (v1).bind fun p4 =>
  (hObj h p4 6).bind fun c4 =>
  (f_Input_isEmpty p4 h).bind fun v4 =>
  if v4 = 0 then
    (hObj h a0 5).bind fun c13 =>
    hbW (f_Expander_takeFirst a0 h) fun v13 h13 =>
    (hgI h13 a0 5 9).bind fun v18 =>
    (hgR h13 a0 5 8).bind fun v25 =>
    (v25).bind fun p29 =>
    (haI h13 p29 0 (v18 - (1 : Int32))).bind fun v29 =>
    if v13 = (263 : Int32) then
      (hObj h13 a0 5).bind fun c41 =>
      hbW (f_Expander_endNaming n a0 (v18 - (1 : Int32)) v29 h13) fun v41 h41 =>
      some (v41, h41)
    else
      (f_Kind_isSign v13 h13).bind fun v46 =>
      if v46 = 0 then
        some ((4 : Int32), h13)
      else
        if v29 < (8 : Int32) then
          (hgR h13 a0 5 7).bind fun v61 =>
          (v61).bind fun p71 =>
          (hsI h13 p71 0 (((v18 - (1 : Int32)) * (8 : Int32)) + v29) v13).bind fun h71 =>
          (hgR h71 a0 5 8).bind fun v73 =>
          (v73).bind fun p80 =>
          (hsI h71 p80 0 (v18 - (1 : Int32)) (v29 + (1 : Int32))).bind fun h80 =>
          some ((0 : Int32), h80)
        else
          some ((4 : Int32), h13)
  else
    some ((1 : Int32), h)
