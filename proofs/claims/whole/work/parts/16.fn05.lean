def f_Expander_expandFirst (n : Nat) (a0 : Nat) (nx : Nat) (h : hH) : hR (Int32) :=
  (hgI h a0 5 12).bind fun v1 =>
  (hgI h a0 5 0).bind fun v5 =>
  if v1 < v5 then
    (hgI h a0 5 12).bind fun v15 =>
    (hpV h a0 5 12 (.int (v15 + (1 : Int32)))).bind fun h20 =>
    (hgR h20 a0 5 1).bind fun v24 =>
    (v24).bind fun p27 =>
    (hObj h20 p27 6).bind fun c27 =>
    hbW (f_Input_take p27 h20) fun v27 h27 =>
    if v27 = (260 : Int32) then
      (hpZ h27 a0 5 11 (1 : Int32)).bind fun h40 =>
      (hgR h40 a0 5 1).bind fun v44 =>
      (v44).bind fun p47 =>
      (hObj h40 p47 6).bind fun c47 =>
      (f_Input_isEmpty p47 h40).bind fun v47 =>
      if v47 = 0 then
        some ((0 : Int32), 0, 0, h40)
      else
        some ((1 : Int32), 0, 0, h40)
    else
      if v27 = (261 : Int32) then
        (hObj h27 a0 5).bind fun c67 =>
        hbW (f_Expander_beginAfter a0 h27) fun v67 h67 =>
        some (v67, 0, 0, h67)
      else
        if v27 = (262 : Int32) then
          (hObj h27 a0 5).bind fun c79 =>
          hbW (f_Expander_beginNaming a0 h27) fun v79 h79 =>
          some (v79, 0, 0, h79)
        else
          (hgR h27 a0 5 2).bind fun v84 =>
          (v84).bind fun p88 =>
          (hObj h27 p88 3).bind fun c88 =>
          (f_Book_macroOf p88 v27 h27).bind fun v88 =>
          hNull v88
          (
            some ((0 : Int32), 0, 0, h27))
          fun p93 =>
            (hObj h27 a0 5).bind fun c103 =>
            hbind (f_Expander_expandName n a0 v27 p93 nx h27) nx fun v103 nx103 h103 =>
            some (v103, 0, 0, h103)
  else
    some ((5 : Int32), 0, 0, h)
def f_Expander_takeFirst (a0 : Nat) (h : hH) : Option ((Int32) × hH) :=
  (hpZ h a0 5 11 (0 : Int32)).bind fun h2 =>
  (hgR h2 a0 5 1).bind fun v6 =>
  (v6).bind fun p9 =>
  (hObj h2 p9 6).bind fun c9 =>
  hbW (f_Input_take p9 h2) fun v9 h9 =>
  some (v9, h9)
def f_Spelling_isSpelled_b16 (n : Nat) (a0 : Nat) (x1 : Int32) (a2 : Nat) (x3 : Int32) (x4 : Int32) (h : hH) : (Int32) → Option ((Int32) ⊕ ((Unit) ⊕ (Unit))) := fun x =>
  let x5 := x
  if x4 ≤ x5 then
    some (.inr (.inr (())))
  else
    (hgR h a0 9 0).bind fun v24 =>
    (v24).bind fun p34 =>
    (haI h p34 0 ((x1 * (8 : Int32)) + x5)).bind fun v34 =>
    (haI h a2 0 (x3 + x5)).bind fun v40 =>
    if v34 = v40 then
      some (.inl (x5 + (1 : Int32)))
    else
      some (.inr (.inl ()))
def f_Spelling_isSpelled (n : Nat) (a0 : Nat) (i1 : Int32) (a2 : Nat) (i3 : Int32) (i4 : Int32) (h : hH) : Option (Int32) :=
  (hgR h a0 9 1).bind fun v1 =>
  (v1).bind fun p5 =>
  (haI h p5 0 i1).bind fun v5 =>
  if v5 = i4 then
    (hloopR (f_Spelling_isSpelled_b16 n a0 i1 a2 i3 i4 h) n (0 : Int32)).bind fun b16 =>
    match b16 with
    | .inl z16 =>
      some (0 : Int32)
    | .inr (z16) =>
      some (1 : Int32)
  else
    some (0 : Int32)
def f_Spelling_numberOf_b27 (n : Nat) (a0 : Nat) (a1 : Nat) (x2 : Int32) (x3 : Int32) : (Int32) → hH → Option (((Int32) ⊕ ((Int32) ⊕ (Unit))) × hH) := fun x h =>
  let x4 := x
  (hgI h a0 9 2).bind fun v30 =>
  if v30 ≤ x4 then
    some (.inr (.inr (())), h)
  else
    (hObj h a0 9).bind fun c42 =>
    (f_Spelling_isSpelled n a0 x4 a1 x2 x3 h).bind fun v42 =>
    if v42 = 0 then
      some (.inl (x4 + (1 : Int32)), h)
    else
      some (.inr (.inl x4), h)
def f_Spelling_numberOf (n : Nat) (a0 : Nat) (a1 : Nat) (i2 : Int32) (i3 : Int32) (h : hH) : Option ((Int32) × hH) :=
  if i2 < 0 then
    some ((-1 : Int32), h)
  else
    if i3 < 0 then
      some ((-1 : Int32), h)
    else
      if (8 : Int32) < i3 then
        some ((-1 : Int32), h)
      else
        (haL h a1 0).bind fun v16 =>
        if i2 ≤ (v16 - i3) then
          hbW (hloopW (f_Spelling_numberOf_b27 n a0 a1 i2 i3) n (0 : Int32) h) fun b27 h27l =>
          match b27 with
          | .inl z27 =>
            let x4_27 := z27
            some (x4_27, h27l)
          | .inr (z27) =>
            (hgI h27l a0 9 2).bind fun v58 =>
            if v58 < (100 : Int32) then
              (hgR h27l a0 9 0).bind fun v71 =>
              (hgI h27l a0 9 2).bind fun v75 =>
              (v71).bind fun p82_2 =>
              (hcpI h27l a1 i2 p82_2 (v75 * (8 : Int32)) i3 0).bind fun h82 =>
              (hgR h82 a0 9 1).bind fun v86 =>
              (hgI h82 a0 9 2).bind fun v90 =>
              (v86).bind fun p94 =>
              (hsI h82 p94 0 v90 i3).bind fun h94 =>
              (hgI h94 a0 9 2).bind fun v97 =>
              (hpV h94 a0 9 2 (.int (v97 + (1 : Int32)))).bind fun h102 =>
              (hgI h102 a0 9 2).bind fun v106 =>
              some ((v106 - (1 : Int32)), h102)
            else
              some ((-1 : Int32), h27l)
        else
          some ((-1 : Int32), h)
def f_Expander_endNaming (n : Nat) (a0 : Nat) (i1 : Int32) (i2 : Int32) (h : hH) : Option ((Int32) × hH) :=
  if i2 = 0 then
    some ((4 : Int32), h)
  else
    (hgR h a0 5 3).bind fun v7 =>
    (hgR h a0 5 7).bind fun v11 =>
    (v7).bind fun p19 =>
    (v11).bind fun p19_0 =>
    (hObj h p19 9).bind fun c19 =>
    hbW (f_Spelling_numberOf n p19 p19_0 (i1 * (8 : Int32)) i2 h) fun v19 h19 =>
    if v19 = (-1 : Int32) then
      some ((8 : Int32), h19)
    else
      (hgI h19 a0 5 9).bind fun v33 =>
      (hpV h19 a0 5 9 (.int (v33 - (1 : Int32)))).bind fun h38 =>
      (hgR h38 a0 5 1).bind fun v42 =>
      (v42).bind fun p50 =>
      (hObj h38 p50 6).bind fun c50 =>
      hbW (f_Input_put p50 ((1100 : Int32) + v19) h38) fun _ h50 =>
      some ((0 : Int32), h50)
def f_Kind_isSign (i0 : Int32) (h : hH) : Option (Int32) :=
  if i0 < 0 then
    some (0 : Int32)
  else
    if (255 : Int32) < i0 then
      some (0 : Int32)
    else
      some (1 : Int32)
def f_Expander_goOnNaming (n : Nat) (a0 : Nat) (h : hH) : Option ((Int32) × hH) :=
  (hgR h a0 5 1).bind fun v1 =>
  (v1).bind fun p4 =>
  (hObj h p4 6).bind fun c4 =>
  (f_Input_isEmpty p4 h).bind fun v4 =>
  if v4 = 0 then
    (hObj h a0 5).bind fun c13 =>
    hbW (f_Expander_takeFirst a0 h) fun v13 h13 =>
    (hgI h13 a0 5 9).bind fun v18 =>
    (hgR h13 a0 5 8).bind fun v25 =>
    (v25).bind fun p29 =>
    (haI h13 p29 0 (v18 - (1 : Int32))).bind fun v29 =>
    if v13 = (263 : Int32) then
      (hObj h13 a0 5).bind fun c41 =>
      hbW (f_Expander_endNaming n a0 (v18 - (1 : Int32)) v29 h13) fun v41 h41 =>
      some (v41, h41)
    else
      (f_Kind_isSign v13 h13).bind fun v46 =>
      if v46 = 0 then
        some ((4 : Int32), h13)
      else
        if v29 < (8 : Int32) then
          (hgR h13 a0 5 7).bind fun v61 =>
          (v61).bind fun p71 =>
          (hsI h13 p71 0 (((v18 - (1 : Int32)) * (8 : Int32)) + v29) v13).bind fun h71 =>
          (hgR h71 a0 5 8).bind fun v73 =>
          (v73).bind fun p80 =>
          (hsI h71 p80 0 (v18 - (1 : Int32)) (v29 + (1 : Int32))).bind fun h80 =>
          some ((0 : Int32), h80)
        else
          some ((4 : Int32), h13)
  else
    some ((1 : Int32), h)
def f_Expander_putBack (a0 : Nat) (h : hH) : Option ((Int32) × hH) :=
  (hgR h a0 5 1).bind fun v1 =>
  (v1).bind fun p4 =>
  (hObj h p4 6).bind fun c4 =>
  (f_Input_isFull p4 h).bind fun v4 =>
  if v4 = 0 then
    (hgI h a0 5 9).bind fun v15 =>
    (hpV h a0 5 9 (.int (v15 - (1 : Int32)))).bind fun h20 =>
    (hpZ h20 a0 5 11 (0 : Int32)).bind fun h25 =>
    (hgR h25 a0 5 1).bind fun v29 =>
    (hgR h25 a0 5 6).bind fun v33 =>
    (hgI h25 a0 5 9).bind fun v37 =>
    (v33).bind fun p40 =>
    (haI h25 p40 0 v37).bind fun v40 =>
    (v29).bind fun p41 =>
    (hObj h25 p41 6).bind fun c41 =>
    hbW (f_Input_put p41 v40 h25) fun _ h41 =>
    some ((0 : Int32), h41)
  else
    some ((8 : Int32), h)
def f_Expander_expandOnce_j104 (n : Nat) (a0 : Nat) (x1 : Int32) (x2 : Int32) (nx : Nat) (h : hH) : hR ((Int32 × Int32) ⊕ ((Int32))) :=
  some (.inl (x1, (x2 + (1 : Int32))), 0, 0, h)
def f_Expander_expandOnce_j103 (n : Nat) (a0 : Nat) (x2 : Int32) (y0 : Int32) (nx : Nat) (h : hH) : hR ((Int32 × Int32) ⊕ ((Int32))) :=
  f_Expander_expandOnce_j104 n a0 y0 x2 nx h
def f_Expander_expandOnce_j88 (n : Nat) (a0 : Nat) (x2 : Int32) (x3 : Int32) (nx : Nat) (h : hH) : hR ((Int32 × Int32) ⊕ ((Int32))) :=
  if x3 = 0 then
    (hObj h a0 5).bind fun c100 =>
    hbW (f_Expander_putBack a0 h) fun v100 h100 =>
    f_Expander_expandOnce_j103 n a0 x2 v100 nx h100
  else
    (hObj h a0 5).bind fun c93 =>
    hbW (f_Expander_goOnNaming n a0 h) fun v93 h93 =>
    f_Expander_expandOnce_j103 n a0 x2 v93 nx h93
def f_Expander_expandOnce_j61 (n : Nat) (a0 : Nat) (x2 : Int32) (x3 : Int32) (y0 : Int32) (nx : Nat) (h : hH) : hR ((Int32 × Int32) ⊕ ((Int32))) :=
  (hpZ h a0 5 10 (0 : Int32)).bind fun h65 =>
  if y0 = 0 then
    f_Expander_expandOnce_j88 n a0 x2 x3 nx h65
  else
    (hObj h65 a0 5).bind fun c74 =>
    (f_Expander_canExpand a0 h65).bind fun v74 =>
    if v74 = 0 then
      f_Expander_expandOnce_j88 n a0 x2 x3 nx h65
    else
      (hObj h65 a0 5).bind fun c81 =>
      hbind (f_Expander_expandFirst n a0 nx h65) nx fun v81 nx81 h81 =>
      f_Expander_expandOnce_j104 n a0 v81 x2 nx81 h81
def f_Expander_expandOnce_j56 (n : Nat) (a0 : Nat) (x2 : Int32) (x3 : Int32) (nx : Nat) (h : hH) : hR ((Int32 × Int32) ⊕ ((Int32))) :=
  f_Expander_expandOnce_j61 n a0 x2 x3 (1 : Int32) nx h
def f_Expander_expandOnce_j44 (n : Nat) (a0 : Nat) (x2 : Int32) (y0 : Int32) (nx : Nat) (h : hH) : hR ((Int32 × Int32) ⊕ ((Int32))) :=
  if y0 = 0 then
    (hgI h a0 5 10).bind fun v50 =>
    if v50 = 0 then
      f_Expander_expandOnce_j61 n a0 x2 y0 (0 : Int32) nx h
    else
      f_Expander_expandOnce_j56 n a0 x2 y0 nx h
  else
    f_Expander_expandOnce_j56 n a0 x2 y0 nx h
def f_Expander_expandOnce_b7 (n : Nat) (a0 : Nat) : (Int32 × Int32) → Nat → hH → hR ((Int32 × Int32) ⊕ ((Int32))) := fun x nx h =>
  let x1 := x.1
  let x2 := x.2
  if (1000000 : Int32) ≤ x2 then
    some (.inr x1, 0, 0, h)
  else
    if x1 = 0 then
      (hgI h a0 5 9).bind fun v18 =>
      if v18 ≤ 0 then
        some (.inr x1, 0, 0, h)
      else
        (hgR h a0 5 6).bind fun v25 =>
        (hgI h a0 5 9).bind fun v29 =>
        (v25).bind fun p34 =>
        (haI h p34 0 (v29 - (1 : Int32))).bind fun v34 =>
        if v34 = (-1 : Int32) then
          f_Expander_expandOnce_j44 n a0 x2 (1 : Int32) nx h
        else
          f_Expander_expandOnce_j44 n a0 x2 (0 : Int32) nx h
    else
      some (.inr x1, 0, 0, h)
def f_Expander_expandOnce (n : Nat) (a0 : Nat) (nx : Nat) (h : hH) : hR (Int32) :=
  (hObj h a0 5).bind fun c1 =>
  hbind (f_Expander_expandFirst n a0 nx h) nx fun v1 nx1 h1 =>
  hbind (hloopA (f_Expander_expandOnce_b7 n a0) n (v1, (0 : Int32)) nx1 h1) nx1 fun b7 nx7l h7l =>
  let x1_7 := b7
  some (x1_7, 0, 0, h7l)
def f_Definition_acceptName (a0 : Nat) (i1 : Int32) (h : hH) : Option ((Int32) × hH) :=
  (f_Kind_isName i1 h).bind fun v1 =>
  if v1 = 0 then
    some ((6 : Int32), h)
  else
    (hpV h a0 4 4 (.int i1)).bind fun h12 =>
    (hpV h12 a0 4 2 (.int (2 : Int32))).bind fun h17 =>
    some ((0 : Int32), h17)
def f_Definition_addTo (a0 : Nat) (i1 : Int32) (nx : Nat) (h : hH) : hR (Int32) :=
  (hObj h a0 8).bind fun c1 =>
  (f_Row_isFull a0 h).bind fun v1 =>
  if v1 = 0 then
    (hObj h a0 8).bind fun c12 =>
    hbind (f_Row_add a0 i1 nx h) nx fun _ nx12 h12 =>
    some ((0 : Int32), 0, 0, h12)
  else
    some ((8 : Int32), 0, 0, h)
def f_Definition_acceptInRows (a0 : Nat) (i1 : Int32) (nx : Nat) (h : hH) : hR (Int32) :=
  if i1 = (257 : Int32) then
    (hpV h a0 4 2 (.int (3 : Int32))).bind fun h9 =>
    some ((0 : Int32), 0, 0, h9)
  else
    if i1 = (258 : Int32) then
      some ((6 : Int32), 0, 0, h)
    else
      (f_Kind_isParameter i1 h).bind fun v25 =>
      if v25 = 0 then
        (hgR h a0 4 0).bind fun v60 =>
        (hgI h a0 4 5).bind fun v65 =>
        (hgR h a0 4 0).bind fun v69 =>
        (v69).bind fun p72 =>
        (haL h p72 3).bind fun v72 =>
        (v60).bind fun p81 =>
        (haR h p81 3 (if (0 : Int32) < (if (v72 - (1 : Int32)) < v65 then (v72 - (1 : Int32)) else v65) then (if (v72 - (1 : Int32)) < v65 then (v72 - (1 : Int32)) else v65) else (0 : Int32))).bind fun v81 =>
        (v81).bind fun p83_0 =>
        hbind (f_Definition_addTo p83_0 i1 nx h) nx fun v83 nx83 h83 =>
        some (v83, 0, 0, h83)
      else
        (f_Kind_argumentOf i1 h).bind fun v32 =>
        (hgI h a0 4 5).bind fun v36 =>
        if v32 = (v36 + (1 : Int32)) then
          (hgI h a0 4 5).bind fun v49 =>
          (hpV h a0 4 5 (.int (v49 + (1 : Int32)))).bind fun h54 =>
          some ((0 : Int32), 0, 0, h54)
        else
          some ((6 : Int32), 0, 0, h)
def f_Definition_acceptInText (a0 : Nat) (i1 : Int32) (nx : Nat) (h : hH) : hR (Int32) :=
  (hgI h a0 4 6).bind fun v2 =>
  (f_Kind_nesting i1 h).bind fun v6 =>
  (hpV h a0 4 6 (.int (v2 + v6))).bind fun h10 =>
  (hgI h10 a0 4 6).bind fun v14 =>
  if v14 = 0 then
    (hpV h10 a0 4 2 (.int (4 : Int32))).bind fun h22 =>
    some ((0 : Int32), 0, 0, h22)
  else
    (f_Kind_argumentOf i1 h10).bind fun v28 =>
    (hgI h10 a0 4 5).bind fun v32 =>
    if v28 ≤ v32 then
      (hgR h10 a0 4 1).bind fun v42 =>
      (v42).bind fun p46_0 =>
      hbind (f_Definition_addTo p46_0 i1 nx h10) nx fun v46 nx46 h46 =>
      some (v46, 0, 0, h46)
    else
      some ((6 : Int32), 0, 0, h10)
def f_Definition_accept (a0 : Nat) (i1 : Int32) (nx : Nat) (h : hH) : hR (Int32) :=
  (hgI h a0 4 2).bind fun v1 =>
  if v1 = (1 : Int32) then
    (hObj h a0 4).bind fun c10 =>
    hbW (f_Definition_acceptName a0 i1 h) fun v10 h10 =>
    some (v10, 0, 0, h10)
  else
    (hgI h a0 4 2).bind fun v15 =>
    if v15 = (2 : Int32) then
      (hObj h a0 4).bind fun c24 =>
      hbind (f_Definition_acceptInRows a0 i1 nx h) nx fun v24 nx24 h24 =>
      some (v24, 0, 0, h24)
    else
      (hObj h a0 4).bind fun c32 =>
      hbind (f_Definition_acceptInText a0 i1 nx h) nx fun v32 nx32 h32 =>
      some (v32, 0, 0, h32)
def f_Definition_isRead (a0 : Nat) (h : hH) : Option (Int32) :=
  (hgI h a0 4 2).bind fun v1 =>
  if v1 = (4 : Int32) then
    some (1 : Int32)
  else
    some (0 : Int32)
def f_Row_copyFrom (a0 : Nat) (a1 : Nat) (nx : Nat) (h : hH) : hR (Unit) :=
  (hgR h a1 8 1).bind fun v2 =>
  (hgI h a1 8 2).bind fun v6 =>
  (hgI h a0 8 0).bind fun v10 =>
  (v2).bind fun p16_0 =>
  hbind (f_Arrays_copyOf p16_0 (if v10 < v6 then v10 else v6) nx h) nx fun v16 nx16 h16 =>
  (hpV h16 a0 8 1 (va_rf v16)).bind fun h19 =>
  (hgR h19 a0 8 1).bind fun v24 =>
  (v24).bind fun p27 =>
  (haL h19 p27 0).bind fun v27 =>
  (hpV h19 a0 8 2 (.int v27)).bind fun h28 =>
  some ((), 0, 0, h28)
def f_Definition_toMacro_b15 (n : Nat) (a0 : Nat) (x2 : Option Nat) : (Int32) → Nat → hH → hR ((Int32) ⊕ ((Unit))) := fun x nx h =>
  let x3 := x
  (hgI h a0 4 5).bind fun v17 =>
  if v17 < x3 then
    some (.inr (), 0, 0, h)
  else
    (hgR h a0 4 0).bind fun v25 =>
    (v25).bind fun p28 =>
    (haL h p28 3).bind fun v28 =>
    if v28 ≤ x3 then
      some (.inr (), 0, 0, h)
    else
      (x2).bind fun p34 =>
      (hObj h p34 7).bind fun c34 =>
      (f_Macro_row p34 x3 h).bind fun v34 =>
      (hgR h a0 4 0).bind fun v38 =>
      (v38).bind fun p42 =>
      (haR h p42 3 x3).bind fun v42 =>
      (v34).bind fun p43 =>
      (v42).bind fun p43_0 =>
      (hObj h p43 8).bind fun c43 =>
      hbind (f_Row_copyFrom p43 p43_0 nx h) nx fun _ nx43 h43 =>
      some (.inl (x3 + (1 : Int32)), 0, 0, h43)
def f_Definition_toMacro (n : Nat) (a0 : Nat) (i1 : Int32) (nx : Nat) (h : hH) : hR (Option Nat) :=
  hbind (hnew (.inr (7, [.int 0, .int 0, .int 0, .null, .null])) (5) nx h) nx fun _ nx0 h0 =>
  (hgI h0 a0 4 5).bind fun v5 =>
  hbind (f_Macro_init n nx v5 i1 nx0 h0) nx0 fun _ nx9 h9 =>
  hbind (hloopA (f_Definition_toMacro_b15 n a0 (some nx)) n (0 : Int32) nx9 h9) nx9 fun b15 nx15l h15l =>
  (hgR h15l nx 7 4).bind fun v53 =>
  (hgR h15l a0 4 1).bind fun v57 =>
  (v53).bind fun p60 =>
  (v57).bind fun p60_0 =>
  (hObj h15l p60 8).bind fun c60 =>
  hbind (f_Row_copyFrom p60 p60_0 nx15l h15l) nx15l fun _ nx60 h60 =>
  some (some nx, 0, 0, h60)
def f_Whole_goOnDefining (n : Nat) (a0 : Nat) (i1 : Int32) (nx : Nat) (h : hH) : hR (Int32) :=
  (hgR h a0 11 3).bind fun v1 =>
  (v1).bind fun p5 =>
  (hObj h p5 4).bind fun c5 =>
  hbind (f_Definition_accept p5 i1 nx h) nx fun v5 nx5 h5 =>
  (hgR h5 a0 11 2).bind fun v10 =>
  (hgR h5 a0 11 3).bind fun v14 =>
  (v14).bind fun p17 =>
  (hgI h5 p17 4 4).bind fun v17 =>
  (v10).bind fun p20 =>
  (hpV h5 p20 5 13 (.int v17)).bind fun h20 =>
  if v5 = 0 then
    (hgR h20 a0 11 3).bind fun v28 =>
    (v28).bind fun p31 =>
    (hObj h20 p31 4).bind fun c31 =>
    (f_Definition_isRead p31 h20).bind fun v31 =>
    if v31 = 0 then
      some (v5, 0, 0, h20)
    else
      (hgR h20 a0 11 1).bind fun v40 =>
      (v40).bind fun p43 =>
      (hObj h20 p43 3).bind fun c43 =>
      (f_Book_isFull p43 h20).bind fun v43 =>
      if v43 = 0 then
        (hgR h20 a0 11 1).bind fun v53 =>
        (hgR h20 a0 11 3).bind fun v57 =>
        (v57).bind fun p60 =>
        (hgI h20 p60 4 4).bind fun v60 =>
        (hgR h20 a0 11 3).bind fun v64 =>
        (hgI h20 a0 11 5).bind fun v68 =>
        (v64).bind fun p71 =>
        (hObj h20 p71 4).bind fun c71 =>
        hbind (f_Definition_toMacro n p71 v68 nx5 h20) nx5 fun v71 nx71 h71 =>
        (hgI h71 a0 11 5).bind fun v75 =>
        (v53).bind fun p78 =>
        (v71).bind fun p78_1 =>
        (hObj h71 p78 3).bind fun c78 =>
        hbW (f_Book_enter n p78 v60 p78_1 v75 h71) fun v78 h78 =>
        (hgR h78 a0 11 3).bind fun v83 =>
        (v83).bind fun p86 =>
        (hObj h78 p86 4).bind fun c86 =>
        hbW (f_Definition_leave p86 h78) fun _ h86 =>
        (hgR h86 a0 11 2).bind fun v90 =>
        (v90).bind fun p94 =>
        (hpV h86 p94 5 13 (.int (0 : Int32))).bind fun h94 =>
        (hpV h94 a0 11 5 (.int (0 : Int32))).bind fun h99 =>
        (hgI h99 a0 11 6).bind fun v103 =>
        if v103 = (-1 : Int32) then
          some ((0 : Int32), 0, 0, h99)
        else
          (hgR h99 a0 11 0).bind fun v111 =>
          (hgI h99 a0 11 6).bind fun v115 =>
          (v111).bind fun p118 =>
          (hObj h99 p118 6).bind fun c118 =>
          hbW (f_Input_put p118 v115 h99) fun _ h118 =>
          (hpV h118 a0 11 6 (.int (-1 : Int32))).bind fun h123 =>
          some ((0 : Int32), 0, 0, h123)
      else
        some ((8 : Int32), 0, 0, h20)
  else
    some (v5, 0, 0, h20)
def f_Kind_markOf (i0 : Int32) (h : hH) : Option (Int32) :=
  if i0 = (266 : Int32) then
    some (1 : Int32)
  else
    if i0 = (267 : Int32) then
      some (2 : Int32)
    else
      if i0 = (268 : Int32) then
        some (4 : Int32)
      else
        some (0 : Int32)
def f_Definition_begin_b2 (n : Nat) (a0 : Nat) (x1 : Int32) : (Int32) → hH → Option (((Int32) ⊕ ((Unit))) × hH) := fun x h =>
  let x2 := x
  (hgR h a0 4 0).bind fun v4 =>
  (v4).bind fun p7 =>
  (haL h p7 3).bind fun v7 =>
  if v7 ≤ x2 then
    some (.inr (), h)
  else
    (hgR h a0 4 0).bind fun v12 =>
    (v12).bind fun p16 =>
    (haR h p16 3 x2).bind fun v16 =>
    (v16).bind fun p17 =>
    (hObj h p17 8).bind fun c17 =>
    hbW (f_Row_clear p17 h) fun _ h17 =>
    some (.inl (x2 + (1 : Int32)), h17)
def f_Definition_begin (n : Nat) (a0 : Nat) (i1 : Int32) (h : hH) : Option ((Unit) × hH) :=
  hbW (hloopW (f_Definition_begin_b2 n a0 i1) n (0 : Int32) h) fun b2 h2l =>
  (hgR h2l a0 4 1).bind fun v27 =>
  (v27).bind fun p30 =>
  (hObj h2l p30 8).bind fun c30 =>
  hbW (f_Row_clear p30 h2l) fun _ h30 =>
  (hpV h30 a0 4 2 (.int (1 : Int32))).bind fun h35 =>
  (hpZ h35 a0 4 3 i1).bind fun h40 =>
  (hpV h40 a0 4 4 (.int (0 : Int32))).bind fun h45 =>
  (hpV h45 a0 4 5 (.int (0 : Int32))).bind fun h50 =>
  (hpV h50 a0 4 6 (.int (1 : Int32))).bind fun h55 =>
  some ((), h55)
def f_Whole_takeLater (a0 : Nat) (h : hH) : Option ((Int32) × hH) :=
  (hgR h a0 11 0).bind fun v1 =>
  (v1).bind fun p4 =>
  (hObj h p4 6).bind fun c4 =>
  (f_Input_isEmpty p4 h).bind fun v4 =>
  if v4 = 0 then
    (hgR h a0 11 0).bind fun v14 =>
    (v14).bind fun p17 =>
    (hObj h p17 6).bind fun c17 =>
    hbW (f_Input_take p17 h) fun v17 h17 =>
    (hpV h17 a0 11 6 (.int v17)).bind fun h20 =>
    some ((0 : Int32), h20)
  else
    some ((1 : Int32), h)
def f_Whole_carryOut_j51 (n : Nat) (y0 : Option Nat) (y1 : Int32) (nx : Nat) (h : hH) : hR (Int32) :=
  (y0).bind fun p51 =>
  (hObj h p51 4).bind fun c51 =>
  hbW (f_Definition_begin n p51 y1 h) fun _ h51 =>
  some ((0 : Int32), 0, 0, h51)
def f_Whole_carryOut_j35 (n : Nat) (a0 : Nat) (x1 : Int32) (nx : Nat) (h : hH) : hR (Int32) :=
  (hgR h a0 11 3).bind fun v36 =>
  if x1 = (265 : Int32) then
    f_Whole_carryOut_j51 n v36 (1 : Int32) nx h
  else
    f_Whole_carryOut_j51 n v36 (0 : Int32) nx h
def f_Whole_carryOut (n : Nat) (a0 : Nat) (i1 : Int32) (nx : Nat) (h : hH) : hR (Int32) :=
  (f_Kind_markOf i1 h).bind fun v1 =>
  if v1 = 0 then
    if i1 = (264 : Int32) then
      f_Whole_carryOut_j35 n a0 i1 nx h
    else
      if i1 = (265 : Int32) then
        f_Whole_carryOut_j35 n a0 i1 nx h
      else
        (hgI h a0 11 5).bind fun v57 =>
        if v57 = 0 then
          if i1 = (269 : Int32) then
            (hObj h a0 11).bind fun c74 =>
            hbW (f_Whole_takeLater a0 h) fun v74 h74 =>
            some (v74, 0, 0, h74)
          else
            (hgR h a0 11 4).bind fun v79 =>
            (v79).bind fun p82 =>
            (hObj h p82 8).bind fun c82 =>
            (f_Row_isFull p82 h).bind fun v82 =>
            if v82 = 0 then
              (hgR h a0 11 4).bind fun v92 =>
              (v92).bind fun p96 =>
              (hObj h p96 8).bind fun c96 =>
              hbind (f_Row_add p96 i1 nx h) nx fun _ nx96 h96 =>
              some ((0 : Int32), 0, 0, h96)
            else
              some ((8 : Int32), 0, 0, h)
        else
          some ((6 : Int32), 0, 0, h)
  else
    (hgI h a0 11 5).bind fun v11 =>
    (hpV h a0 11 5 (.int (v11 ||| v1))).bind fun h16 =>
    some ((0 : Int32), 0, 0, h16)
def f_Whole_run_j110 (n : Nat) (a0 : Nat) (x1 : Int32) (x2 : Int32) (nx : Nat) (h : hH) : hR ((Int32) ⊕ ((Int32) ⊕ (Unit))) :=
  if x2 = 0 then
    some (.inl (x1 + (1 : Int32)), 0, 0, h)
  else
    some (.inr (.inl x2), 0, 0, h)
def f_Whole_run_j73 (n : Nat) (a0 : Nat) (x1 : Int32) (nx : Nat) (h : hH) : hR ((Int32) ⊕ ((Int32) ⊕ (Unit))) :=
  (hgR h a0 11 3).bind fun v74 =>
  (v74).bind fun p77 =>
  (hObj h p77 4).bind fun c77 =>
  (f_Definition_isUnderWay p77 h).bind fun v77 =>
  if v77 = 0 then
    (hgR h a0 11 2).bind fun v100 =>
    (v100).bind fun p103 =>
    (hObj h p103 5).bind fun c103 =>
    hbW (f_Expander_takeFirst p103 h) fun v103 h103 =>
    (hObj h103 a0 11).bind fun c106 =>
    hbind (f_Whole_carryOut n a0 v103 nx h103) nx fun v106 nx106 h106 =>
    f_Whole_run_j110 n a0 x1 v106 nx106 h106
  else
    (hgR h a0 11 2).bind fun v85 =>
    (v85).bind fun p88 =>
    (hObj h p88 5).bind fun c88 =>
    hbW (f_Expander_takeFirst p88 h) fun v88 h88 =>
    (hObj h88 a0 11).bind fun c91 =>
    hbind (f_Whole_goOnDefining n a0 v88 nx h88) nx fun v91 nx91 h91 =>
    f_Whole_run_j110 n a0 x1 v91 nx91 h91
def f_Whole_run_b26 (n : Nat) (a0 : Nat) : (Int32) → Nat → hH → hR ((Int32) ⊕ ((Int32) ⊕ (Unit))) := fun x nx h =>
  let x1 := x
  if (100000000 : Int32) ≤ x1 then
    some (.inr (.inr (())), 0, 0, h)
  else
    (hgR h a0 11 0).bind fun v33 =>
    (v33).bind fun p36 =>
    (hObj h p36 6).bind fun c36 =>
    (f_Input_isEmpty p36 h).bind fun v36 =>
    if v36 = 0 then
      (hgR h a0 11 3).bind fun v43 =>
      (v43).bind fun p46 =>
      (hObj h p46 4).bind fun c46 =>
      (f_Definition_takesTokensAsTheyAre p46 h).bind fun v46 =>
      if v46 = 0 then
        (hgR h a0 11 2).bind fun v53 =>
        (v53).bind fun p56 =>
        (hObj h p56 5).bind fun c56 =>
        (f_Expander_canExpand p56 h).bind fun v56 =>
        if v56 = 0 then
          f_Whole_run_j73 n a0 x1 nx h
        else
          (hgR h a0 11 2).bind fun v63 =>
          (v63).bind fun p66 =>
          (hObj h p66 5).bind fun c66 =>
          hbind (f_Expander_expandOnce n p66 nx h) nx fun v66 nx66 h66 =>
          f_Whole_run_j110 n a0 x1 v66 nx66 h66
      else
        f_Whole_run_j73 n a0 x1 nx h
    else
      some (.inr (.inr (())), 0, 0, h)
def f_Whole_run (n : Nat) (a0 : Nat) (nx : Nat) (h : hH) : hR (Int32) :=
  (hgR h a0 11 4).bind fun v1 =>
  (v1).bind fun p4 =>
  (hObj h p4 8).bind fun c4 =>
  hbW (f_Row_clear p4 h) fun _ h4 =>
  (hgR h4 a0 11 3).bind fun v8 =>
  (v8).bind fun p11 =>
  (hObj h4 p11 4).bind fun c11 =>
  hbW (f_Definition_leave p11 h4) fun _ h11 =>
  (hpV h11 a0 11 5 (.int (0 : Int32))).bind fun h16 =>
  (hpV h16 a0 11 6 (.int (-1 : Int32))).bind fun h21 =>
  hbind (hloopA (f_Whole_run_b26 n a0) n (0 : Int32) nx h21) nx fun b26 nx26l h26l =>
  match b26 with
  | .inl z26 =>
    let x2_26 := z26
    some (x2_26, 0, 0, h26l)
  | .inr (z26) =>
    (hgI h26l a0 11 5).bind fun v123 =>
    if v123 = 0 then
      (hgR h26l a0 11 3).bind fun v130 =>
      (v130).bind fun p133 =>
      (hObj h26l p133 4).bind fun c133 =>
      (f_Definition_isUnderWay p133 h26l).bind fun v133 =>
      if v133 = 0 then
        some ((0 : Int32), 0, 0, h26l)
      else
        some ((1 : Int32), 0, 0, h26l)
    else
      some ((1 : Int32), 0, 0, h26l)
def f_Input_clear (a0 : Nat) (h : hH) : Option ((Unit) × hH) :=
  (hpV h a0 6 1 (.int (0 : Int32))).bind fun h2 =>
  some ((), h2)
def f_MacroExpand_expand_j63 (n : Nat) (a0 : Nat) (x1 : Int32) (x2 : Int32) (y0 : Option Nat) (y1 : Int32) (nx : Nat) (h : hH) : hR (Int32) :=
  (y0).bind fun p63 =>
  (hpV h p63 0 6 (.int y1)).bind fun h63 =>
  if x2 = 0 then
    if x1 = 0 then
      (hgR h63 a0 0 2).bind fun v98 =>
      (v98).bind fun p101 =>
      (hgI h63 p101 6 1).bind fun v101 =>
      some (v101, 0, 0, h63)
    else
      (hgR h63 a0 0 4).bind fun v85 =>
      (v85).bind fun p88 =>
      (hgR h63 p88 11 4).bind fun v88 =>
      (v88).bind fun p91 =>
      (hgI h63 p91 8 2).bind fun v91 =>
      some (v91, 0, 0, h63)
  else
    (hgR h63 a0 0 2).bind fun v71 =>
    (v71).bind fun p74 =>
    (hObj h63 p74 6).bind fun c74 =>
    hbW (f_Input_clear p74 h63) fun _ h74 =>
    some ((-x2), 0, 0, h74)
def f_MacroExpand_expand_j42 (n : Nat) (a0 : Nat) (x1 : Int32) (x2 : Int32) (nx : Nat) (h : hH) : hR (Int32) :=
  (hpV h a0 0 5 (.int x2)).bind fun h44 =>
  if x2 = 0 then
    f_MacroExpand_expand_j63 n a0 x1 x2 (some a0) (0 : Int32) nx h44
  else
    (hgR h44 a0 0 3).bind fun v57 =>
    (v57).bind fun p60 =>
    (hgI h44 p60 5 13).bind fun v60 =>
    f_MacroExpand_expand_j63 n a0 x1 x2 (some a0) v60 nx h44
def f_MacroExpand_expand (n : Nat) (a0 : Nat) (i1 : Int32) (nx : Nat) (h : hH) : hR (Int32) :=
  (hgR h a0 0 3).bind fun v1 =>
  (v1).bind fun p4 =>
  (hObj h p4 5).bind fun c4 =>
  hbW (f_Expander_begin p4 h) fun _ h4 =>
  if i1 = 0 then
    (hgR h4 a0 0 3).bind fun v25 =>
    (v25).bind fun p28 =>
    (hObj h4 p28 5).bind fun c28 =>
    (f_Expander_canExpand p28 h4).bind fun v28 =>
    if v28 = 0 then
      f_MacroExpand_expand_j42 n a0 i1 (0 : Int32) nx h4
    else
      (hgR h4 a0 0 3).bind fun v35 =>
      (v35).bind fun p38 =>
      (hObj h4 p38 5).bind fun c38 =>
      hbind (f_Expander_expandOnce n p38 nx h4) nx fun v38 nx38 h38 =>
      f_MacroExpand_expand_j42 n a0 i1 v38 nx38 h38
  else
    (hgR h4 a0 0 4).bind fun v14 =>
    (v14).bind fun p17 =>
    (hObj h4 p17 11).bind fun c17 =>
    hbind (f_Whole_run n p17 nx h4) nx fun v17 nx17 h17 =>
    f_MacroExpand_expand_j42 n a0 i1 v17 nx17 h17
