def f_MacroExpandModel_passed_j30 (n : Nat) (a0 : Nat) (x2 : Int32) (y0 : Int32) (y1 : Int32) (h : hH) : Option ((Int32 × Int32) ⊕ ((Int32))) :=
  some (.inl ((y0 + y1), (x2 + (1 : Int32))))
def f_MacroExpandModel_passed_b4 (n : Nat) (a0 : Nat) (h : hH) : (Int32 × Int32) → Option ((Int32 × Int32) ⊕ ((Int32))) := fun x =>
  let x1 := x.1
  let x2 := x.2
  (hgI h a0 1 28).bind fun v6 =>
  if v6 ≤ x2 then
    some (.inr x1)
  else
    (hgR h a0 1 29).bind fun v14 =>
    (v14).bind fun p18 =>
    (haI h p18 0 x2).bind fun v18 =>
    if v18 = (261 : Int32) then
      f_MacroExpandModel_passed_j30 n a0 x2 x1 (1 : Int32) h
    else
      f_MacroExpandModel_passed_j30 n a0 x2 x1 (0 : Int32) h
def f_MacroExpandModel_passed (n : Nat) (a0 : Nat) (h : hH) : Option (Int32) :=
  (hloopR (f_MacroExpandModel_passed_b4 n a0 h) n ((0 : Int32), (0 : Int32))).bind fun b4 =>
  let x1_4 := b4
  some x1_4
def f_MacroExpandModel_expandName_j501 (n : Nat) (a0 : Nat) (x2 : Int32) (h : hH) : Option ((Unit) × hH) :=
  (hpV h a0 1 22 (.int x2)).bind fun h503 =>
  some ((), h503)
def f_MacroExpandModel_expandName_j433 (n : Nat) (a0 : Nat) (x2 : Int32) (x3 : Int32) (x6 : Int32) (x7 : Int32) (x8 : Int32) (x9 : Int32) (x10 : Int32) (h : hH) : Option (((Int32 × Int32) ⊕ ((Unit))) × hH) :=
  some (.inl (x9, (x10 + (1 : Int32))), h)
def f_MacroExpandModel_expandName_j427 (n : Nat) (a0 : Nat) (x2 : Int32) (x3 : Int32) (x6 : Int32) (x7 : Int32) (x8 : Int32) (x9 : Int32) (x10 : Int32) (y0 : Option Nat) (y1 : Int32) (y2 : Int32) (h : hH) : Option (((Int32 × Int32) ⊕ ((Unit))) × hH) :=
  (y0).bind fun p427 =>
  (hObj h p427 1).bind fun c427 =>
  hbW (f_MacroExpandModel_set p427 y1 y2 h) fun _ h427 =>
  f_MacroExpandModel_expandName_j433 n a0 x2 x3 x6 x7 x8 (x9 + (1 : Int32)) x10 h427
def f_MacroExpandModel_expandName_b351 (n : Nat) (a0 : Nat) (x2 : Int32) (x3 : Int32) (x6 : Int32) (x7 : Int32) (x8 : Int32) (x10 : Int32) (x12 : Int32) : (Int32 × Int32) → hH → Option (((Int32 × Int32) ⊕ ((Int32))) × hH) := fun x h =>
  let x9 := x.1
  let x13 := x.2
  (hgR h a0 1 7).bind fun v354 =>
  (v354).bind fun p358 =>
  (haI h p358 0 x3).bind fun v358 =>
  if v358 < x12 then
    some (.inr x9, h)
  else
    (hgR h a0 1 19).bind fun v365 =>
    (v365).bind fun p370 =>
    (haI h p370 0 x12).bind fun v370 =>
    if v370 ≤ x13 then
      some (.inr x9, h)
    else
      (hgR h a0 1 20).bind fun v378 =>
      (v378).bind fun p390 =>
      (haI h p390 0 (((400 : Int32) * x12) + x13)).bind fun v390 =>
      (hObj h a0 1).bind fun c391 =>
      hbW (f_MacroExpandModel_set a0 x9 v390 h) fun _ h391 =>
      some (.inl ((x9 + (1 : Int32)), (x13 + (1 : Int32))), h391)
def f_MacroExpandModel_expandName_b300 (n : Nat) (a0 : Nat) (x2 : Int32) (x3 : Int32) (x6 : Int32) (x7 : Int32) (x8 : Int32) : (Int32 × Int32) → hH → Option (((Int32 × Int32) ⊕ ((Unit))) × hH) := fun x h =>
  let x9 := x.1
  let x10 := x.2
  (hgR h a0 1 9).bind fun v303 =>
  (v303).bind fun p307 =>
  (haI h p307 0 x3).bind fun v307 =>
  if v307 ≤ x10 then
    some (.inr (), h)
  else
    (hgR h a0 1 10).bind fun v312 =>
    (v312).bind fun p323 =>
    (haI h p323 0 (((200 : Int32) * x3) + x10)).bind fun v323 =>
    (f_MacroExpandModel_in v323 (311 : Int32) (319 : Int32) h).bind fun v334 =>
    if v334 = 0 then
      (f_MacroExpandModel_isParameter v323 h).bind fun v411 =>
      if v411 = 0 then
        f_MacroExpandModel_expandName_j427 n a0 x2 x3 x6 x7 x8 x9 x10 (some a0) x9 v323 h
      else
        f_MacroExpandModel_expandName_j427 n a0 x2 x3 x6 x7 x8 x9 x10 (some a0) x9 (v323 - (10 : Int32)) h
    else
      hbW (hloopW (f_MacroExpandModel_expandName_b351 n a0 x2 x3 x6 x7 x8 x10 (v323 - (310 : Int32))) n (x9, (0 : Int32)) h) fun b351 h351l =>
      let x9_351 := b351
      f_MacroExpandModel_expandName_j433 n a0 x2 x3 x6 x7 x8 x9_351 x10 h351l
def f_MacroExpandModel_expandName_j264 (n : Nat) (a0 : Nat) (x1 : Int32) (x2 : Int32) (x3 : Int32) (x5 : Int32) (x6 : Int32) (x7 : Int32) (h : hH) : Option ((Unit) × hH) :=
  (hgI h a0 1 21).bind fun v265 =>
  if v265 = 0 then
    (hgI h a0 1 22).bind fun v273 =>
    (hObj h a0 1).bind fun c284 =>
    hbW (f_MacroExpandModel_take n a0 x1 (x5 - x1) h) fun _ h284 =>
    (hObj h284 a0 1).bind fun c291 =>
    hbW (f_MacroExpandModel_spread n a0 x1 x7 h284) fun _ h291 =>
    hbW (hloopW (f_MacroExpandModel_expandName_b300 n a0 x2 x3 x6 x7 v273) n (x1, (0 : Int32)) h291) fun b300 h300l =>
    (hgI h300l a0 1 25).bind fun v440 =>
    if (100 : Int32) ≤ v440 then
      f_MacroExpandModel_expandName_j501 n a0 x2 h300l
    else
      (hgR h300l a0 1 26).bind fun v449 =>
      (hgI h300l a0 1 25).bind fun v454 =>
      (v449).bind fun p460 =>
      (hsI h300l p460 0 ((3 : Int32) * v454) v273).bind fun h460 =>
      (hgR h460 a0 1 26).bind fun v462 =>
      (hgI h460 a0 1 25).bind fun v467 =>
      (v462).bind fun p475 =>
      (hsI h460 p475 0 (((3 : Int32) * v467) + (1 : Int32)) x6).bind fun h475 =>
      (hgR h475 a0 1 26).bind fun v477 =>
      (hgI h475 a0 1 25).bind fun v482 =>
      (v477).bind fun p490 =>
      (hsI h475 p490 0 (((3 : Int32) * v482) + (2 : Int32)) x7).bind fun h490 =>
      (hgI h490 a0 1 25).bind fun v493 =>
      (hpV h490 a0 1 25 (.int (v493 + (1 : Int32)))).bind fun h498 =>
      f_MacroExpandModel_expandName_j501 n a0 x2 h498
  else
    some ((), h)
def f_MacroExpandModel_expandName_j226 (n : Nat) (a0 : Nat) (x1 : Int32) (x2 : Int32) (x3 : Int32) (x5 : Int32) (x6 : Int32) (y0 : Int32) (h : hH) : Option ((Unit) × hH) :=
  (hgI h a0 1 21).bind fun v229 =>
  if v229 = 0 then
    (hgI h a0 1 3).bind fun v236 =>
    (hObj h a0 1).bind fun c240 =>
    (f_MacroExpandModel_passed n a0 h).bind fun v240 =>
    if (((v236 - v240) - (x5 - x1)) + y0) ≤ (3000 : Int32) then
      f_MacroExpandModel_expandName_j264 n a0 x1 x2 x3 x5 x6 y0 h
    else
      (hObj h a0 1).bind fun c261 =>
      hbW (f_MacroExpandModel_mark a0 (8 : Int32) h) fun _ h261 =>
      f_MacroExpandModel_expandName_j264 n a0 x1 x2 x3 x5 x6 y0 h261
  else
    f_MacroExpandModel_expandName_j264 n a0 x1 x2 x3 x5 x6 y0 h
def f_MacroExpandModel_expandName_j190 (n : Nat) (a0 : Nat) (x1 : Int32) (x2 : Int32) (x3 : Int32) (x4 : Int32) (x6 : Int32) (x7 : Int32) (y0 : Int32) (h : hH) : Option (((Int32 × Int32 × Int32) ⊕ ((Int32 × Int32))) × hH) :=
  (hgR h a0 1 19).bind fun v195 =>
  (v195).bind fun p200 =>
  (haI h p200 0 x7).bind fun v200 =>
  some (.inl (y0, (x6 + v200), (x7 + (1 : Int32))), h)
def f_MacroExpandModel_expandName_b119 (n : Nat) (a0 : Nat) (x1 : Int32) (x2 : Int32) (x3 : Int32) (x4 : Int32) : (Int32 × Int32 × Int32) → hH → Option (((Int32 × Int32 × Int32) ⊕ ((Int32 × Int32))) × hH) := fun x h =>
  let x5 := x.1
  let x6 := x.2.1
  let x7 := x.2.2
  (hgR h a0 1 7).bind fun v122 =>
  (v122).bind fun p126 =>
  (haI h p126 0 x3).bind fun v126 =>
  if v126 < x7 then
    some (.inr (x5, x6), h)
  else
    (hgI h a0 1 21).bind fun v131 =>
    if v131 = 0 then
      (hgR h a0 1 19).bind fun v138 =>
      (v138).bind fun p144 =>
      (hsI h p144 0 x7 (0 : Int32)).bind fun h144 =>
      (hgR h144 a0 1 11).bind fun v146 =>
      (v146).bind fun p156 =>
      (haI h144 p156 0 (((10 : Int32) * x3) + x7)).bind fun v156 =>
      if v156 = 0 then
        (hObj h144 a0 1).bind fun c167 =>
        hbW (f_MacroExpandModel_plain n a0 x7 x5 x4 h144) fun v167 h167 =>
        f_MacroExpandModel_expandName_j190 n a0 x1 x2 x3 x4 x6 x7 v167 h167
      else
        (hObj h144 a0 1).bind fun c187 =>
        hbW (f_MacroExpandModel_delimited n a0 x7 (((10 : Int32) * x3) + x7) x5 x4 h144) fun v187 h187 =>
        f_MacroExpandModel_expandName_j190 n a0 x1 x2 x3 x4 x6 x7 v187 h187
    else
      some (.inr (x5, x6), h)
def f_MacroExpandModel_expandName_j104 (n : Nat) (a0 : Nat) (x1 : Int32) (x2 : Int32) (x3 : Int32) (x4 : Int32) (x5 : Int32) (x6 : Int32) (h : hH) : Option (((Int32 × Int32) ⊕ ((Int32))) × hH) :=
  some (.inl ((x5 + (1 : Int32)), (x6 + (1 : Int32))), h)
def f_MacroExpandModel_expandName_b46 (n : Nat) (a0 : Nat) (x1 : Int32) (x2 : Int32) (x3 : Int32) (x4 : Int32) : (Int32 × Int32) → hH → Option (((Int32 × Int32) ⊕ ((Int32))) × hH) := fun x h =>
  let x5 := x.1
  let x6 := x.2
  (hgR h a0 1 11).bind fun v49 =>
  (v49).bind fun p56 =>
  (haI h p56 0 ((10 : Int32) * x3)).bind fun v56 =>
  if v56 ≤ x6 then
    some (.inr x5, h)
  else
    (hgI h a0 1 21).bind fun v61 =>
    if v61 = 0 then
      (hObj h a0 1).bind fun c71 =>
      hbW (f_MacroExpandModel_isThere a0 x5 (1 : Int32) h) fun v71 h71 =>
      if v71 = 0 then
        f_MacroExpandModel_expandName_j104 n a0 x1 x2 x3 x4 x5 x6 h71
      else
        (hObj h71 a0 1).bind fun c80 =>
        (f_MacroExpandModel_get a0 x5 h71).bind fun v80 =>
        (hgR h71 a0 1 12).bind fun v84 =>
        (v84).bind fun p95 =>
        (haI h71 p95 0 (((2000 : Int32) * x3) + x6)).bind fun v95 =>
        if v80 = v95 then
          f_MacroExpandModel_expandName_j104 n a0 x1 x2 x3 x4 x5 x6 h71
        else
          (hObj h71 a0 1).bind fun c101 =>
          hbW (f_MacroExpandModel_mark a0 (3 : Int32) h71) fun _ h101 =>
          f_MacroExpandModel_expandName_j104 n a0 x1 x2 x3 x4 x5 x6 h101
    else
      some (.inr x5, h)
def f_MacroExpandModel_expandName_j36 (n : Nat) (a0 : Nat) (x1 : Int32) (x2 : Int32) (x3 : Int32) (y0 : Int32) (h : hH) : Option ((Unit) × hH) :=
  hbW (hloopW (f_MacroExpandModel_expandName_b46 n a0 x1 x2 x3 y0) n ((x1 + (1 : Int32)), (0 : Int32)) h) fun b46 h46l =>
  let x5_46 := b46
  hbW (hloopW (f_MacroExpandModel_expandName_b119 n a0 x1 x2 x3 y0) n (x5_46, (0 : Int32), (1 : Int32)) h46l) fun b119 h119l =>
  let x5_119 := b119.1
  let x6_119 := b119.2
  (hgI h119l a0 1 21).bind fun v211 =>
  if v211 = 0 then
    (hObj h119l a0 1).bind fun c219 =>
    (f_MacroExpandModel_comes n a0 x3 h119l).bind fun v219 =>
    f_MacroExpandModel_expandName_j226 n a0 x1 x2 x3 x5_119 x6_119 v219 h119l
  else
    f_MacroExpandModel_expandName_j226 n a0 x1 x2 x3 x5_119 x6_119 (0 : Int32) h119l
def f_MacroExpandModel_expandName (n : Nat) (a0 : Nat) (i1 : Int32) (h : hH) : Option ((Unit) × hH) :=
  (hgI h a0 1 22).bind fun v1 =>
  (hObj h a0 1).bind fun c8 =>
  (f_MacroExpandModel_get a0 i1 h).bind fun v8 =>
  (hpV h a0 1 22 (.int v8)).bind fun h11 =>
  (hObj h11 a0 1).bind fun c16 =>
  (f_MacroExpandModel_macroAt a0 i1 h11).bind fun v16 =>
  (hgR h11 a0 1 8).bind fun v21 =>
  (v21).bind fun p25 =>
  (haI h11 p25 0 v16).bind fun v25 =>
  if (v25 &&& (1 : Int32)) = 0 then
    f_MacroExpandModel_expandName_j36 n a0 i1 v1 v16 (0 : Int32) h11
  else
    f_MacroExpandModel_expandName_j36 n a0 i1 v1 v16 (1 : Int32) h11
def f_MacroExpandModel_nameOf_b117 (n : Nat) (a0 : Nat) (x1 : Int32) (x2 : Int32) : (Int32) → hH → Option (((Int32) ⊕ ((Unit))) × hH) := fun x h =>
  let x3 := x
  if x2 ≤ x3 then
    some (.inr (), h)
  else
    (hgR h a0 1 18).bind fun v123 =>
    (hgI h a0 1 16).bind fun v129 =>
    (hgR h a0 1 27).bind fun v136 =>
    (v136).bind fun p145 =>
    (haI h p145 0 (((8 : Int32) * x1) + x3)).bind fun v145 =>
    (v123).bind fun p146 =>
    (hsI h p146 0 (((8 : Int32) * v129) + x3) v145).bind fun h146 =>
    some (.inl (x3 + (1 : Int32)), h146)
def f_MacroExpandModel_nameOf_j73 (n : Nat) (a0 : Nat) (x1 : Int32) (x2 : Int32) (x3 : Int32) (x5 : Int32) (y0 : Int32) (h : hH) : Option (((Int32 × Int32) ⊕ ((Int32))) × hH) :=
  some (.inl (y0, (x5 + (1 : Int32))), h)
def f_MacroExpandModel_nameOf_b30 (n : Nat) (a0 : Nat) (x1 : Int32) (x2 : Int32) (x3 : Int32) : (Int32 × Int32) → hH → Option (((Int32 × Int32) ⊕ ((Int32))) × hH) := fun x h =>
  let x4 := x.1
  let x5 := x.2
  if x2 ≤ x5 then
    some (.inr x4, h)
  else
    if x4 = 0 then
      some (.inr x4, h)
    else
      (hgR h a0 1 18).bind fun v42 =>
      (v42).bind fun p52 =>
      (haI h p52 0 (((8 : Int32) * x3) + x5)).bind fun v52 =>
      (hgR h a0 1 27).bind fun v54 =>
      (v54).bind fun p64 =>
      (haI h p64 0 (((8 : Int32) * x1) + x5)).bind fun v64 =>
      if v52 = v64 then
        f_MacroExpandModel_nameOf_j73 n a0 x1 x2 x3 x5 (1 : Int32) h
      else
        f_MacroExpandModel_nameOf_j73 n a0 x1 x2 x3 x5 (0 : Int32) h
def f_MacroExpandModel_nameOf_j25 (n : Nat) (a0 : Nat) (x1 : Int32) (x2 : Int32) (x3 : Int32) (y0 : Int32) (h : hH) : Option (((Int32) ⊕ ((Int32) ⊕ (Unit))) × hH) :=
  hbW (hloopW (f_MacroExpandModel_nameOf_b30 n a0 x1 x2 x3) n (y0, (0 : Int32)) h) fun b30 h30l =>
  let x4_30 := b30
  if x4_30 = 0 then
    some (.inl (x3 + (1 : Int32)), h30l)
  else
    some (.inr (.inl x3), h30l)
def f_MacroExpandModel_nameOf_b2 (n : Nat) (a0 : Nat) (x1 : Int32) (x2 : Int32) : (Int32) → hH → Option (((Int32) ⊕ ((Int32) ⊕ (Unit))) × hH) := fun x h =>
  let x3 := x
  (hgI h a0 1 16).bind fun v4 =>
  if v4 ≤ x3 then
    some (.inr (.inr (())), h)
  else
    (hgR h a0 1 17).bind fun v11 =>
    (v11).bind fun p15 =>
    (haI h p15 0 x3).bind fun v15 =>
    if v15 = x2 then
      f_MacroExpandModel_nameOf_j25 n a0 x1 x2 x3 (1 : Int32) h
    else
      f_MacroExpandModel_nameOf_j25 n a0 x1 x2 x3 (0 : Int32) h
def f_MacroExpandModel_nameOf (n : Nat) (a0 : Nat) (i1 : Int32) (i2 : Int32) (h : hH) : Option ((Int32) × hH) :=
  hbW (hloopW (f_MacroExpandModel_nameOf_b2 n a0 i1 i2) n (0 : Int32) h) fun b2 h2l =>
  match b2 with
  | .inl z2 =>
    let x3_2 := z2
    some (((1100 : Int32) + x3_2), h2l)
  | .inr (z2) =>
    (hgI h2l a0 1 16).bind fun v99 =>
    if v99 = (100 : Int32) then
      (hObj h2l a0 1).bind fun c110 =>
      hbW (f_MacroExpandModel_mark a0 (8 : Int32) h2l) fun _ h110 =>
      some ((0 : Int32), h110)
    else
      hbW (hloopW (f_MacroExpandModel_nameOf_b117 n a0 i1 i2) n (0 : Int32) h2l) fun b117 h117l =>
      (hgR h117l a0 1 17).bind fun v154 =>
      (hgI h117l a0 1 16).bind fun v158 =>
      (v154).bind fun p162 =>
      (hsI h117l p162 0 v158 i2).bind fun h162 =>
      (hgI h162 a0 1 16).bind fun v165 =>
      (hpV h162 a0 1 16 (.int (v165 + (1 : Int32)))).bind fun h170 =>
      (hgI h170 a0 1 16).bind fun v177 =>
      some (((1099 : Int32) + v177), h170)
def f_MacroExpandModel_pile (a0 : Nat) (i1 : Int32) (i2 : Int32) (h : hH) : Option ((Unit) × hH) :=
  (hgR h a0 1 29).bind fun v1 =>
  (hgI h a0 1 28).bind fun v5 =>
  (v1).bind fun p9 =>
  (hsI h p9 0 v5 i1).bind fun h9 =>
  (hgR h9 a0 1 30).bind fun v11 =>
  (hgI h9 a0 1 28).bind fun v15 =>
  (v11).bind fun p19 =>
  (hsI h9 p19 0 v15 i2).bind fun h19 =>
  (hgR h19 a0 1 31).bind fun v21 =>
  (hgI h19 a0 1 28).bind fun v25 =>
  (v21).bind fun p29 =>
  (hsI h19 p29 0 v25 (0 : Int32)).bind fun h29 =>
  (hgI h29 a0 1 28).bind fun v32 =>
  (hpV h29 a0 1 28 (.int (v32 + (1 : Int32)))).bind fun h37 =>
  some ((), h37)
def f_MacroExpandModel_start_j222 (n : Nat) (a0 : Nat) (x2 : Int32) (x3 : Int32) (h : hH) : Option (((Int32 × Int32) ⊕ ((Unit) ⊕ (Unit) ⊕ (Unit) ⊕ (Unit) ⊕ (Unit) ⊕ (Unit))) × hH) :=
  some (.inl (x2, x3), h)
def f_MacroExpandModel_start_b4 (n : Nat) (a0 : Nat) : (Int32 × Int32) → hH → Option (((Int32 × Int32) ⊕ ((Unit) ⊕ (Unit) ⊕ (Unit) ⊕ (Unit) ⊕ (Unit) ⊕ (Unit))) × hH) := fun x h =>
  let x2 := x.1
  let x3 := x.2
  if x3 = 0 then
    some (.inr (.inr (.inr (.inr (.inr (.inr (())))))), h)
  else
    (hgI h a0 1 21).bind fun v9 =>
    if v9 = 0 then
      (hgI h a0 1 23).bind fun v18 =>
      (hgI h a0 1 0).bind fun v22 =>
      if v18 = v22 then
        some (.inr (.inl ()), h)
      else
        (hgI h a0 1 23).bind fun v36 =>
        (hpV h a0 1 23 (.int (v36 + (1 : Int32)))).bind fun h41 =>
        (hObj h41 a0 1).bind fun c46 =>
        (f_MacroExpandModel_get a0 x2 h41).bind fun v46 =>
        if v46 = (260 : Int32) then
          (hgI h41 a0 1 3).bind fun v63 =>
          if (x2 + (1 : Int32)) < v63 then
            (hObj h41 a0 1).bind fun c78 =>
            hbW (f_MacroExpandModel_take n a0 x2 (1 : Int32) h41) fun _ h78 =>
            (hpZ h78 a0 1 24 (1 : Int32)).bind fun h83 =>
            f_MacroExpandModel_start_j222 n a0 x2 (0 : Int32) h83
          else
            some (.inr (.inr (.inl ())), h41)
        else
          if v46 = (261 : Int32) then
            (hgI h41 a0 1 3).bind fun v101 =>
            if (x2 + (2 : Int32)) < v101 then
              (hgI h41 a0 1 28).bind fun v114 =>
              if v114 < (50 : Int32) then
                (hObj h41 a0 1).bind fun c132 =>
                hbW (f_MacroExpandModel_take n a0 x2 (1 : Int32) h41) fun _ h132 =>
                (hpZ h132 a0 1 24 (0 : Int32)).bind fun h137 =>
                (hObj h137 a0 1).bind fun c144 =>
                (f_MacroExpandModel_canBeExpanded a0 (x2 + (1 : Int32)) h137).bind fun v144 =>
                if v144 = 0 then
                  f_MacroExpandModel_start_j222 n a0 x2 v144 h137
                else
                  (hObj h137 a0 1).bind fun c157 =>
                  hbW (f_MacroExpandModel_pile a0 (261 : Int32) x2 h137) fun _ h157 =>
                  f_MacroExpandModel_start_j222 n a0 (x2 + (1 : Int32)) v144 h157
              else
                some (.inr (.inr (.inr (.inr (.inl ())))), h41)
            else
              some (.inr (.inr (.inr (.inl ()))), h41)
          else
            if v46 = (262 : Int32) then
              (hgI h41 a0 1 28).bind fun v175 =>
              if v175 < (50 : Int32) then
                (hObj h41 a0 1).bind fun c193 =>
                hbW (f_MacroExpandModel_take n a0 x2 (1 : Int32) h41) fun _ h193 =>
                (hpZ h193 a0 1 24 (0 : Int32)).bind fun h198 =>
                (hObj h198 a0 1).bind fun c206 =>
                hbW (f_MacroExpandModel_pile a0 (262 : Int32) x2 h198) fun _ h206 =>
                f_MacroExpandModel_start_j222 n a0 x2 (0 : Int32) h206
              else
                some (.inr (.inr (.inr (.inr (.inr (.inl ()))))), h41)
            else
              (hObj h41 a0 1).bind fun c214 =>
              hbW (f_MacroExpandModel_expandName n a0 x2 h41) fun _ h214 =>
              (hpZ h214 a0 1 24 (0 : Int32)).bind fun h219 =>
              f_MacroExpandModel_start_j222 n a0 x2 (0 : Int32) h219
    else
      some (.inr (.inr (.inr (.inr (.inr (.inr (())))))), h)
def f_MacroExpandModel_start (n : Nat) (a0 : Nat) (i1 : Int32) (h : hH) : Option ((Unit) × hH) :=
  hbW (hloopW (f_MacroExpandModel_start_b4 n a0) n (i1, (1 : Int32)) h) fun b4 h4l =>
  match b4 with
  | .inl z4 =>
    (hObj h4l a0 1).bind fun c30 =>
    hbW (f_MacroExpandModel_mark a0 (5 : Int32) h4l) fun _ h30 =>
    some ((), h30)
  | .inr (.inl z4) =>
    (hObj h4l a0 1).bind fun c71 =>
    hbW (f_MacroExpandModel_mark a0 (1 : Int32) h4l) fun _ h71 =>
    some ((), h71)
  | .inr (.inr (.inl z4)) =>
    (hObj h4l a0 1).bind fun c109 =>
    hbW (f_MacroExpandModel_mark a0 (1 : Int32) h4l) fun _ h109 =>
    some ((), h109)
  | .inr (.inr (.inr (.inl z4))) =>
    (hObj h4l a0 1).bind fun c125 =>
    hbW (f_MacroExpandModel_mark a0 (8 : Int32) h4l) fun _ h125 =>
    some ((), h125)
  | .inr (.inr (.inr (.inr (.inl z4)))) =>
    (hObj h4l a0 1).bind fun c186 =>
    hbW (f_MacroExpandModel_mark a0 (8 : Int32) h4l) fun _ h186 =>
    some ((), h186)
  | .inr (.inr (.inr (.inr (.inr (z4))))) =>
    some ((), h4l)
def f_MacroExpandModel_goOn_j165 (n : Nat) (a0 : Nat) (x1 : Int32) (x2 : Int32) (x4 : Int32) (x5 : Int32) (y0 : Int32) (h : hH) : Option ((Unit) × hH) :=
  if y0 = 0 then
    (hObj h a0 1).bind fun c174 =>
    hbW (f_MacroExpandModel_mark a0 (4 : Int32) h) fun _ h174 =>
    some ((), h174)
  else
    (hObj h a0 1).bind fun c181 =>
    hbW (f_MacroExpandModel_take n a0 x2 (1 : Int32) h) fun _ h181 =>
    if x4 = (263 : Int32) then
      (hObj h181 a0 1).bind fun c221 =>
      hbW (f_MacroExpandModel_nameOf n a0 x1 x5 h181) fun v221 h221 =>
      (hgI h221 a0 1 21).bind fun v227 =>
      if v227 = 0 then
        (hObj h221 a0 1).bind fun c236 =>
        hbW (f_MacroExpandModel_spread n a0 x2 (1 : Int32) h221) fun _ h236 =>
        (hObj h236 a0 1).bind fun c243 =>
        hbW (f_MacroExpandModel_set a0 x2 v221 h236) fun _ h243 =>
        (hgI h243 a0 1 28).bind fun v248 =>
        (hpV h243 a0 1 28 (.int (v248 - (1 : Int32)))).bind fun h253 =>
        some ((), h253)
      else
        some ((), h221)
    else
      (hgR h181 a0 1 27).bind fun v193 =>
      (v193).bind fun p205 =>
      (hsI h181 p205 0 (((8 : Int32) * x1) + x5) x4).bind fun h205 =>
      (hgR h205 a0 1 31).bind fun v207 =>
      (v207).bind fun p212 =>
      (haI h205 p212 0 x1).bind fun v212 =>
      (hsI h205 p212 0 x1 (v212 + (1 : Int32))).bind fun h215 =>
      some ((), h215)
def f_MacroExpandModel_goOn_j164 (n : Nat) (a0 : Nat) (x1 : Int32) (x2 : Int32) (x4 : Int32) (x5 : Int32) (h : hH) : Option ((Unit) × hH) :=
  f_MacroExpandModel_goOn_j165 n a0 x1 x2 x4 x5 (0 : Int32) h
def f_MacroExpandModel_goOn_j105 (n : Nat) (a0 : Nat) (x1 : Int32) (x2 : Int32) (h : hH) : Option ((Unit) × hH) :=
  (hObj h a0 1).bind fun c107 =>
  (f_MacroExpandModel_get a0 x2 h).bind fun v107 =>
  (hgR h a0 1 31).bind fun v113 =>
  (v113).bind fun p117 =>
  (haI h p117 0 x1).bind fun v117 =>
  if v107 = (263 : Int32) then
    if v117 ≤ 0 then
      f_MacroExpandModel_goOn_j165 n a0 x1 x2 v107 v117 (0 : Int32) h
    else
      f_MacroExpandModel_goOn_j165 n a0 x1 x2 v107 v117 (1 : Int32) h
  else
    (f_MacroExpandModel_in v107 (0 : Int32) (255 : Int32) h).bind fun v147 =>
    if v147 = 0 then
      f_MacroExpandModel_goOn_j164 n a0 x1 x2 v107 v117 h
    else
      if (8 : Int32) ≤ v117 then
        f_MacroExpandModel_goOn_j164 n a0 x1 x2 v107 v117 h
      else
        f_MacroExpandModel_goOn_j165 n a0 x1 x2 v107 v117 (1 : Int32) h
def f_MacroExpandModel_goOn (n : Nat) (a0 : Nat) (h : hH) : Option ((Unit) × hH) :=
  (hgI h a0 1 28).bind fun v1 =>
  (hgR h a0 1 29).bind fun v8 =>
  (v8).bind fun p12 =>
  (haI h p12 0 (v1 - (1 : Int32))).bind fun v12 =>
  if v12 = (261 : Int32) then
    (hgI h a0 1 28).bind fun v21 =>
    (hpV h a0 1 28 (.int (v21 - (1 : Int32)))).bind fun h26 =>
    (hpZ h26 a0 1 24 (0 : Int32)).bind fun h31 =>
    (hgI h31 a0 1 3).bind fun v35 =>
    (hObj h31 a0 1).bind fun c39 =>
    (f_MacroExpandModel_passed n a0 h31).bind fun v39 =>
    if (v35 - v39) ≤ (3000 : Int32) then
      some ((), h31)
    else
      (hObj h31 a0 1).bind fun c52 =>
      hbW (f_MacroExpandModel_mark a0 (8 : Int32) h31) fun _ h52 =>
      some ((), h52)
  else
    (hgR h a0 1 30).bind fun v57 =>
    (v57).bind fun p61 =>
    (haI h p61 0 (v1 - (1 : Int32))).bind fun v61 =>
    (hgI h a0 1 24).bind fun v64 =>
    (hpZ h a0 1 24 (0 : Int32)).bind fun h70 =>
    (hgI h70 a0 1 3).bind fun v75 =>
    if v61 < v75 then
      if v64 = 0 then
        (hObj h70 a0 1).bind fun c93 =>
        (f_MacroExpandModel_canBeExpanded a0 v61 h70).bind fun v93 =>
        if v93 = 0 then
          f_MacroExpandModel_goOn_j105 n a0 (v1 - (1 : Int32)) v61 h70
        else
          (hObj h70 a0 1).bind fun c101 =>
          hbW (f_MacroExpandModel_start n a0 v61 h70) fun _ h101 =>
          some ((), h101)
      else
        f_MacroExpandModel_goOn_j105 n a0 (v1 - (1 : Int32)) v61 h70
    else
      (hObj h70 a0 1).bind fun c83 =>
      hbW (f_MacroExpandModel_mark a0 (1 : Int32) h70) fun _ h83 =>
      some ((), h83)
def f_MacroExpandModel_expandAt_b10 (n : Nat) (a0 : Nat) : (Unit) → hH → Option (((Unit) ⊕ ((Unit))) × hH) := fun x h =>
  (hgI h a0 1 28).bind fun v11 =>
  if v11 ≤ 0 then
    some (.inr (), h)
  else
    (hgI h a0 1 21).bind fun v18 =>
    if v18 = 0 then
      (hObj h a0 1).bind fun c25 =>
      hbW (f_MacroExpandModel_goOn n a0 h) fun _ h25 =>
      some (.inl (), h25)
    else
      some (.inr (), h)
def f_MacroExpandModel_expandAt (n : Nat) (a0 : Nat) (i1 : Int32) (h : hH) : Option ((Unit) × hH) :=
  (hpV h a0 1 28 (.int (0 : Int32))).bind fun h2 =>
  (hObj h2 a0 1).bind fun c7 =>
  hbW (f_MacroExpandModel_start n a0 i1 h2) fun _ h7 =>
  hbW (hloopW (f_MacroExpandModel_expandAt_b10 n a0) n () h7) fun b10 h10l =>
  some ((), h10l)
def f_MacroExpandModel_begin (a0 : Nat) (h : hH) : Option ((Unit) × hH) :=
  (hpV h a0 1 21 (.int (0 : Int32))).bind fun h2 =>
  (hpV h2 a0 1 22 (.int (0 : Int32))).bind fun h7 =>
  (hpV h7 a0 1 23 (.int (0 : Int32))).bind fun h12 =>
  (hpZ h12 a0 1 24 (0 : Int32)).bind fun h17 =>
  (hpV h17 a0 1 25 (.int (0 : Int32))).bind fun h22 =>
  (hpV h22 a0 1 32 (.int (0 : Int32))).bind fun h27 =>
  (hpV h27 a0 1 33 (.int (-1 : Int32))).bind fun h32 =>
  some ((), h32)
def f_MacroExpandModel_defines_b586 (n : Nat) (a0 : Nat) (x3 : Int32) (x7 : Int32) (x8 : Int32) : (Int32) → hH → Option (((Int32) ⊕ ((Unit))) × hH) := fun x h =>
  let x9 := x
  (hgR h a0 1 35).bind fun v589 =>
  (v589).bind fun p594 =>
  (haI h p594 0 x8).bind fun v594 =>
  if v594 ≤ x9 then
    some (.inr (), h)
  else
    (hgR h a0 1 12).bind fun v599 =>
    (hgR h a0 1 34).bind fun v618 =>
    (v618).bind fun p630 =>
    (haI h p630 0 (((200 : Int32) * x8) + x9)).bind fun v630 =>
    (v599).bind fun p631 =>
    (hsI h p631 0 (((200 : Int32) * (((10 : Int32) * x7) + x8)) + x9) v630).bind fun h631 =>
    some (.inl (x9 + (1 : Int32)), h631)
def f_MacroExpandModel_defines_b557 (n : Nat) (a0 : Nat) (x3 : Int32) (x7 : Int32) : (Int32) → hH → Option (((Int32) ⊕ ((Unit))) × hH) := fun x h =>
  let x8 := x
  if x3 < x8 then
    some (.inr (), h)
  else
    (hgR h a0 1 11).bind fun v564 =>
    (hgR h a0 1 35).bind fun v576 =>
    (v576).bind fun p581 =>
    (haI h p581 0 x8).bind fun v581 =>
    (v564).bind fun p582 =>
    (hsI h p582 0 (((10 : Int32) * x7) + x8) v581).bind fun h582 =>
    hbW (hloopW (f_MacroExpandModel_defines_b586 n a0 x3 x7 x8) n (0 : Int32) h582) fun b586 h586l =>
    some (.inl (x8 + (1 : Int32)), h586l)
def f_MacroExpandModel_defines_b520 (n : Nat) (a0 : Nat) (x3 : Int32) (x4 : Int32) (x7 : Int32) : (Int32) → hH → Option (((Int32) ⊕ ((Unit))) × hH) := fun x h =>
  let x8 := x
  if x4 ≤ x8 then
    some (.inr (), h)
  else
    (hgR h a0 1 10).bind fun v528 =>
    (hgR h a0 1 36).bind fun v541 =>
    (v541).bind fun p546 =>
    (haI h p546 0 x8).bind fun v546 =>
    (v528).bind fun p547 =>
    (hsI h p547 0 (((200 : Int32) * x7) + x8) v546).bind fun h547 =>
    some (.inl (x8 + (1 : Int32)), h547)
def f_MacroExpandModel_defines_j488 (n : Nat) (a0 : Nat) (x2 : Int32) (x3 : Int32) (x4 : Int32) (h : hH) : Option ((Unit) × hH) :=
  (hgI h a0 1 21).bind fun v489 =>
  if v489 = 0 then
    (hgI h a0 1 32).bind fun v500 =>
    (hObj h a0 1).bind fun c503 =>
    hbW (f_MacroExpandModel_newMacro n a0 x2 x3 v500 h) fun v503 h503 =>
    (hgR h503 a0 1 9).bind fun v509 =>
    (v509).bind fun p516 =>
    (hsI h503 p516 0 v503 x4).bind fun h516 =>
    hbW (hloopW (f_MacroExpandModel_defines_b520 n a0 x3 x4 v503) n (0 : Int32) h516) fun b520 h520l =>
    hbW (hloopW (f_MacroExpandModel_defines_b557 n a0 x3 v503) n (0 : Int32) h520l) fun b557 h557l =>
    (hpV h557l a0 1 22 (.int (0 : Int32))).bind fun h646 =>
    (hpV h646 a0 1 32 (.int (0 : Int32))).bind fun h651 =>
    (hgI h651 a0 1 33).bind fun v655 =>
    if v655 < 0 then
      some ((), h651)
    else
      (hgI h651 a0 1 3).bind fun v662 =>
      if v662 = (3000 : Int32) then
        (hObj h651 a0 1).bind fun c674 =>
        hbW (f_MacroExpandModel_mark a0 (8 : Int32) h651) fun _ h674 =>
        some ((), h674)
      else
        (hObj h651 a0 1).bind fun c681 =>
        hbW (f_MacroExpandModel_spread n a0 (0 : Int32) (1 : Int32) h651) fun _ h681 =>
        (hgI h681 a0 1 33).bind fun v687 =>
        (hObj h681 a0 1).bind fun c690 =>
        hbW (f_MacroExpandModel_set a0 (0 : Int32) v687 h681) fun _ h690 =>
        (hpV h690 a0 1 33 (.int (-1 : Int32))).bind fun h695 =>
        some ((), h695)
  else
    some ((), h)
def f_MacroExpandModel_defines_j463 (n : Nat) (a0 : Nat) (x1 : Int32) (x2 : Int32) (x3 : Int32) (x4 : Int32) (x6 : Int32) (h : hH) : Option (((Int32 × Int32) ⊕ ((Int32))) × hH) :=
  some (.inl (x4, x6), h)
def f_MacroExpandModel_defines_j450 (n : Nat) (a0 : Nat) (x1 : Int32) (x2 : Int32) (x3 : Int32) (x4 : Int32) (x6 : Int32) (h : hH) : Option (((Int32 × Int32) ⊕ ((Int32))) × hH) :=
  (hgI h a0 1 21).bind fun v451 =>
  if v451 = 0 then
    (hObj h a0 1).bind fun c460 =>
    hbW (f_MacroExpandModel_take n a0 (0 : Int32) (1 : Int32) h) fun _ h460 =>
    f_MacroExpandModel_defines_j463 n a0 x1 x2 x3 x4 x6 h460
  else
    f_MacroExpandModel_defines_j463 n a0 x1 x2 x3 x4 x6 h
def f_MacroExpandModel_defines_j433 (n : Nat) (a0 : Nat) (x1 : Int32) (x2 : Int32) (x3 : Int32) (x4 : Int32) (x6 : Int32) (x8 : Int32) (h : hH) : Option (((Int32 × Int32) ⊕ ((Int32))) × hH) :=
  if x6 ≤ 0 then
    f_MacroExpandModel_defines_j450 n a0 x1 x2 x3 x4 x6 h
  else
    (hgR h a0 1 36).bind fun v439 =>
    (v439).bind fun p446 =>
    (hsI h p446 0 x4 x8).bind fun h446 =>
    f_MacroExpandModel_defines_j450 n a0 x1 x2 x3 (x4 + (1 : Int32)) x6 h446
def f_MacroExpandModel_defines_j411 (n : Nat) (a0 : Nat) (x1 : Int32) (x2 : Int32) (x3 : Int32) (x4 : Int32) (x6 : Int32) (x8 : Int32) (h : hH) : Option (((Int32 × Int32) ⊕ ((Int32))) × hH) :=
  if x6 ≤ 0 then
    f_MacroExpandModel_defines_j433 n a0 x1 x2 x3 x4 x6 x8 h
  else
    if x4 = (200 : Int32) then
      (hObj h a0 1).bind fun c427 =>
      hbW (f_MacroExpandModel_mark a0 (8 : Int32) h) fun _ h427 =>
      f_MacroExpandModel_defines_j450 n a0 x1 x2 x3 x4 x6 h427
    else
      f_MacroExpandModel_defines_j433 n a0 x1 x2 x3 x4 x6 x8 h
def f_MacroExpandModel_defines_j375 (n : Nat) (a0 : Nat) (x1 : Int32) (x2 : Int32) (x3 : Int32) (x4 : Int32) (x8 : Int32) (y0 : Int32) (y1 : Int32) (h : hH) : Option (((Int32 × Int32) ⊕ ((Int32))) × hH) :=
  (f_MacroExpandModel_in x8 (311 : Int32) (319 : Int32) h).bind fun v386 =>
  if v386 = 0 then
    f_MacroExpandModel_defines_j411 n a0 x1 x2 x3 x4 (y0 + y1) x8 h
  else
    if (x8 - (310 : Int32)) ≤ x3 then
      f_MacroExpandModel_defines_j411 n a0 x1 x2 x3 x4 (y0 + y1) x8 h
    else
      (hObj h a0 1).bind fun c405 =>
      hbW (f_MacroExpandModel_mark a0 (6 : Int32) h) fun _ h405 =>
      f_MacroExpandModel_defines_j450 n a0 x1 x2 x3 x4 (y0 + y1) h405
def f_MacroExpandModel_defines_j341 (n : Nat) (a0 : Nat) (x1 : Int32) (x2 : Int32) (x3 : Int32) (x4 : Int32) (x6 : Int32) (h : hH) : Option (((Int32 × Int32) ⊕ ((Int32))) × hH) :=
  (hObj h a0 1).bind fun c343 =>
  (f_MacroExpandModel_get a0 (0 : Int32) h).bind fun v343 =>
  if v343 = (257 : Int32) then
    f_MacroExpandModel_defines_j375 n a0 x1 x2 x3 x4 v343 x6 (1 : Int32) h
  else
    if v343 = (258 : Int32) then
      f_MacroExpandModel_defines_j375 n a0 x1 x2 x3 x4 v343 x6 (-1 : Int32) h
    else
      f_MacroExpandModel_defines_j375 n a0 x1 x2 x3 x4 v343 x6 (0 : Int32) h
def f_MacroExpandModel_defines_b278 (n : Nat) (a0 : Nat) (x1 : Int32) (x2 : Int32) (x3 : Int32) : (Int32 × Int32) → hH → Option (((Int32 × Int32) ⊕ ((Int32))) × hH) := fun x h =>
  let x4 := x.1
  let x6 := x.2
  if x6 ≤ 0 then
    some (.inr x4, h)
  else
    (hgI h a0 1 21).bind fun v284 =>
    if v284 = 0 then
      (hgI h a0 1 24).bind fun v291 =>
      (hpZ h a0 1 24 (0 : Int32)).bind fun h298 =>
      (hgI h298 a0 1 3).bind fun v302 =>
      if v302 = 0 then
        (hObj h298 a0 1).bind fun c310 =>
        hbW (f_MacroExpandModel_mark a0 (1 : Int32) h298) fun _ h310 =>
        f_MacroExpandModel_defines_j463 n a0 x1 x2 x3 x4 x6 h310
      else
        if x1 = 0 then
          f_MacroExpandModel_defines_j341 n a0 x1 x2 x3 x4 x6 h298
        else
          if v291 = 0 then
            (hObj h298 a0 1).bind fun c327 =>
            (f_MacroExpandModel_canBeExpanded a0 (0 : Int32) h298).bind fun v327 =>
            if v327 = 0 then
              f_MacroExpandModel_defines_j341 n a0 x1 x2 x3 x4 x6 h298
            else
              (hObj h298 a0 1).bind fun c335 =>
              hbW (f_MacroExpandModel_expandAt n a0 (0 : Int32) h298) fun _ h335 =>
              f_MacroExpandModel_defines_j463 n a0 x1 x2 x3 x4 x6 h335
          else
            f_MacroExpandModel_defines_j341 n a0 x1 x2 x3 x4 x6 h298
    else
      some (.inr x4, h)
def f_MacroExpandModel_defines_j267 (n : Nat) (a0 : Nat) (x1 : Int32) (x2 : Int32) (x3 : Int32) (x4 : Int32) (x5 : Int32) (h : hH) : Option (((Int32 × Int32) ⊕ ((Int32))) × hH) :=
  some (.inl (x3, x5), h)
def f_MacroExpandModel_defines_j254 (n : Nat) (a0 : Nat) (x1 : Int32) (x2 : Int32) (x3 : Int32) (x4 : Int32) (x5 : Int32) (h : hH) : Option (((Int32 × Int32) ⊕ ((Int32))) × hH) :=
  (hgI h a0 1 21).bind fun v255 =>
  if v255 = 0 then
    (hObj h a0 1).bind fun c264 =>
    hbW (f_MacroExpandModel_take n a0 (0 : Int32) (1 : Int32) h) fun _ h264 =>
    f_MacroExpandModel_defines_j267 n a0 x1 x2 x3 x4 x5 h264
  else
    f_MacroExpandModel_defines_j267 n a0 x1 x2 x3 x4 x5 h
def f_MacroExpandModel_defines_j176 (n : Nat) (a0 : Nat) (x1 : Int32) (x2 : Int32) (x3 : Int32) (x4 : Int32) (x5 : Int32) (x6 : Int32) (h : hH) : Option (((Int32 × Int32) ⊕ ((Int32))) × hH) :=
  if x6 = (257 : Int32) then
    f_MacroExpandModel_defines_j254 n a0 x1 x2 x3 x4 (0 : Int32) h
  else
    (f_MacroExpandModel_isParameter x6 h).bind fun v192 =>
    if v192 = 0 then
      (hgR h a0 1 35).bind fun v205 =>
      (v205).bind fun p209 =>
      (haI h p209 0 x3).bind fun v209 =>
      if v209 = (200 : Int32) then
        (hObj h a0 1).bind fun c219 =>
        hbW (f_MacroExpandModel_mark a0 (8 : Int32) h) fun _ h219 =>
        f_MacroExpandModel_defines_j254 n a0 x1 x2 x3 x4 x5 h219
      else
        (hgR h a0 1 34).bind fun v226 =>
        (hgR h a0 1 35).bind fun v235 =>
        (v235).bind fun p239 =>
        (haI h p239 0 x3).bind fun v239 =>
        (v226).bind fun p243 =>
        (hsI h p243 0 (((200 : Int32) * x3) + v239) x6).bind fun h243 =>
        (hgR h243 a0 1 35).bind fun v245 =>
        (v245).bind fun p250 =>
        (haI h243 p250 0 x3).bind fun v250 =>
        (hsI h243 p250 0 x3 (v250 + (1 : Int32))).bind fun h253 =>
        f_MacroExpandModel_defines_j254 n a0 x1 x2 x3 x4 x5 h253
    else
      f_MacroExpandModel_defines_j254 n a0 x1 x2 (x3 + (1 : Int32)) x4 x5 h
def f_MacroExpandModel_defines_j167 (n : Nat) (a0 : Nat) (x1 : Int32) (x2 : Int32) (x3 : Int32) (x4 : Int32) (x5 : Int32) (h : hH) : Option (((Int32 × Int32) ⊕ ((Int32))) × hH) :=
  (hObj h a0 1).bind fun c170 =>
  hbW (f_MacroExpandModel_mark a0 (6 : Int32) h) fun _ h170 =>
  f_MacroExpandModel_defines_j254 n a0 x1 x2 x3 x4 x5 h170
def f_MacroExpandModel_defines_j118 (n : Nat) (a0 : Nat) (x1 : Int32) (x2 : Int32) (x3 : Int32) (x4 : Int32) (x5 : Int32) (y0 : Int32) (h : hH) : Option (((Int32 × Int32) ⊕ ((Int32))) × hH) :=
  (hgI h a0 1 3).bind fun v121 =>
  if v121 = 0 then
    (hObj h a0 1).bind fun c129 =>
    hbW (f_MacroExpandModel_mark a0 (1 : Int32) h) fun _ h129 =>
    f_MacroExpandModel_defines_j254 n a0 x1 x2 x3 x4 x5 h129
  else
    if y0 = (258 : Int32) then
      f_MacroExpandModel_defines_j167 n a0 x1 x2 x3 x4 x5 h
    else
      (f_MacroExpandModel_isParameter y0 h).bind fun v145 =>
      if v145 = 0 then
        f_MacroExpandModel_defines_j176 n a0 x1 x2 x3 x4 x5 y0 h
      else
        if y0 = ((311 : Int32) + x3) then
          if x3 = (9 : Int32) then
            f_MacroExpandModel_defines_j167 n a0 x1 x2 x3 x4 x5 h
          else
            f_MacroExpandModel_defines_j176 n a0 x1 x2 x3 x4 x5 y0 h
        else
          f_MacroExpandModel_defines_j167 n a0 x1 x2 x3 x4 x5 h
def f_MacroExpandModel_defines_b90 (n : Nat) (a0 : Nat) (x1 : Int32) (x2 : Int32) (x4 : Int32) : (Int32 × Int32) → hH → Option (((Int32 × Int32) ⊕ ((Int32))) × hH) := fun x h =>
  let x3 := x.1
  let x5 := x.2
  if x5 = 0 then
    some (.inr x3, h)
  else
    (hgI h a0 1 21).bind fun v96 =>
    if v96 = 0 then
      (hgI h a0 1 3).bind fun v103 =>
      if v103 ≤ 0 then
        f_MacroExpandModel_defines_j118 n a0 x1 x2 x3 x4 x5 (-1 : Int32) h
      else
        (hObj h a0 1).bind fun c111 =>
        (f_MacroExpandModel_get a0 (0 : Int32) h).bind fun v111 =>
        f_MacroExpandModel_defines_j118 n a0 x1 x2 x3 x4 x5 v111 h
    else
      some (.inr x3, h)
def f_MacroExpandModel_defines_b63 (n : Nat) (a0 : Nat) (x1 : Int32) (x2 : Int32) : (Int32) → hH → Option (((Int32) ⊕ ((Unit))) × hH) := fun x h =>
  let x3 := x
  if (10 : Int32) ≤ x3 then
    some (.inr (), h)
  else
    (hgR h a0 1 35).bind fun v70 =>
    (v70).bind fun p75 =>
    (hsI h p75 0 x3 (0 : Int32)).bind fun h75 =>
    some (.inl (x3 + (1 : Int32)), h75)
def f_MacroExpandModel_defines (n : Nat) (a0 : Nat) (i1 : Int32) (h : hH) : Option ((Unit) × hH) :=
  (hObj h a0 1).bind fun c3 =>
  hbW (f_MacroExpandModel_take n a0 (0 : Int32) (1 : Int32) h) fun _ h3 =>
  (hgI h3 a0 1 3).bind fun v7 =>
  if v7 = 0 then
    (hObj h3 a0 1).bind fun c15 =>
    hbW (f_MacroExpandModel_mark a0 (1 : Int32) h3) fun _ h15 =>
    some ((), h15)
  else
    (hObj h3 a0 1).bind fun c21 =>
    (f_MacroExpandModel_get a0 (0 : Int32) h3).bind fun v21 =>
    (f_MacroExpandModel_isName v21 h3).bind fun v24 =>
    if v24 = 0 then
      (hObj h3 a0 1).bind fun c33 =>
      hbW (f_MacroExpandModel_mark a0 (6 : Int32) h3) fun _ h33 =>
      some ((), h33)
    else
      (hObj h3 a0 1).bind fun c40 =>
      (f_MacroExpandModel_get a0 (0 : Int32) h3).bind fun v40 =>
      (hpV h3 a0 1 22 (.int v40)).bind fun h43 =>
      (hgI h43 a0 1 22).bind fun v47 =>
      (hObj h43 a0 1).bind fun c58 =>
      hbW (f_MacroExpandModel_take n a0 (0 : Int32) (1 : Int32) h43) fun _ h58 =>
      hbW (hloopW (f_MacroExpandModel_defines_b63 n a0 i1 (v47 - (1000 : Int32))) n (0 : Int32) h58) fun b63 h63l =>
      hbW (hloopW (f_MacroExpandModel_defines_b90 n a0 i1 (v47 - (1000 : Int32)) (0 : Int32)) n ((0 : Int32), (1 : Int32)) h63l) fun b90 h90l =>
      let x3_90 := b90
      (hpZ h90l a0 1 24 (0 : Int32)).bind fun h275 =>
      hbW (hloopW (f_MacroExpandModel_defines_b278 n a0 i1 (v47 - (1000 : Int32)) x3_90) n ((0 : Int32), (1 : Int32)) h275) fun b278 h278l =>
      let x4_278 := b278
      (hgI h278l a0 1 21).bind fun v467 =>
      if v467 = 0 then
        (hgI h278l a0 1 6).bind fun v474 =>
        if v474 = (100 : Int32) then
          (hObj h278l a0 1).bind fun c485 =>
          hbW (f_MacroExpandModel_mark a0 (8 : Int32) h278l) fun _ h485 =>
          f_MacroExpandModel_defines_j488 n a0 (v47 - (1000 : Int32)) x3_90 x4_278 h485
        else
          f_MacroExpandModel_defines_j488 n a0 (v47 - (1000 : Int32)) x3_90 x4_278 h278l
      else
        f_MacroExpandModel_defines_j488 n a0 (v47 - (1000 : Int32)) x3_90 x4_278 h278l
