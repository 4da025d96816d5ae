def f_MacroExpandModel_init_b224 (n : Nat) (a0 : Nat) : (Int32) → Nat → hH → hR ((Int32) ⊕ ((Unit))) := fun x nx h =>
  let x3 := x
  if (200 : Int32) ≤ x3 then
    some (.inr (), 0, 0, h)
  else
    (hgR h a0 1 13).bind fun v232 =>
    (v232).bind fun p237 =>
    (hsI h p237 0 x3 (-1 : Int32)).bind fun h237 =>
    some (.inl (x3 + (1 : Int32)), 0, 0, h237)
def f_MacroExpandModel_init_j219 (n : Nat) (a0 : Nat) (y0 : Option Nat) (y1 : Int32) (nx : Nat) (h : hH) : hR (Unit) :=
  (y0).bind fun p219 =>
  (hpV h p219 1 0 (.int y1)).bind fun h219 =>
  hbind (hloopA (f_MacroExpandModel_init_b224 n a0) n (0 : Int32) nx h219) nx fun b224 nx224l h224l =>
  some ((), 0, 0, h224l)
def f_MacroExpandModel_init (n : Nat) (a0 : Nat) (i1 : Int64) (nx : Nat) (h : hH) : hR (Unit) :=
  hbind (hnew (.inl (0, 4096, .inl (fun _ => 0))) (4096) nx h) nx fun _ nx8 h8 =>
  (hpV h8 a0 1 1 (.ref nx)).bind fun h10 =>
  hbind (hnew (.inl (0, 3000, .inl (fun _ => 0))) (3000) nx8 h10) nx8 fun _ nx17 h17 =>
  (hpV h17 a0 1 5 (.ref nx8)).bind fun h19 =>
  hbind (hnew (.inl (0, 100, .inl (fun _ => 0))) (100) nx17 h19) nx17 fun _ nx25 h25 =>
  (hpV h25 a0 1 7 (.ref nx17)).bind fun h27 =>
  hbind (hnew (.inl (0, 100, .inl (fun _ => 0))) (100) nx25 h27) nx25 fun _ nx33 h33 =>
  (hpV h33 a0 1 8 (.ref nx25)).bind fun h35 =>
  hbind (hnew (.inl (0, 100, .inl (fun _ => 0))) (100) nx33 h35) nx33 fun _ nx41 h41 =>
  (hpV h41 a0 1 9 (.ref nx33)).bind fun h43 =>
  hbind (hnew (.inl (0, 20000, .inl (fun _ => 0))) (20000) nx41 h43) nx41 fun _ nx50 h50 =>
  (hpV h50 a0 1 10 (.ref nx41)).bind fun h52 =>
  hbind (hnew (.inl (0, 1000, .inl (fun _ => 0))) (1000) nx50 h52) nx50 fun _ nx59 h59 =>
  (hpV h59 a0 1 11 (.ref nx50)).bind fun h61 =>
  hbind (hnew (.inl (0, 200000, .inl (fun _ => 0))) (200000) nx59 h61) nx59 fun _ nx67 h67 =>
  (hpV h67 a0 1 12 (.ref nx59)).bind fun h69 =>
  hbind (hnew (.inl (0, 200, .inl (fun _ => 0))) (200) nx67 h69) nx67 fun _ nx76 h76 =>
  (hpV h76 a0 1 13 (.ref nx67)).bind fun h78 =>
  hbind (hnew (.inl (0, 4000, .inl (fun _ => 0))) (4000) nx76 h78) nx76 fun _ nx85 h85 =>
  (hpV h85 a0 1 15 (.ref nx76)).bind fun h87 =>
  hbind (hnew (.inl (0, 100, .inl (fun _ => 0))) (100) nx85 h87) nx85 fun _ nx93 h93 =>
  (hpV h93 a0 1 17 (.ref nx85)).bind fun h95 =>
  hbind (hnew (.inl (0, 800, .inl (fun _ => 0))) (800) nx93 h95) nx93 fun _ nx102 h102 =>
  (hpV h102 a0 1 18 (.ref nx93)).bind fun h104 =>
  hbind (hnew (.inl (0, 10, .inl (fun _ => 0))) (10) nx102 h104) nx102 fun _ nx110 h110 =>
  (hpV h110 a0 1 19 (.ref nx102)).bind fun h112 =>
  hbind (hnew (.inl (0, 4000, .inl (fun _ => 0))) (4000) nx110 h112) nx110 fun _ nx119 h119 =>
  (hpV h119 a0 1 20 (.ref nx110)).bind fun h121 =>
  hbind (hnew (.inl (0, 300, .inl (fun _ => 0))) (300) nx119 h121) nx119 fun _ nx128 h128 =>
  (hpV h128 a0 1 26 (.ref nx119)).bind fun h130 =>
  hbind (hnew (.inl (0, 512, .inl (fun _ => 0))) (512) nx128 h130) nx128 fun _ nx137 h137 =>
  (hpV h137 a0 1 27 (.ref nx128)).bind fun h139 =>
  hbind (hnew (.inl (0, 51, .inl (fun _ => 0))) (51) nx137 h139) nx137 fun _ nx145 h145 =>
  (hpV h145 a0 1 29 (.ref nx137)).bind fun h147 =>
  hbind (hnew (.inl (0, 51, .inl (fun _ => 0))) (51) nx145 h147) nx145 fun _ nx153 h153 =>
  (hpV h153 a0 1 30 (.ref nx145)).bind fun h155 =>
  hbind (hnew (.inl (0, 51, .inl (fun _ => 0))) (51) nx153 h155) nx153 fun _ nx161 h161 =>
  (hpV h161 a0 1 31 (.ref nx153)).bind fun h163 =>
  hbind (hnew (.inl (0, 2000, .inl (fun _ => 0))) (2000) nx161 h163) nx161 fun _ nx170 h170 =>
  (hpV h170 a0 1 34 (.ref nx161)).bind fun h172 =>
  hbind (hnew (.inl (0, 10, .inl (fun _ => 0))) (10) nx170 h172) nx170 fun _ nx178 h178 =>
  (hpV h178 a0 1 35 (.ref nx170)).bind fun h180 =>
  hbind (hnew (.inl (0, 200, .inl (fun _ => 0))) (200) nx178 h180) nx178 fun _ nx187 h187 =>
  (hpV h187 a0 1 36 (.ref nx178)).bind fun h189 =>
  if 0 ≤ (lg_cmp i1 (1 : Int64)) then
    if (lg_cmp i1 (20000 : Int64)) ≤ 0 then
      f_MacroExpandModel_init_j219 n a0 (some a0) i1.toInt32 nx187 h189
    else
      f_MacroExpandModel_init_j219 n a0 (some a0) (20000 : Int32) nx187 h189
  else
    f_MacroExpandModel_init_j219 n a0 (some a0) (1 : Int32) nx187 h189
def f_MacroExpandModel_in (i0 : Int32) (i1 : Int32) (i2 : Int32) (h : hH) : Option (Int32) :=
  if i0 < i1 then
    some (0 : Int32)
  else
    if i2 < i0 then
      some (0 : Int32)
    else
      some (1 : Int32)
def f_MacroExpandModel_isName (i0 : Int32) (h : hH) : Option (Int32) :=
  (f_MacroExpandModel_in i0 (1000 : Int32) (1199 : Int32) h).bind fun v7 =>
  if v7 = 0 ∨ v7 = 1 then some v7 else none
def f_MacroExpandModel_isParameter (i0 : Int32) (h : hH) : Option (Int32) :=
  (f_MacroExpandModel_in i0 (311 : Int32) (399 : Int32) h).bind fun v7 =>
  if v7 = 0 then
    some (0 : Int32)
  else
    if (10 : Int32) = 0 then none else
    if (i0 - i0 / (10 : Int32) * (10 : Int32)) = 0 then
      some (0 : Int32)
    else
      some (1 : Int32)
def f_MacroExpandModel_isToken (i0 : Int32) (h : hH) : Option (Int32) :=
  (f_MacroExpandModel_in i0 (0 : Int32) (258 : Int32) h).bind fun v5 =>
  if v5 = 0 then
    (f_MacroExpandModel_in i0 (260 : Int32) (269 : Int32) h).bind fun v18 =>
    if v18 = 0 then
      (f_MacroExpandModel_isParameter i0 h).bind fun v25 =>
      if v25 = 0 then
        (f_MacroExpandModel_isName i0 h).bind fun v32 =>
        if v32 = 0 then
          some (0 : Int32)
        else
          some (1 : Int32)
      else
        some (1 : Int32)
    else
      some (1 : Int32)
  else
    some (1 : Int32)
def f_MacroExpandModel_newMacro_b81 (n : Nat) (a0 : Nat) (x1 : Int32) (x3 : Int32) (x4 : Int32) : (Int32) → hH → Option (((Int32) ⊕ ((Unit))) × hH) := fun x h =>
  let x5 := x
  (hgI h a0 1 14).bind fun v84 =>
  if v84 ≤ x5 then
    some (.inr (), h)
  else
    if (x3 &&& (4 : Int32)) = 0 then
      some (.inr (), h)
    else
      (hgR h a0 1 15).bind fun v97 =>
      (v97).bind fun p110 =>
      (hsI h p110 0 (((200 : Int32) * x5) + x1) x4).bind fun h110 =>
      some (.inl (x5 + (1 : Int32)), h110)
def f_MacroExpandModel_newMacro_b33 (n : Nat) (a0 : Nat) (x1 : Int32) (x3 : Int32) (x4 : Int32) : (Int32) → hH → Option (((Int32) ⊕ ((Unit))) × hH) := fun x h =>
  let x5 := x
  if (10 : Int32) ≤ x5 then
    some (.inr (), h)
  else
    (hgR h a0 1 11).bind fun v41 =>
    (v41).bind fun p53 =>
    (hsI h p53 0 (((10 : Int32) * x4) + x5) (0 : Int32)).bind fun h53 =>
    some (.inl (x5 + (1 : Int32)), h53)
def f_MacroExpandModel_newMacro (n : Nat) (a0 : Nat) (i1 : Int32) (i2 : Int32) (i3 : Int32) (h : hH) : Option ((Int32) × hH) :=
  (hgI h a0 1 6).bind fun v1 =>
  (hgR h a0 1 7).bind fun v7 =>
  (v7).bind fun p13 =>
  (hsI h p13 0 v1 i2).bind fun h13 =>
  (hgR h13 a0 1 8).bind fun v15 =>
  (v15).bind fun p21 =>
  (hsI h13 p21 0 v1 i3).bind fun h21 =>
  (hgR h21 a0 1 9).bind fun v23 =>
  (v23).bind fun p29 =>
  (hsI h21 p29 0 v1 (0 : Int32)).bind fun h29 =>
  hbW (hloopW (f_MacroExpandModel_newMacro_b33 n a0 i1 i3 v1) n (0 : Int32) h29) fun b33 h33l =>
  (hgI h33l a0 1 6).bind fun v62 =>
  (hpV h33l a0 1 6 (.int (v62 + (1 : Int32)))).bind fun h67 =>
  (hgR h67 a0 1 13).bind fun v71 =>
  (v71).bind fun p77 =>
  (hsI h67 p77 0 i1 v1).bind fun h77 =>
  hbW (hloopW (f_MacroExpandModel_newMacro_b81 n a0 i1 i3 v1) n (0 : Int32) h77) fun b81 h81l =>
  some (v1, h81l)
def f_MacroExpandModel_define (n : Nat) (a0 : Nat) (i1 : Int32) (i2 : Int32) (i3 : Int32) (h : hH) : Option ((Int32) × hH) :=
  (f_MacroExpandModel_in i1 (0 : Int32) (199 : Int32) h).bind fun v5 =>
  if v5 = 0 then
    some ((-2 : Int32), h)
  else
    (f_MacroExpandModel_in i2 (0 : Int32) (9 : Int32) h).bind fun v15 =>
    if v15 = 0 then
      some ((-2 : Int32), h)
    else
      (f_MacroExpandModel_in i3 (0 : Int32) (7 : Int32) h).bind fun v25 =>
      if v25 = 0 then
        some ((-2 : Int32), h)
      else
        (hgI h a0 1 6).bind fun v35 =>
        if v35 = (100 : Int32) then
          some ((-4 : Int32), h)
        else
          (hObj h a0 1).bind fun c52 =>
          hbW (f_MacroExpandModel_newMacro n a0 i1 i2 i3 h) fun v52 h52 =>
          some (v52, h52)
def f_MacroExpandModel_body (a0 : Nat) (i1 : Int32) (i2 : Int32) (h : hH) : Option ((Int32) × hH) :=
  (hgI h a0 1 6).bind fun v3 =>
  (f_MacroExpandModel_in i1 (0 : Int32) (v3 - (1 : Int32)) h).bind fun v8 =>
  if v8 = 0 then
    some ((-1 : Int32), h)
  else
    (f_MacroExpandModel_isToken i2 h).bind fun v17 =>
    if v17 = 0 then
      some ((-2 : Int32), h)
    else
      (hgR h a0 1 9).bind fun v27 =>
      (v27).bind fun p31 =>
      (haI h p31 0 i1).bind fun v31 =>
      if v31 = (200 : Int32) then
        some ((-4 : Int32), h)
      else
        (hgR h a0 1 10).bind fun v42 =>
        (hgR h a0 1 9).bind fun v51 =>
        (v51).bind fun p55 =>
        (haI h p55 0 i1).bind fun v55 =>
        (v42).bind fun p58 =>
        (hsI h p58 0 (((200 : Int32) * i1) + v55) i2).bind fun h58 =>
        (hgR h58 a0 1 9).bind fun v60 =>
        (v60).bind fun p65 =>
        (haI h58 p65 0 i1).bind fun v65 =>
        (hsI h58 p65 0 i1 (v65 + (1 : Int32))).bind fun h68 =>
        (hgR h68 a0 1 9).bind fun v70 =>
        (v70).bind fun p74 =>
        (haI h68 p74 0 i1).bind fun v74 =>
        some (v74, h68)
def f_MacroExpandModel_delimiter (a0 : Nat) (i1 : Int32) (i2 : Int32) (i3 : Int32) (h : hH) : Option ((Int32) × hH) :=
  (hgI h a0 1 6).bind fun v3 =>
  (f_MacroExpandModel_in i1 (0 : Int32) (v3 - (1 : Int32)) h).bind fun v8 =>
  if v8 = 0 then
    some ((-1 : Int32), h)
  else
    (hgR h a0 1 7).bind fun v19 =>
    (v19).bind fun p23 =>
    (haI h p23 0 i1).bind fun v23 =>
    (f_MacroExpandModel_in i2 (0 : Int32) v23 h).bind fun v24 =>
    if v24 = 0 then
      some ((-2 : Int32), h)
    else
      (f_MacroExpandModel_isToken i3 h).bind fun v31 =>
      if v31 = 0 then
        some ((-2 : Int32), h)
      else
        if i3 = (257 : Int32) then
          some ((-2 : Int32), h)
        else
          if i3 = (258 : Int32) then
            some ((-2 : Int32), h)
          else
            (f_MacroExpandModel_isParameter i3 h).bind fun v52 =>
            if v52 = 0 then
              (hgR h a0 1 11).bind fun v70 =>
              (v70).bind fun p75 =>
              (haI h p75 0 (((10 : Int32) * i1) + i2)).bind fun v75 =>
              if v75 = (200 : Int32) then
                some ((-4 : Int32), h)
              else
                (hgR h a0 1 12).bind fun v86 =>
                (hgR h a0 1 11).bind fun v96 =>
                (v96).bind fun p101 =>
                (haI h p101 0 (((10 : Int32) * i1) + i2)).bind fun v101 =>
                (v86).bind fun p104 =>
                (hsI h p104 0 (((200 : Int32) * (((10 : Int32) * i1) + i2)) + v101) i3).bind fun h104 =>
                (hgR h104 a0 1 11).bind fun v106 =>
                (v106).bind fun p112 =>
                (haI h104 p112 0 (((10 : Int32) * i1) + i2)).bind fun v112 =>
                (hsI h104 p112 0 (((10 : Int32) * i1) + i2) (v112 + (1 : Int32))).bind fun h115 =>
                (hgR h115 a0 1 11).bind fun v117 =>
                (v117).bind fun p122 =>
                (haI h115 p122 0 (((10 : Int32) * i1) + i2)).bind fun v122 =>
                some (v122, h115)
            else
              some ((-2 : Int32), h)
def f_MacroExpandModel_token (a0 : Nat) (i1 : Int32) (h : hH) : Option ((Int32) × hH) :=
  (f_MacroExpandModel_isToken i1 h).bind fun v1 =>
  if v1 = 0 then
    some ((-2 : Int32), h)
  else
    (hgI h a0 1 3).bind fun v11 =>
    if v11 = (3000 : Int32) then
      some ((-4 : Int32), h)
    else
      (hgR h a0 1 1).bind fun v24 =>
      (hgI h a0 1 2).bind fun v28 =>
      (hgI h a0 1 3).bind fun v32 =>
      (v24).bind fun p41 =>
      (hsI h p41 0 ((v28 + v32) &&& (4095 : Int32)) i1).bind fun h41 =>
      (hgI h41 a0 1 3).bind fun v44 =>
      (hpV h41 a0 1 3 (.int (v44 + (1 : Int32)))).bind fun h49 =>
      (hgI h49 a0 1 3).bind fun v53 =>
      some (v53, h49)
def f_MacroExpandModel_group_b89 (n : Nat) (a0 : Nat) : (Int32) → hH → Option (((Int32) ⊕ ((Unit))) × hH) := fun x h =>
  let x2 := x
  if (200 : Int32) ≤ x2 then
    some (.inr (), h)
  else
    (hgR h a0 1 13).bind fun v97 =>
    (hgR h a0 1 15).bind fun v102 =>
    (hgI h a0 1 14).bind fun v109 =>
    (v102).bind fun p115 =>
    (haI h p115 0 (((200 : Int32) * v109) + x2)).bind fun v115 =>
    (v97).bind fun p116 =>
    (hsI h p116 0 x2 v115).bind fun h116 =>
    some (.inl (x2 + (1 : Int32)), h116)
def f_MacroExpandModel_group_b18 (n : Nat) (a0 : Nat) : (Int32) → hH → Option (((Int32) ⊕ ((Unit))) × hH) := fun x h =>
  let x2 := x
  if (200 : Int32) ≤ x2 then
    some (.inr (), h)
  else
    (hgR h a0 1 15).bind fun v26 =>
    (hgI h a0 1 14).bind fun v33 =>
    (hgR h a0 1 13).bind fun v40 =>
    (v40).bind fun p44 =>
    (haI h p44 0 x2).bind fun v44 =>
    (v26).bind fun p45 =>
    (hsI h p45 0 (((200 : Int32) * v33) + x2) v44).bind fun h45 =>
    some (.inl (x2 + (1 : Int32)), h45)
def f_MacroExpandModel_group (n : Nat) (a0 : Nat) (i1 : Int32) (h : hH) : Option ((Int32) × hH) :=
  if i1 = 0 then
    (hgI h a0 1 14).bind fun v68 =>
    if v68 = 0 then
      some ((-3 : Int32), h)
    else
      (hgI h a0 1 14).bind fun v79 =>
      (hpV h a0 1 14 (.int (v79 - (1 : Int32)))).bind fun h84 =>
      hbW (hloopW (f_MacroExpandModel_group_b89 n a0) n (0 : Int32) h84) fun b89 h89l =>
      (hgI h89l a0 1 14).bind fun v124 =>
      some (v124, h89l)
  else
    (hgI h a0 1 14).bind fun v5 =>
    if v5 = (20 : Int32) then
      some ((-4 : Int32), h)
    else
      hbW (hloopW (f_MacroExpandModel_group_b18 n a0) n (0 : Int32) h) fun b18 h18l =>
      (hgI h18l a0 1 14).bind fun v54 =>
      (hpV h18l a0 1 14 (.int (v54 + (1 : Int32)))).bind fun h59 =>
      (hgI h59 a0 1 14).bind fun v63 =>
      some (v63, h59)
def f_MacroExpandModel_get (a0 : Nat) (i1 : Int32) (h : hH) : Option (Int32) :=
  (hgR h a0 1 1).bind fun v1 =>
  (hgI h a0 1 2).bind fun v5 =>
  (v1).bind fun p14 =>
  (haI h p14 0 ((v5 + i1) &&& (4095 : Int32))).bind fun v14 =>
  some v14
def f_MacroExpandModel_mark_j16 (y0 : Option Nat) (y1 : Int32) (h : hH) : Option ((Unit) × hH) :=
  (y0).bind fun p16 =>
  (hpV h p16 1 21 (.int y1)).bind fun h16 =>
  some ((), h16)
def f_MacroExpandModel_mark (a0 : Nat) (i1 : Int32) (h : hH) : Option ((Unit) × hH) :=
  (hgI h a0 1 21).bind fun v2 =>
  if v2 = 0 then
    f_MacroExpandModel_mark_j16 (some a0) i1 h
  else
    (hgI h a0 1 21).bind fun v13 =>
    f_MacroExpandModel_mark_j16 (some a0) v13 h
def f_MacroExpandModel_take_b4 (n : Nat) (a0 : Nat) (x2 : Int32) : (Int32) → hH → Option (((Int32) ⊕ ((Unit))) × hH) := fun x h =>
  let x3 := x
  if x3 < 0 then
    some (.inr (), h)
  else
    (hgR h a0 1 1).bind fun v9 =>
    (hgI h a0 1 2).bind fun v13 =>
    (hObj h a0 1).bind fun c26 =>
    (f_MacroExpandModel_get a0 x3 h).bind fun v26 =>
    (v9).bind fun p29 =>
    (hsI h p29 0 (((v13 + x3) + x2) &&& (4095 : Int32)) v26).bind fun h29 =>
    some (.inl (x3 + (-1 : Int32)), h29)
def f_MacroExpandModel_take (n : Nat) (a0 : Nat) (i1 : Int32) (i2 : Int32) (h : hH) : Option ((Unit) × hH) :=
  hbW (hloopW (f_MacroExpandModel_take_b4 n a0 i2) n (i1 - (1 : Int32)) h) fun b4 h4l =>
  (hgI h4l a0 1 2).bind fun v38 =>
  (hpV h4l a0 1 2 (.int ((v38 + i2) &&& (4095 : Int32)))).bind fun h47 =>
  (hgI h47 a0 1 3).bind fun v52 =>
  (hpV h47 a0 1 3 (.int (v52 - i2))).bind fun h57 =>
  some ((), h57)
def f_MacroExpandModel_spread_b26 (n : Nat) (a0 : Nat) (x1 : Int32) (x2 : Int32) : (Int32) → hH → Option (((Int32) ⊕ ((Unit))) × hH) := fun x h =>
  let x3 := x
  if x1 ≤ x3 then
    some (.inr (), h)
  else
    (hgR h a0 1 1).bind fun v32 =>
    (hgI h a0 1 2).bind fun v36 =>
    (hObj h a0 1).bind fun c49 =>
    (f_MacroExpandModel_get a0 (x3 + x2) h).bind fun v49 =>
    (v32).bind fun p52 =>
    (hsI h p52 0 ((v36 + x3) &&& (4095 : Int32)) v49).bind fun h52 =>
    some (.inl (x3 + (1 : Int32)), h52)
def f_MacroExpandModel_spread (n : Nat) (a0 : Nat) (i1 : Int32) (i2 : Int32) (h : hH) : Option ((Unit) × hH) :=
  (hgI h a0 1 2).bind fun v2 =>
  (hpV h a0 1 2 (.int ((v2 - i2) &&& (4095 : Int32)))).bind fun h11 =>
  (hgI h11 a0 1 3).bind fun v16 =>
  (hpV h11 a0 1 3 (.int (v16 + i2))).bind fun h21 =>
  hbW (hloopW (f_MacroExpandModel_spread_b26 n a0 i1 i2) n (0 : Int32) h21) fun b26 h26l =>
  some ((), h26l)
def f_MacroExpandModel_set (a0 : Nat) (i1 : Int32) (i2 : Int32) (h : hH) : Option ((Unit) × hH) :=
  (hgR h a0 1 1).bind fun v1 =>
  (hgI h a0 1 2).bind fun v5 =>
  (v1).bind fun p15 =>
  (hsI h p15 0 ((v5 + i1) &&& (4095 : Int32)) i2).bind fun h15 =>
  some ((), h15)
def f_MacroExpandModel_macroAt (a0 : Nat) (i1 : Int32) (h : hH) : Option (Int32) :=
  (hObj h a0 1).bind fun c2 =>
  (f_MacroExpandModel_get a0 i1 h).bind fun v2 =>
  (f_MacroExpandModel_isName v2 h).bind fun v5 =>
  if v5 = 0 then
    some (-1 : Int32)
  else
    (hgR h a0 1 13).bind fun v12 =>
    (hObj h a0 1).bind fun c17 =>
    (f_MacroExpandModel_get a0 i1 h).bind fun v17 =>
    (v12).bind fun p24 =>
    (haI h p24 0 (v17 - (1000 : Int32))).bind fun v24 =>
    some v24
def f_MacroExpandModel_canBeExpanded (a0 : Nat) (i1 : Int32) (h : hH) : Option (Int32) :=
  (hObj h a0 1).bind fun c2 =>
  (f_MacroExpandModel_macroAt a0 i1 h).bind fun v2 =>
  if 0 ≤ v2 then
    some (1 : Int32)
  else
    (hObj h a0 1).bind fun c10 =>
    (f_MacroExpandModel_get a0 i1 h).bind fun v10 =>
    (f_MacroExpandModel_in v10 (260 : Int32) (262 : Int32) h).bind fun v19 =>
    if v19 = 0 then
      some (0 : Int32)
    else
      some (1 : Int32)
def f_MacroExpandModel_isThere_j50 (a0 : Nat) (h : hH) : Option ((Int32) × hH) :=
  (hObj h a0 1).bind fun c52 =>
  hbW (f_MacroExpandModel_mark a0 (2 : Int32) h) fun _ h52 =>
  some ((0 : Int32), h52)
def f_MacroExpandModel_isThere_j36 (a0 : Nat) (x1 : Int32) (x2 : Int32) (h : hH) : Option ((Int32) × hH) :=
  (hObj h a0 1).bind fun c38 =>
  (f_MacroExpandModel_get a0 x1 h).bind fun v38 =>
  if v38 = (10 : Int32) then
    if x2 = 0 then
      f_MacroExpandModel_isThere_j50 a0 h
    else
      some ((1 : Int32), h)
  else
    some ((1 : Int32), h)
def f_MacroExpandModel_isThere (a0 : Nat) (i1 : Int32) (i2 : Int32) (h : hH) : Option ((Int32) × hH) :=
  (hgI h a0 1 3).bind fun v2 =>
  if i1 < v2 then
    (hObj h a0 1).bind fun c17 =>
    (f_MacroExpandModel_macroAt a0 i1 h).bind fun v17 =>
    if v17 < 0 then
      f_MacroExpandModel_isThere_j36 a0 i1 i2 h
    else
      (hgR h a0 1 8).bind fun v26 =>
      (v26).bind fun p30 =>
      (haI h p30 0 v17).bind fun v30 =>
      if (v30 &&& (2 : Int32)) = 0 then
        f_MacroExpandModel_isThere_j36 a0 i1 i2 h
      else
        f_MacroExpandModel_isThere_j50 a0 h
  else
    (hObj h a0 1).bind fun c10 =>
    hbW (f_MacroExpandModel_mark a0 (1 : Int32) h) fun _ h10 =>
    some ((0 : Int32), h10)
def f_MacroExpandModel_rowComes_j68 (n : Nat) (a0 : Nat) (x1 : Int32) (x2 : Int32) (x4 : Int32) (y0 : Int32) (h : hH) : Option ((Int32 × Int32) ⊕ ((Int32))) :=
  some (.inl (y0, (x4 + (1 : Int32))))
def f_MacroExpandModel_rowComes_b24 (n : Nat) (a0 : Nat) (x1 : Int32) (x2 : Int32) (h : hH) : (Int32 × Int32) → Option ((Int32 × Int32) ⊕ ((Int32))) := fun x =>
  let x3 := x.1
  let x4 := x.2
  (hgR h a0 1 11).bind fun v27 =>
  (v27).bind fun p31 =>
  (haI h p31 0 x1).bind fun v31 =>
  if v31 ≤ x4 then
    some (.inr x3)
  else
    if x3 = 0 then
      some (.inr x3)
    else
      (hObj h a0 1).bind fun c44 =>
      (f_MacroExpandModel_get a0 (x2 + x4) h).bind fun v44 =>
      (hgR h a0 1 12).bind fun v48 =>
      (v48).bind fun p59 =>
      (haI h p59 0 (((200 : Int32) * x1) + x4)).bind fun v59 =>
      if v44 = v59 then
        f_MacroExpandModel_rowComes_j68 n a0 x1 x2 x4 (1 : Int32) h
      else
        f_MacroExpandModel_rowComes_j68 n a0 x1 x2 x4 (0 : Int32) h
def f_MacroExpandModel_rowComes_j20 (n : Nat) (a0 : Nat) (x1 : Int32) (x2 : Int32) (y0 : Int32) (h : hH) : Option (Int32) :=
  (hloopR (f_MacroExpandModel_rowComes_b24 n a0 x1 x2 h) n (y0, (0 : Int32))).bind fun b24 =>
  let x3_24 := b24
  if x3_24 = 0 ∨ x3_24 = 1 then some x3_24 else none
def f_MacroExpandModel_rowComes (n : Nat) (a0 : Nat) (i1 : Int32) (i2 : Int32) (h : hH) : Option (Int32) :=
  (hgR h a0 1 11).bind fun v2 =>
  (v2).bind fun p6 =>
  (haI h p6 0 i1).bind fun v6 =>
  (hgI h a0 1 3).bind fun v9 =>
  if v9 < (i2 + v6) then
    f_MacroExpandModel_rowComes_j20 n a0 i1 i2 (0 : Int32) h
  else
    f_MacroExpandModel_rowComes_j20 n a0 i1 i2 (1 : Int32) h
def f_MacroExpandModel_give (a0 : Nat) (i1 : Int32) (i2 : Int32) (h : hH) : Option ((Unit) × hH) :=
  (hgR h a0 1 19).bind fun v1 =>
  (v1).bind fun p5 =>
  (haI h p5 0 i1).bind fun v5 =>
  if v5 = (400 : Int32) then
    (hObj h a0 1).bind fun c15 =>
    hbW (f_MacroExpandModel_mark a0 (8 : Int32) h) fun _ h15 =>
    some ((), h15)
  else
    (hgR h a0 1 20).bind fun v20 =>
    (hgR h a0 1 19).bind fun v29 =>
    (v29).bind fun p33 =>
    (haI h p33 0 i1).bind fun v33 =>
    (v20).bind fun p36 =>
    (hsI h p36 0 (((400 : Int32) * i1) + v33) i2).bind fun h36 =>
    (hgR h36 a0 1 19).bind fun v38 =>
    (v38).bind fun p43 =>
    (haI h36 p43 0 i1).bind fun v43 =>
    (hsI h36 p43 0 i1 (v43 + (1 : Int32))).bind fun h46 =>
    some ((), h46)
def f_MacroExpandModel_plain_j174 (n : Nat) (a0 : Nat) (x1 : Int32) (x3 : Int32) (x4 : Int32) (x5 : Int32) (h : hH) : Option (((Int32 × Int32) ⊕ ((Int32))) × hH) :=
  some (.inl ((x4 + (1 : Int32)), x5), h)
def f_MacroExpandModel_plain_j155 (n : Nat) (a0 : Nat) (x1 : Int32) (x3 : Int32) (x4 : Int32) (y0 : Int32) (y1 : Int32) (h : hH) : Option (((Int32 × Int32) ⊕ ((Int32))) × hH) :=
  if (y0 + y1) ≤ 0 then
    f_MacroExpandModel_plain_j174 n a0 x1 x3 x4 (y0 + y1) h
  else
    (hObj h a0 1).bind fun c168 =>
    (f_MacroExpandModel_get a0 x4 h).bind fun v168 =>
    (hObj h a0 1).bind fun c171 =>
    hbW (f_MacroExpandModel_give a0 x1 v168 h) fun _ h171 =>
    f_MacroExpandModel_plain_j174 n a0 x1 x3 x4 (y0 + y1) h171
def f_MacroExpandModel_plain_b98 (n : Nat) (a0 : Nat) (x1 : Int32) (x3 : Int32) : (Int32 × Int32) → hH → Option (((Int32 × Int32) ⊕ ((Int32))) × hH) := fun x h =>
  let x4 := x.1
  let x5 := x.2
  if x5 ≤ 0 then
    some (.inr x4, h)
  else
    (hgI h a0 1 21).bind fun v104 =>
    if v104 = 0 then
      (hObj h a0 1).bind fun c114 =>
      hbW (f_MacroExpandModel_isThere a0 x4 x3 h) fun v114 h114 =>
      if v114 = 0 then
        some (.inr x4, h114)
      else
        (hObj h114 a0 1).bind fun c125 =>
        (f_MacroExpandModel_get a0 x4 h114).bind fun v125 =>
        if v125 = (257 : Int32) then
          f_MacroExpandModel_plain_j155 n a0 x1 x3 x4 x5 (1 : Int32) h114
        else
          (hObj h114 a0 1).bind fun c141 =>
          (f_MacroExpandModel_get a0 x4 h114).bind fun v141 =>
          if v141 = (258 : Int32) then
            f_MacroExpandModel_plain_j155 n a0 x1 x3 x4 x5 (-1 : Int32) h114
          else
            f_MacroExpandModel_plain_j155 n a0 x1 x3 x4 x5 (0 : Int32) h114
    else
      some (.inr x4, h)
def f_MacroExpandModel_plain_b3 (n : Nat) (a0 : Nat) (x1 : Int32) (x3 : Int32) : (Int32) → hH → Option (((Int32) ⊕ ((Int32))) × hH) := fun x h =>
  let x4 := x
  (hgI h a0 1 3).bind fun v6 =>
  if v6 ≤ x4 then
    some (.inr x4, h)
  else
    (hObj h a0 1).bind fun c15 =>
    (f_MacroExpandModel_get a0 x4 h).bind fun v15 =>
    if v15 = (256 : Int32) then
      some (.inl (x4 + (1 : Int32)), h)
    else
      some (.inr x4, h)
def f_MacroExpandModel_plain (n : Nat) (a0 : Nat) (i1 : Int32) (i2 : Int32) (i3 : Int32) (h : hH) : Option ((Int32) × hH) :=
  hbW (hloopW (f_MacroExpandModel_plain_b3 n a0 i1 i3) n i2 h) fun b3 h3l =>
  let x4_3 := b3
  (hObj h3l a0 1).bind fun c34 =>
  hbW (f_MacroExpandModel_isThere a0 x4_3 i3 h3l) fun v34 h34 =>
  if v34 = 0 then
    some (x4_3, h34)
  else
    (hObj h34 a0 1).bind fun c46 =>
    (f_MacroExpandModel_get a0 x4_3 h34).bind fun v46 =>
    if v46 = (258 : Int32) then
      (hObj h34 a0 1).bind fun c58 =>
      hbW (f_MacroExpandModel_mark a0 (7 : Int32) h34) fun _ h58 =>
      some (x4_3, h58)
    else
      (hObj h34 a0 1).bind fun c67 =>
      (f_MacroExpandModel_get a0 x4_3 h34).bind fun v67 =>
      if v67 = (257 : Int32) then
        hbW (hloopW (f_MacroExpandModel_plain_b98 n a0 i1 i3) n ((x4_3 + (1 : Int32)), (1 : Int32)) h34) fun b98 h98l =>
        let x4_98 := b98
        some (x4_98, h98l)
      else
        (hObj h34 a0 1).bind fun c81 =>
        (f_MacroExpandModel_get a0 x4_3 h34).bind fun v81 =>
        (hObj h34 a0 1).bind fun c84 =>
        hbW (f_MacroExpandModel_give a0 i1 v81 h34) fun _ h84 =>
        some ((x4_3 + (1 : Int32)), h84)
def f_MacroExpandModel_delimited_j226 (n : Nat) (a0 : Nat) (x2 : Int32) (x5 : Int32) (h : hH) : Option ((Int32) × hH) :=
  (hgR h a0 1 11).bind fun v229 =>
  (v229).bind fun p233 =>
  (haI h p233 0 x2).bind fun v233 =>
  some ((x5 + v233), h)
def f_MacroExpandModel_delimited_b181 (n : Nat) (a0 : Nat) (x1 : Int32) (x2 : Int32) (x5 : Int32) : (Int32) → hH → Option (((Int32) ⊕ ((Unit))) × hH) := fun x h =>
  let x8 := x
  (hgR h a0 1 19).bind fun v184 =>
  (v184).bind fun p188 =>
  (haI h p188 0 x1).bind fun v188 =>
  if v188 ≤ x8 then
    some (.inr (), h)
  else
    (hgR h a0 1 20).bind fun v193 =>
    (hgR h a0 1 20).bind fun v205 =>
    (v205).bind fun p218 =>
    (haI h p218 0 ((((400 : Int32) * x1) + x8) + (1 : Int32))).bind fun v218 =>
    (v193).bind fun p219 =>
    (hsI h p219 0 (((400 : Int32) * x1) + x8) v218).bind fun h219 =>
    some (.inl (x8 + (1 : Int32)), h219)
def f_MacroExpandModel_delimited_j140 (n : Nat) (a0 : Nat) (x1 : Int32) (x2 : Int32) (x3 : Int32) (x4 : Int32) (x5 : Int32) (x6 : Int32) (x7 : Int32) (h : hH) : Option (((Int32 × Int32 × Int32) ⊕ ((Int32 × Int32))) × hH) :=
  some (.inl ((x5 + (1 : Int32)), x6, x7), h)
def f_MacroExpandModel_delimited_j130 (n : Nat) (a0 : Nat) (x1 : Int32) (x2 : Int32) (x3 : Int32) (x4 : Int32) (x5 : Int32) (x7 : Int32) (x8 : Int32) (y0 : Int32) (y1 : Int32) (h : hH) : Option (((Int32 × Int32 × Int32) ⊕ ((Int32 × Int32))) × hH) :=
  (hObj h a0 1).bind fun c137 =>
  hbW (f_MacroExpandModel_give a0 x1 x8 h) fun _ h137 =>
  f_MacroExpandModel_delimited_j140 n a0 x1 x2 x3 x4 x5 (y0 + y1) x7 h137
def f_MacroExpandModel_delimited_j103 (n : Nat) (a0 : Nat) (x1 : Int32) (x2 : Int32) (x3 : Int32) (x4 : Int32) (x5 : Int32) (x6 : Int32) (x7 : Int32) (x8 : Int32) (h : hH) : Option (((Int32 × Int32 × Int32) ⊕ ((Int32 × Int32))) × hH) :=
  if x8 = (257 : Int32) then
    f_MacroExpandModel_delimited_j130 n a0 x1 x2 x3 x4 x5 x7 x8 x6 (1 : Int32) h
  else
    if x8 = (258 : Int32) then
      f_MacroExpandModel_delimited_j130 n a0 x1 x2 x3 x4 x5 x7 x8 x6 (-1 : Int32) h
    else
      f_MacroExpandModel_delimited_j130 n a0 x1 x2 x3 x4 x5 x7 x8 x6 (0 : Int32) h
def f_MacroExpandModel_delimited_j79 (n : Nat) (a0 : Nat) (x1 : Int32) (x2 : Int32) (x3 : Int32) (x4 : Int32) (x5 : Int32) (x6 : Int32) (x8 : Int32) (y0 : Int32) (h : hH) : Option (((Int32 × Int32 × Int32) ⊕ ((Int32 × Int32))) × hH) :=
  if x8 = (258 : Int32) then
    if x6 = 0 then
      (hObj h a0 1).bind fun c97 =>
      hbW (f_MacroExpandModel_mark a0 (7 : Int32) h) fun _ h97 =>
      f_MacroExpandModel_delimited_j140 n a0 x1 x2 x3 x4 x5 x6 y0 h97
    else
      f_MacroExpandModel_delimited_j103 n a0 x1 x2 x3 x4 x5 x6 y0 x8 h
  else
    f_MacroExpandModel_delimited_j103 n a0 x1 x2 x3 x4 x5 x6 y0 x8 h
def f_MacroExpandModel_delimited_j78 (n : Nat) (a0 : Nat) (x1 : Int32) (x2 : Int32) (x3 : Int32) (x4 : Int32) (x5 : Int32) (x6 : Int32) (x8 : Int32) (h : hH) : Option (((Int32 × Int32 × Int32) ⊕ ((Int32 × Int32))) × hH) :=
  f_MacroExpandModel_delimited_j79 n a0 x1 x2 x3 x4 x5 x6 x8 (0 : Int32) h
def f_MacroExpandModel_delimited_j74 (n : Nat) (a0 : Nat) (x1 : Int32) (x2 : Int32) (x3 : Int32) (x4 : Int32) (x5 : Int32) (x6 : Int32) (x8 : Int32) (h : hH) : Option (((Int32 × Int32 × Int32) ⊕ ((Int32 × Int32))) × hH) :=
  f_MacroExpandModel_delimited_j79 n a0 x1 x2 x3 x4 x5 x6 x8 (1 : Int32) h
def f_MacroExpandModel_delimited_j31 (n : Nat) (a0 : Nat) (x1 : Int32) (x2 : Int32) (x3 : Int32) (x4 : Int32) (x5 : Int32) (x6 : Int32) (x7 : Int32) (h : hH) : Option (((Int32 × Int32 × Int32) ⊕ ((Int32 × Int32))) × hH) :=
  (hObj h a0 1).bind fun c36 =>
  hbW (f_MacroExpandModel_isThere a0 x5 x4 h) fun v36 h36 =>
  if v36 = 0 then
    some (.inl (x5, x6, x7), h36)
  else
    (hObj h36 a0 1).bind fun c45 =>
    (f_MacroExpandModel_get a0 x5 h36).bind fun v45 =>
    if x7 = 0 then
      f_MacroExpandModel_delimited_j78 n a0 x1 x2 x3 x4 x5 x6 v45 h36
    else
      if 0 < x6 then
        f_MacroExpandModel_delimited_j74 n a0 x1 x2 x3 x4 x5 x6 v45 h36
      else
        if x5 = x3 then
          if v45 = (257 : Int32) then
            f_MacroExpandModel_delimited_j74 n a0 x1 x2 x3 x4 x5 x6 v45 h36
          else
            f_MacroExpandModel_delimited_j78 n a0 x1 x2 x3 x4 x5 x6 v45 h36
        else
          f_MacroExpandModel_delimited_j78 n a0 x1 x2 x3 x4 x5 x6 v45 h36
def f_MacroExpandModel_delimited_b9 (n : Nat) (a0 : Nat) (x1 : Int32) (x2 : Int32) (x3 : Int32) (x4 : Int32) : (Int32 × Int32 × Int32) → hH → Option (((Int32 × Int32 × Int32) ⊕ ((Int32 × Int32))) × hH) := fun x h =>
  let x5 := x.1
  let x6 := x.2.1
  let x7 := x.2.2
  (hgI h a0 1 21).bind fun v10 =>
  if v10 = 0 then
    if x6 = 0 then
      (hObj h a0 1).bind fun c25 =>
      (f_MacroExpandModel_rowComes n a0 x2 x5 h).bind fun v25 =>
      if v25 = 0 then
        f_MacroExpandModel_delimited_j31 n a0 x1 x2 x3 x4 x5 x6 x7 h
      else
        some (.inr (x5, x7), h)
    else
      f_MacroExpandModel_delimited_j31 n a0 x1 x2 x3 x4 x5 x6 x7 h
  else
    some (.inr (x5, x7), h)
def f_MacroExpandModel_delimited (n : Nat) (a0 : Nat) (i1 : Int32) (i2 : Int32) (i3 : Int32) (i4 : Int32) (h : hH) : Option ((Int32) × hH) :=
  hbW (hloopW (f_MacroExpandModel_delimited_b9 n a0 i1 i2 i3 i4) n (i3, (0 : Int32), (1 : Int32)) h) fun b9 h9l =>
  let x5_9 := b9.1
  let x7_9 := b9.2
  (hgI h9l a0 1 21).bind fun v147 =>
  if v147 = 0 then
    if x7_9 = 0 then
      f_MacroExpandModel_delimited_j226 n a0 i2 x5_9 h9l
    else
      (hgR h9l a0 1 19).bind fun v159 =>
      (v159).bind fun p163 =>
      (haI h9l p163 0 i1).bind fun v163 =>
      if v163 ≤ (1 : Int32) then
        f_MacroExpandModel_delimited_j226 n a0 i2 x5_9 h9l
      else
        (hgR h9l a0 1 19).bind fun v169 =>
        (v169).bind fun p174 =>
        (haI h9l p174 0 i1).bind fun v174 =>
        (hsI h9l p174 0 i1 (v174 - (2 : Int32))).bind fun h177 =>
        hbW (hloopW (f_MacroExpandModel_delimited_b181 n a0 i1 i2 x5_9) n (0 : Int32) h177) fun b181 h181l =>
        f_MacroExpandModel_delimited_j226 n a0 i2 x5_9 h181l
  else
    f_MacroExpandModel_delimited_j226 n a0 i2 x5_9 h9l
def f_MacroExpandModel_comes_j81 (n : Nat) (a0 : Nat) (x1 : Int32) (x3 : Int32) (y0 : Int32) (y1 : Int32) (h : hH) : Option ((Int32 × Int32) ⊕ ((Int32))) :=
  some (.inl ((y0 + y1), (x3 + (1 : Int32))))
def f_MacroExpandModel_comes_b4 (n : Nat) (a0 : Nat) (x1 : Int32) (h : hH) : (Int32 × Int32) → Option ((Int32 × Int32) ⊕ ((Int32))) := fun x =>
  let x2 := x.1
  let x3 := x.2
  (hgR h a0 1 9).bind fun v6 =>
  (v6).bind fun p10 =>
  (haI h p10 0 x1).bind fun v10 =>
  if v10 ≤ x3 then
    some (.inr x2)
  else
    (hgR h a0 1 10).bind fun v15 =>
    (v15).bind fun p25 =>
    (haI h p25 0 (((200 : Int32) * x1) + x3)).bind fun v25 =>
    (f_MacroExpandModel_in v25 (311 : Int32) (319 : Int32) h).bind fun v36 =>
    if v36 = 0 then
      f_MacroExpandModel_comes_j81 n a0 x1 x3 x2 (1 : Int32) h
    else
      (hgR h a0 1 7).bind fun v58 =>
      (v58).bind fun p62 =>
      (haI h p62 0 x1).bind fun v62 =>
      if v62 < (v25 - (310 : Int32)) then
        f_MacroExpandModel_comes_j81 n a0 x1 x3 x2 (0 : Int32) h
      else
        (hgR h a0 1 19).bind fun v67 =>
        (v67).bind fun p76 =>
        (haI h p76 0 (v25 - (310 : Int32))).bind fun v76 =>
        f_MacroExpandModel_comes_j81 n a0 x1 x3 x2 v76 h
def f_MacroExpandModel_comes (n : Nat) (a0 : Nat) (i1 : Int32) (h : hH) : Option (Int32) :=
  (hloopR (f_MacroExpandModel_comes_b4 n a0 i1 h) n ((0 : Int32), (0 : Int32))).bind fun b4 =>
  let x2_4 := b4
  some x2_4
