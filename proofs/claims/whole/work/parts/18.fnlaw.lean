def f_MacroExpandLaw_cell (L : Nat) (xs : Nat → Int32) (i1 : Int32) (h : hH) : Option (Int32) :=
  if (nI L) ≤ i1 then
    some (0 : Int32)
  else
    (hSc L xs i1).bind fun v8 =>
    some v8
def f_MacroExpandLaw_law_j476 (n : Nat) (L : Nat) (xs : Nat → Int32) (x1 : Option Nat) (x2 : Option Nat) (x3 : Int32) (nx : Nat) (h : hH) : hR ((Int32) ⊕ ((Unit) ⊕ (Unit) ⊕ (Unit) ⊕ (Unit) ⊕ (Unit) ⊕ (Unit) ⊕ (Unit) ⊕ (Unit) ⊕ (Unit) ⊕ (Unit) ⊕ (Unit) ⊕ (Unit) ⊕ (Unit))) :=
  some (.inl (x3 + (4 : Int32)), 0, 0, h)
def f_MacroExpandLaw_law_j366 (n : Nat) (L : Nat) (xs : Nat → Int32) (x1 : Option Nat) (x2 : Option Nat) (x3 : Int32) (y0 : Int32) (y1 : Option Nat) (y2 : Int32) (nx : Nat) (h : hH) : hR ((Int32) ⊕ ((Unit) ⊕ (Unit) ⊕ (Unit) ⊕ (Unit) ⊕ (Unit) ⊕ (Unit) ⊕ (Unit) ⊕ (Unit) ⊕ (Unit) ⊕ (Unit) ⊕ (Unit) ⊕ (Unit) ⊕ (Unit))) :=
  (y1).bind fun p366 =>
  (hObj h p366 1).bind fun c366 =>
  hbW (f_MacroExpandModel_group n p366 y2 h) fun v366 h366 =>
  if y0 = v366 then
    f_MacroExpandLaw_law_j476 n L xs x1 x2 x3 nx h366
  else
    some (.inr (.inr (.inr (.inr (.inr (.inr (.inr (.inr (.inl ())))))))), 0, 0, h366)
def f_MacroExpandLaw_law_j349 (n : Nat) (L : Nat) (xs : Nat → Int32) (x1 : Option Nat) (x2 : Option Nat) (x3 : Int32) (y0 : Option Nat) (y1 : Int32) (nx : Nat) (h : hH) : hR ((Int32) ⊕ ((Unit) ⊕ (Unit) ⊕ (Unit) ⊕ (Unit) ⊕ (Unit) ⊕ (Unit) ⊕ (Unit) ⊕ (Unit) ⊕ (Unit) ⊕ (Unit) ⊕ (Unit) ⊕ (Unit) ⊕ (Unit))) :=
  (y0).bind fun p349 =>
  (hObj h p349 0).bind fun c349 =>
  hbW (f_MacroExpand_group p349 y1 h) fun v349 h349 =>
  (hSc L xs (x3 + (1 : Int32))).bind fun v357 =>
  if v357 = 0 then
    f_MacroExpandLaw_law_j366 n L xs x1 x2 x3 v349 x2 (0 : Int32) nx h349
  else
    f_MacroExpandLaw_law_j366 n L xs x1 x2 x3 v349 x2 (1 : Int32) nx h349
def f_MacroExpandLaw_law_j281 (n : Nat) (L : Nat) (xs : Nat → Int32) (x1 : Option Nat) (x2 : Option Nat) (x3 : Int32) (y0 : Int32) (y1 : Option Nat) (y2 : Int32) (nx : Nat) (h : hH) : hR ((Int32) ⊕ ((Unit) ⊕ (Unit) ⊕ (Unit) ⊕ (Unit) ⊕ (Unit) ⊕ (Unit) ⊕ (Unit) ⊕ (Unit) ⊕ (Unit) ⊕ (Unit) ⊕ (Unit) ⊕ (Unit) ⊕ (Unit))) :=
  (y1).bind fun p281 =>
  (hObj h p281 1).bind fun c281 =>
  hbW (f_MacroExpandModel_expand n p281 y2 h) fun v281 h281 =>
  if y0 = v281 then
    f_MacroExpandLaw_law_j476 n L xs x1 x2 x3 nx h281
  else
    some (.inr (.inr (.inr (.inr (.inr (.inl ()))))), 0, 0, h281)
def f_MacroExpandLaw_law_j264 (n : Nat) (L : Nat) (xs : Nat → Int32) (x1 : Option Nat) (x2 : Option Nat) (x3 : Int32) (y0 : Option Nat) (y1 : Int32) (nx : Nat) (h : hH) : hR ((Int32) ⊕ ((Unit) ⊕ (Unit) ⊕ (Unit) ⊕ (Unit) ⊕ (Unit) ⊕ (Unit) ⊕ (Unit) ⊕ (Unit) ⊕ (Unit) ⊕ (Unit) ⊕ (Unit) ⊕ (Unit) ⊕ (Unit))) :=
  (y0).bind fun p264 =>
  (hObj h p264 0).bind fun c264 =>
  hbind (f_MacroExpand_expand n p264 y1 nx h) nx fun v264 nx264 h264 =>
  (hSc L xs (x3 + (1 : Int32))).bind fun v272 =>
  if v272 = 0 then
    f_MacroExpandLaw_law_j281 n L xs x1 x2 x3 v264 x2 (0 : Int32) nx264 h264
  else
    f_MacroExpandLaw_law_j281 n L xs x1 x2 x3 v264 x2 (1 : Int32) nx264 h264
def f_MacroExpandLaw_law_b30 (n : Nat) (L : Nat) (xs : Nat → Int32) (x1 : Option Nat) (x2 : Option Nat) : (Int32) → Nat → hH → hR ((Int32) ⊕ ((Unit) ⊕ (Unit) ⊕ (Unit) ⊕ (Unit) ⊕ (Unit) ⊕ (Unit) ⊕ (Unit) ⊕ (Unit) ⊕ (Unit) ⊕ (Unit) ⊕ (Unit) ⊕ (Unit) ⊕ (Unit))) := fun x nx h =>
  let x3 := x
  if ((nI L) - (4 : Int32)) < x3 then
    some (.inr (.inr (.inr (.inr (.inr (.inr (.inr (.inr (.inr (.inr (.inr (.inr (.inr (()))))))))))))), 0, 0, h)
  else
    (hSc L xs x3).bind fun v40 =>
    if (v40 &&& (15 : Int32)) = (0 : Int32) then
      (hSc L xs (x3 + (1 : Int32))).bind fun v113 =>
      (hSc L xs (x3 + (2 : Int32))).bind fun v118 =>
      (hSc L xs (x3 + (3 : Int32))).bind fun v123 =>
      (x1).bind fun p124 =>
      (hObj h p124 0).bind fun c124 =>
      hbind (f_MacroExpand_define n p124 v113 v118 v123 nx h) nx fun v124 nx124 h124 =>
      (hSc L xs (x3 + (1 : Int32))).bind fun v132 =>
      (hSc L xs (x3 + (2 : Int32))).bind fun v137 =>
      (hSc L xs (x3 + (3 : Int32))).bind fun v142 =>
      (x2).bind fun p143 =>
      (hObj h124 p143 1).bind fun c143 =>
      hbW (f_MacroExpandModel_define n p143 v132 v137 v142 h124) fun v143 h143 =>
      if v124 = v143 then
        f_MacroExpandLaw_law_j476 n L xs (some p124) (some p143) x3 nx124 h143
      else
        some (.inr (.inl ()), 0, 0, h143)
    else
    if (v40 &&& (15 : Int32)) = (1 : Int32) then
      (hSc L xs (x3 + (1 : Int32))).bind fun v156 =>
      (hSc L xs (x3 + (2 : Int32))).bind fun v161 =>
      (x1).bind fun p162 =>
      (hObj h p162 0).bind fun c162 =>
      hbind (f_MacroExpand_body p162 v156 v161 nx h) nx fun v162 nx162 h162 =>
      (hSc L xs (x3 + (1 : Int32))).bind fun v170 =>
      (hSc L xs (x3 + (2 : Int32))).bind fun v175 =>
      (x2).bind fun p176 =>
      (hObj h162 p176 1).bind fun c176 =>
      hbW (f_MacroExpandModel_body p176 v170 v175 h162) fun v176 h176 =>
      if v162 = v176 then
        f_MacroExpandLaw_law_j476 n L xs (some p162) (some p176) x3 nx162 h176
      else
        some (.inr (.inr (.inl ())), 0, 0, h176)
    else
    if (v40 &&& (15 : Int32)) = (2 : Int32) then
      (hSc L xs (x3 + (1 : Int32))).bind fun v189 =>
      (hSc L xs (x3 + (2 : Int32))).bind fun v194 =>
      (hSc L xs (x3 + (3 : Int32))).bind fun v199 =>
      (x1).bind fun p200 =>
      (hObj h p200 0).bind fun c200 =>
      hbind (f_MacroExpand_delimiter p200 v189 v194 v199 nx h) nx fun v200 nx200 h200 =>
      (hSc L xs (x3 + (1 : Int32))).bind fun v208 =>
      (hSc L xs (x3 + (2 : Int32))).bind fun v213 =>
      (hSc L xs (x3 + (3 : Int32))).bind fun v218 =>
      (x2).bind fun p219 =>
      (hObj h200 p219 1).bind fun c219 =>
      hbW (f_MacroExpandModel_delimiter p219 v208 v213 v218 h200) fun v219 h219 =>
      if v200 = v219 then
        f_MacroExpandLaw_law_j476 n L xs (some p200) (some p219) x3 nx200 h219
      else
        some (.inr (.inr (.inr (.inl ()))), 0, 0, h219)
    else
    if (v40 &&& (15 : Int32)) = (3 : Int32) then
      (hSc L xs (x3 + (1 : Int32))).bind fun v232 =>
      (x1).bind fun p233 =>
      (hObj h p233 0).bind fun c233 =>
      hbW (f_MacroExpand_token p233 v232 h) fun v233 h233 =>
      (hSc L xs (x3 + (1 : Int32))).bind fun v241 =>
      (x2).bind fun p242 =>
      (hObj h233 p242 1).bind fun c242 =>
      hbW (f_MacroExpandModel_token p242 v241 h233) fun v242 h242 =>
      if v233 = v242 then
        f_MacroExpandLaw_law_j476 n L xs (some p233) (some p242) x3 nx h242
      else
        some (.inr (.inr (.inr (.inr (.inl ())))), 0, 0, h242)
    else
    if (v40 &&& (15 : Int32)) = (4 : Int32) then
      (hSc L xs (x3 + (1 : Int32))).bind fun v255 =>
      if v255 = 0 then
        f_MacroExpandLaw_law_j264 n L xs x1 x2 x3 x1 (0 : Int32) nx h
      else
        f_MacroExpandLaw_law_j264 n L xs x1 x2 x3 x1 (1 : Int32) nx h
    else
    if (v40 &&& (15 : Int32)) = (5 : Int32) then
      (hSc L xs (x3 + (1 : Int32))).bind fun v294 =>
      (x1).bind fun p295 =>
      (hObj h p295 0).bind fun c295 =>
      (f_MacroExpand_at p295 v294 h).bind fun v295 =>
      (hSc L xs (x3 + (1 : Int32))).bind fun v303 =>
      (x2).bind fun p304 =>
      (hObj h p304 1).bind fun c304 =>
      (f_MacroExpandModel_at p304 v303 h).bind fun v304 =>
      if v295 = v304 then
        f_MacroExpandLaw_law_j476 n L xs (some p295) (some p304) x3 nx h
      else
        some (.inr (.inr (.inr (.inr (.inr (.inr (.inl ())))))), 0, 0, h)
    else
    if (v40 &&& (15 : Int32)) = (6 : Int32) then
      (hSc L xs (x3 + (1 : Int32))).bind fun v317 =>
      (x1).bind fun p318 =>
      (hObj h p318 0).bind fun c318 =>
      (f_MacroExpand_fault p318 v317 h).bind fun v318 =>
      (hSc L xs (x3 + (1 : Int32))).bind fun v326 =>
      (x2).bind fun p327 =>
      (hObj h p327 1).bind fun c327 =>
      (f_MacroExpandModel_fault p327 v326 h).bind fun v327 =>
      if v318 = v327 then
        f_MacroExpandLaw_law_j476 n L xs (some p318) (some p327) x3 nx h
      else
        some (.inr (.inr (.inr (.inr (.inr (.inr (.inr (.inl ()))))))), 0, 0, h)
    else
    if (v40 &&& (15 : Int32)) = (7 : Int32) then
      (hSc L xs (x3 + (1 : Int32))).bind fun v340 =>
      if v340 = 0 then
        f_MacroExpandLaw_law_j349 n L xs x1 x2 x3 x1 (0 : Int32) nx h
      else
        f_MacroExpandLaw_law_j349 n L xs x1 x2 x3 x1 (1 : Int32) nx h
    else
    if (v40 &&& (15 : Int32)) = (8 : Int32) then
      (hSc L xs (x3 + (1 : Int32))).bind fun v379 =>
      (x1).bind fun p380 =>
      (hObj h p380 0).bind fun c380 =>
      (f_MacroExpand_named p380 v379 h).bind fun v380 =>
      (hSc L xs (x3 + (1 : Int32))).bind fun v388 =>
      (x2).bind fun p389 =>
      (hObj h p389 1).bind fun c389 =>
      (f_MacroExpandModel_named p389 v388 h).bind fun v389 =>
      if v380 = v389 then
        f_MacroExpandLaw_law_j476 n L xs (some p380) (some p389) x3 nx h
      else
        some (.inr (.inr (.inr (.inr (.inr (.inr (.inr (.inr (.inr (.inl ()))))))))), 0, 0, h)
    else
    if (v40 &&& (15 : Int32)) = (9 : Int32) then
      (hSc L xs (x3 + (1 : Int32))).bind fun v402 =>
      (hSc L xs (x3 + (2 : Int32))).bind fun v407 =>
      (x1).bind fun p408 =>
      (hObj h p408 0).bind fun c408 =>
      (f_MacroExpand_traced p408 v402 v407 h).bind fun v408 =>
      (hSc L xs (x3 + (1 : Int32))).bind fun v416 =>
      (hSc L xs (x3 + (2 : Int32))).bind fun v421 =>
      (x2).bind fun p422 =>
      (hObj h p422 1).bind fun c422 =>
      (f_MacroExpandModel_traced p422 v416 v421 h).bind fun v422 =>
      if v408 = v422 then
        f_MacroExpandLaw_law_j476 n L xs (some p408) (some p422) x3 nx h
      else
        some (.inr (.inr (.inr (.inr (.inr (.inr (.inr (.inr (.inr (.inr (.inl ())))))))))), 0, 0, h)
    else
    if (v40 &&& (15 : Int32)) = (10 : Int32) then
      (hSc L xs (x3 + (1 : Int32))).bind fun v435 =>
      (x1).bind fun p436 =>
      (hObj h p436 0).bind fun c436 =>
      (f_MacroExpand_input p436 v435 h).bind fun v436 =>
      (hSc L xs (x3 + (1 : Int32))).bind fun v444 =>
      (x2).bind fun p445 =>
      (hObj h p445 1).bind fun c445 =>
      (f_MacroExpandModel_input p445 v444 h).bind fun v445 =>
      if v436 = v445 then
        f_MacroExpandLaw_law_j476 n L xs (some p436) (some p445) x3 nx h
      else
        some (.inr (.inr (.inr (.inr (.inr (.inr (.inr (.inr (.inr (.inr (.inr (.inl ()))))))))))), 0, 0, h)
    else
    if (v40 &&& (15 : Int32)) = (11 : Int32) then
      (hSc L xs (x3 + (1 : Int32))).bind fun v458 =>
      (x1).bind fun p459 =>
      (hObj h p459 0).bind fun c459 =>
      (f_MacroExpand_macro p459 v458 h).bind fun v459 =>
      (hSc L xs (x3 + (1 : Int32))).bind fun v467 =>
      (x2).bind fun p468 =>
      (hObj h p468 1).bind fun c468 =>
      (f_MacroExpandModel_macro p468 v467 h).bind fun v468 =>
      if v459 = v468 then
        f_MacroExpandLaw_law_j476 n L xs (some p459) (some p468) x3 nx h
      else
        some (.inr (.inr (.inr (.inr (.inr (.inr (.inr (.inr (.inr (.inr (.inr (.inr (.inl ())))))))))))), 0, 0, h)
    else
    f_MacroExpandLaw_law_j476 n L xs x1 x2 x3 nx h
def f_MacroExpandLaw_law (n : Nat) (L : Nat) (xs : Nat → Int32) (nx : Nat) (h : hH) : hR (Int32) :=
  hbind (hnew (.inr (0, [.null, .null, .null, .null, .null, .int 0, .int 0])) (7) nx h) nx fun _ nx0 h0 =>
  (f_MacroExpandLaw_cell L xs (0 : Int32) h0).bind fun v6 =>
  hbind (f_MacroExpand_init n nx v6.toInt64 nx0 h0) nx0 fun _ nx10 h10 =>
  hbind (hnew (.inr (1, [.int 0, .null, .int 0, .int 0, .int 0, .null, .int 0, .null, .null, .null, .null, .null, .null, .null, .int 0, .null, .int 0, .null, .null, .null, .null, .int 0, .int 0, .int 0, .int 0, .int 0, .null, .null, .int 0, .null, .null, .null, .int 0, .int 0, .null, .null, .null])) (37) nx10 h10) nx10 fun _ nx14 h14 =>
  (f_MacroExpandLaw_cell L xs (0 : Int32) h14).bind fun v20 =>
  hbind (f_MacroExpandModel_init n nx10 v20.toInt64 nx14 h14) nx14 fun _ nx24 h24 =>
  hbind (hloopA (f_MacroExpandLaw_law_b30 n L xs (some nx) (some nx10)) n (1 : Int32) nx24 h24) nx24 fun b30 nx30l h30l =>
  match b30 with
  | .inl z30 =>
    some ((0 : Int32), 0, 0, h30l)
  | .inr (.inl z30) =>
    some ((0 : Int32), 0, 0, h30l)
  | .inr (.inr (.inl z30)) =>
    some ((0 : Int32), 0, 0, h30l)
  | .inr (.inr (.inr (.inl z30))) =>
    some ((0 : Int32), 0, 0, h30l)
  | .inr (.inr (.inr (.inr (.inl z30)))) =>
    some ((0 : Int32), 0, 0, h30l)
  | .inr (.inr (.inr (.inr (.inr (.inl z30))))) =>
    some ((0 : Int32), 0, 0, h30l)
  | .inr (.inr (.inr (.inr (.inr (.inr (.inl z30)))))) =>
    some ((0 : Int32), 0, 0, h30l)
  | .inr (.inr (.inr (.inr (.inr (.inr (.inr (.inl z30))))))) =>
    some ((0 : Int32), 0, 0, h30l)
  | .inr (.inr (.inr (.inr (.inr (.inr (.inr (.inr (.inl z30)))))))) =>
    some ((0 : Int32), 0, 0, h30l)
  | .inr (.inr (.inr (.inr (.inr (.inr (.inr (.inr (.inr (.inl z30))))))))) =>
    some ((0 : Int32), 0, 0, h30l)
  | .inr (.inr (.inr (.inr (.inr (.inr (.inr (.inr (.inr (.inr (.inl z30)))))))))) =>
    some ((0 : Int32), 0, 0, h30l)
  | .inr (.inr (.inr (.inr (.inr (.inr (.inr (.inr (.inr (.inr (.inr (.inl z30))))))))))) =>
    some ((0 : Int32), 0, 0, h30l)
  | .inr (.inr (.inr (.inr (.inr (.inr (.inr (.inr (.inr (.inr (.inr (.inr (z30)))))))))))) =>
    some ((1 : Int32), 0, 0, h30l)
