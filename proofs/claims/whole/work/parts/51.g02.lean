def g_pile (i1 : Int32) (i2 : Int32) (h : rS) : Option ((Unit) × rS) :=
  let v5 := h.1 28
  (rset h 16 51 v5 i1).bind fun h9 =>
  let v15 := h9.1 28
  (rset h9 17 51 v15 i2).bind fun h19 =>
  let v25 := h19.1 28
  (rset h19 18 51 v25 (0 : Int32)).bind fun h29 =>
  let v32 := h29.1 28
  let h37 := rput h29 28 (v32 + (1 : Int32))
  some ((), h37)
def g_start_j222 (n : Nat) (x2 : Int32) (x3 : Int32) (h : rS) : Option (((Int32 × Int32) ⊕ ((Unit) ⊕ (Unit) ⊕ (Unit) ⊕ (Unit) ⊕ (Unit) ⊕ (Unit))) × rS) :=
  some (.inl (x2, x3), h)
def g_start_b4 (n : Nat) : (Int32 × Int32) → rS → Option (((Int32 × Int32) ⊕ ((Unit) ⊕ (Unit) ⊕ (Unit) ⊕ (Unit) ⊕ (Unit) ⊕ (Unit))) × rS) := fun x h =>
  let x2 := x.1
  let x3 := x.2
  if x3 = 0 then
    some (.inr (.inr (.inr (.inr (.inr (.inr (())))))), h)
  else
    let v9 := h.1 21
    if v9 = 0 then
      let v18 := h.1 23
      let v22 := h.1 0
      if v18 = v22 then
        some (.inr (.inl ()), h)
      else
        let v36 := h.1 23
        let h41 := rput h 23 (v36 + (1 : Int32))
        (g_get x2 h41).bind fun v46 =>
        if v46 = (260 : Int32) then
          let v63 := h41.1 3
          if (x2 + (1 : Int32)) < v63 then
            gbW (g_take n x2 (1 : Int32) h41) fun _ h78 =>
            (rputZ h78 24 (1 : Int32)).bind fun h83 =>
            g_start_j222 n x2 (0 : Int32) h83
          else
            some (.inr (.inr (.inl ())), h41)
        else
          if v46 = (261 : Int32) then
            let v101 := h41.1 3
            if (x2 + (2 : Int32)) < v101 then
              let v114 := h41.1 28
              if v114 < (50 : Int32) then
                gbW (g_take n x2 (1 : Int32) h41) fun _ h132 =>
                (rputZ h132 24 (0 : Int32)).bind fun h137 =>
                (g_canBeExpanded (x2 + (1 : Int32)) h137).bind fun v144 =>
                if v144 = 0 then
                  g_start_j222 n x2 v144 h137
                else
                  gbW (g_pile (261 : Int32) x2 h137) fun _ h157 =>
                  g_start_j222 n (x2 + (1 : Int32)) v144 h157
              else
                some (.inr (.inr (.inr (.inr (.inl ())))), h41)
            else
              some (.inr (.inr (.inr (.inl ()))), h41)
          else
            if v46 = (262 : Int32) then
              let v175 := h41.1 28
              if v175 < (50 : Int32) then
                gbW (g_take n x2 (1 : Int32) h41) fun _ h193 =>
                (rputZ h193 24 (0 : Int32)).bind fun h198 =>
                gbW (g_pile (262 : Int32) x2 h198) fun _ h206 =>
                g_start_j222 n x2 (0 : Int32) h206
              else
                some (.inr (.inr (.inr (.inr (.inr (.inl ()))))), h41)
            else
              gbW (g_expandName n x2 h41) fun _ h214 =>
              (rputZ h214 24 (0 : Int32)).bind fun h219 =>
              g_start_j222 n x2 (0 : Int32) h219
    else
      some (.inr (.inr (.inr (.inr (.inr (.inr (())))))), h)
def g_start (n : Nat) (i1 : Int32) (h : rS) : Option ((Unit) × rS) :=
  gbW (gloopW (g_start_b4 n) n (i1, (1 : Int32)) h) fun b4 h4l =>
  match b4 with
  | .inl z4 =>
    gbW (g_mark (5 : Int32) h4l) fun _ h30 =>
    some ((), h30)
  | .inr (.inl z4) =>
    gbW (g_mark (1 : Int32) h4l) fun _ h71 =>
    some ((), h71)
  | .inr (.inr (.inl z4)) =>
    gbW (g_mark (1 : Int32) h4l) fun _ h109 =>
    some ((), h109)
  | .inr (.inr (.inr (.inl z4))) =>
    gbW (g_mark (8 : Int32) h4l) fun _ h125 =>
    some ((), h125)
  | .inr (.inr (.inr (.inr (.inl z4)))) =>
    gbW (g_mark (8 : Int32) h4l) fun _ h186 =>
    some ((), h186)
  | .inr (.inr (.inr (.inr (.inr (z4))))) =>
    some ((), h4l)
def g_goOn_j165 (n : Nat) (x1 : Int32) (x2 : Int32) (x4 : Int32) (x5 : Int32) (y0 : Int32) (h : rS) : Option ((Unit) × rS) :=
  if y0 = 0 then
    gbW (g_mark (4 : Int32) h) fun _ h174 =>
    some ((), h174)
  else
    gbW (g_take n x2 (1 : Int32) h) fun _ h181 =>
    if x4 = (263 : Int32) then
      gbW (g_nameOf n x1 x5 h181) fun v221 h221 =>
      let v227 := h221.1 21
      if v227 = 0 then
        gbW (g_spread n x2 (1 : Int32) h221) fun _ h236 =>
        gbW (g_set x2 v221 h236) fun _ h243 =>
        let v248 := h243.1 28
        let h253 := rput h243 28 (v248 - (1 : Int32))
        some ((), h253)
      else
        some ((), h221)
    else
      (rset h181 15 512 (((8 : Int32) * x1) + x5) x4).bind fun h205 =>
      (rget h205 18 51 x1).bind fun v212 =>
      (rset h205 18 51 x1 (v212 + (1 : Int32))).bind fun h215 =>
      some ((), h215)
def g_goOn_j164 (n : Nat) (x1 : Int32) (x2 : Int32) (x4 : Int32) (x5 : Int32) (h : rS) : Option ((Unit) × rS) :=
  g_goOn_j165 n x1 x2 x4 x5 (0 : Int32) h
def g_goOn_j105 (n : Nat) (x1 : Int32) (x2 : Int32) (h : rS) : Option ((Unit) × rS) :=
  (g_get x2 h).bind fun v107 =>
  (rget h 18 51 x1).bind fun v117 =>
  if v107 = (263 : Int32) then
    if v117 ≤ 0 then
      g_goOn_j165 n x1 x2 v107 v117 (0 : Int32) h
    else
      g_goOn_j165 n x1 x2 v107 v117 (1 : Int32) h
  else
    (g_in v107 (0 : Int32) (255 : Int32) h).bind fun v147 =>
    if v147 = 0 then
      g_goOn_j164 n x1 x2 v107 v117 h
    else
      if (8 : Int32) ≤ v117 then
        g_goOn_j164 n x1 x2 v107 v117 h
      else
        g_goOn_j165 n x1 x2 v107 v117 (1 : Int32) h
def g_goOn (n : Nat) (h : rS) : Option ((Unit) × rS) :=
  let v1 := h.1 28
  (rget h 16 51 (v1 - (1 : Int32))).bind fun v12 =>
  if v12 = (261 : Int32) then
    let v21 := h.1 28
    let h26 := rput h 28 (v21 - (1 : Int32))
    (rputZ h26 24 (0 : Int32)).bind fun h31 =>
    let v35 := h31.1 3
    (g_passed n h31).bind fun v39 =>
    if (v35 - v39) ≤ (3000 : Int32) then
      some ((), h31)
    else
      gbW (g_mark (8 : Int32) h31) fun _ h52 =>
      some ((), h52)
  else
    (rget h 17 51 (v1 - (1 : Int32))).bind fun v61 =>
    let v64 := h.1 24
    (rputZ h 24 (0 : Int32)).bind fun h70 =>
    let v75 := h70.1 3
    if v61 < v75 then
      if v64 = 0 then
        (g_canBeExpanded v61 h70).bind fun v93 =>
        if v93 = 0 then
          g_goOn_j105 n (v1 - (1 : Int32)) v61 h70
        else
          gbW (g_start n v61 h70) fun _ h101 =>
          some ((), h101)
      else
        g_goOn_j105 n (v1 - (1 : Int32)) v61 h70
    else
      gbW (g_mark (1 : Int32) h70) fun _ h83 =>
      some ((), h83)
def g_expandAt_b10 (n : Nat) : (Unit) → rS → Option (((Unit) ⊕ ((Unit))) × rS) := fun x h =>
  let v11 := h.1 28
  if v11 ≤ 0 then
    some (.inr (), h)
  else
    let v18 := h.1 21
    if v18 = 0 then
      gbW (g_goOn n h) fun _ h25 =>
      some (.inl (), h25)
    else
      some (.inr (), h)
def g_expandAt (n : Nat) (i1 : Int32) (h : rS) : Option ((Unit) × rS) :=
  let h2 := rput h 28 (0 : Int32)
  gbW (g_start n i1 h2) fun _ h7 =>
  gbW (gloopW (g_expandAt_b10 n) n () h7) fun b10 h10l =>
  some ((), h10l)
def g_begin (h : rS) : Option ((Unit) × rS) :=
  let h2 := rput h 21 (0 : Int32)
  let h7 := rput h2 22 (0 : Int32)
  let h12 := rput h7 23 (0 : Int32)
  (rputZ h12 24 (0 : Int32)).bind fun h17 =>
  let h22 := rput h17 25 (0 : Int32)
  let h27 := rput h22 32 (0 : Int32)
  let h32 := rput h27 33 (-1 : Int32)
  some ((), h32)
def g_defines_b586 (n : Nat) (x3 : Int32) (x7 : Int32) (x8 : Int32) : (Int32) → rS → Option (((Int32) ⊕ ((Unit))) × rS) := fun x h =>
  let x9 := x
  (rget h 20 10 x8).bind fun v594 =>
  if v594 ≤ x9 then
    some (.inr (), h)
  else
    (rget h 19 2000 (((200 : Int32) * x8) + x9)).bind fun v630 =>
    (rset h 7 200000 (((200 : Int32) * (((10 : Int32) * x7) + x8)) + x9) v630).bind fun h631 =>
    some (.inl (x9 + (1 : Int32)), h631)
def g_defines_b557 (n : Nat) (x3 : Int32) (x7 : Int32) : (Int32) → rS → Option (((Int32) ⊕ ((Unit))) × rS) := fun x h =>
  let x8 := x
  if x3 < x8 then
    some (.inr (), h)
  else
    (rget h 20 10 x8).bind fun v581 =>
    (rset h 6 1000 (((10 : Int32) * x7) + x8) v581).bind fun h582 =>
    gbW (gloopW (g_defines_b586 n x3 x7 x8) n (0 : Int32) h582) fun b586 h586l =>
    some (.inl (x8 + (1 : Int32)), h586l)
def g_defines_b520 (n : Nat) (x3 : Int32) (x4 : Int32) (x7 : Int32) : (Int32) → rS → Option (((Int32) ⊕ ((Unit))) × rS) := fun x h =>
  let x8 := x
  if x4 ≤ x8 then
    some (.inr (), h)
  else
    (rget h 21 200 x8).bind fun v546 =>
    (rset h 5 20000 (((200 : Int32) * x7) + x8) v546).bind fun h547 =>
    some (.inl (x8 + (1 : Int32)), h547)
def g_defines_j488 (n : Nat) (x2 : Int32) (x3 : Int32) (x4 : Int32) (h : rS) : Option ((Unit) × rS) :=
  let v489 := h.1 21
  if v489 = 0 then
    let v500 := h.1 32
    gbW (g_newMacro n x2 x3 v500 h) fun v503 h503 =>
    (rset h503 4 100 v503 x4).bind fun h516 =>
    gbW (gloopW (g_defines_b520 n x3 x4 v503) n (0 : Int32) h516) fun b520 h520l =>
    gbW (gloopW (g_defines_b557 n x3 v503) n (0 : Int32) h520l) fun b557 h557l =>
    let h646 := rput h557l 22 (0 : Int32)
    let h651 := rput h646 32 (0 : Int32)
    let v655 := h651.1 33
    if v655 < 0 then
      some ((), h651)
    else
      let v662 := h651.1 3
      if v662 = (3000 : Int32) then
        gbW (g_mark (8 : Int32) h651) fun _ h674 =>
        some ((), h674)
      else
        gbW (g_spread n (0 : Int32) (1 : Int32) h651) fun _ h681 =>
        let v687 := h681.1 33
        gbW (g_set (0 : Int32) v687 h681) fun _ h690 =>
        let h695 := rput h690 33 (-1 : Int32)
        some ((), h695)
  else
    some ((), h)
def g_defines_j463 (n : Nat) (x1 : Int32) (x2 : Int32) (x3 : Int32) (x4 : Int32) (x6 : Int32) (h : rS) : Option (((Int32 × Int32) ⊕ ((Int32))) × rS) :=
  some (.inl (x4, x6), h)
def g_defines_j450 (n : Nat) (x1 : Int32) (x2 : Int32) (x3 : Int32) (x4 : Int32) (x6 : Int32) (h : rS) : Option (((Int32 × Int32) ⊕ ((Int32))) × rS) :=
  let v451 := h.1 21
  if v451 = 0 then
    gbW (g_take n (0 : Int32) (1 : Int32) h) fun _ h460 =>
    g_defines_j463 n x1 x2 x3 x4 x6 h460
  else
    g_defines_j463 n x1 x2 x3 x4 x6 h
def g_defines_j433 (n : Nat) (x1 : Int32) (x2 : Int32) (x3 : Int32) (x4 : Int32) (x6 : Int32) (x8 : Int32) (h : rS) : Option (((Int32 × Int32) ⊕ ((Int32))) × rS) :=
  if x6 ≤ 0 then
    g_defines_j450 n x1 x2 x3 x4 x6 h
  else
    (rset h 21 200 x4 x8).bind fun h446 =>
    g_defines_j450 n x1 x2 x3 (x4 + (1 : Int32)) x6 h446
def g_defines_j411 (n : Nat) (x1 : Int32) (x2 : Int32) (x3 : Int32) (x4 : Int32) (x6 : Int32) (x8 : Int32) (h : rS) : Option (((Int32 × Int32) ⊕ ((Int32))) × rS) :=
  if x6 ≤ 0 then
    g_defines_j433 n x1 x2 x3 x4 x6 x8 h
  else
    if x4 = (200 : Int32) then
      gbW (g_mark (8 : Int32) h) fun _ h427 =>
      g_defines_j450 n x1 x2 x3 x4 x6 h427
    else
      g_defines_j433 n x1 x2 x3 x4 x6 x8 h
def g_defines_j375 (n : Nat) (x1 : Int32) (x2 : Int32) (x3 : Int32) (x4 : Int32) (x8 : Int32) (y0 : Int32) (y1 : Int32) (h : rS) : Option (((Int32 × Int32) ⊕ ((Int32))) × rS) :=
  (g_in x8 (311 : Int32) (319 : Int32) h).bind fun v386 =>
  if v386 = 0 then
    g_defines_j411 n x1 x2 x3 x4 (y0 + y1) x8 h
  else
    if (x8 - (310 : Int32)) ≤ x3 then
      g_defines_j411 n x1 x2 x3 x4 (y0 + y1) x8 h
    else
      gbW (g_mark (6 : Int32) h) fun _ h405 =>
      g_defines_j450 n x1 x2 x3 x4 (y0 + y1) h405
def g_defines_j341 (n : Nat) (x1 : Int32) (x2 : Int32) (x3 : Int32) (x4 : Int32) (x6 : Int32) (h : rS) : Option (((Int32 × Int32) ⊕ ((Int32))) × rS) :=
  (g_get (0 : Int32) h).bind fun v343 =>
  if v343 = (257 : Int32) then
    g_defines_j375 n x1 x2 x3 x4 v343 x6 (1 : Int32) h
  else
    if v343 = (258 : Int32) then
      g_defines_j375 n x1 x2 x3 x4 v343 x6 (-1 : Int32) h
    else
      g_defines_j375 n x1 x2 x3 x4 v343 x6 (0 : Int32) h
def g_defines_b278 (n : Nat) (x1 : Int32) (x2 : Int32) (x3 : Int32) : (Int32 × Int32) → rS → Option (((Int32 × Int32) ⊕ ((Int32))) × rS) := fun x h =>
  let x4 := x.1
  let x6 := x.2
  if x6 ≤ 0 then
    some (.inr x4, h)
  else
    let v284 := h.1 21
    if v284 = 0 then
      let v291 := h.1 24
      (rputZ h 24 (0 : Int32)).bind fun h298 =>
      let v302 := h298.1 3
      if v302 = 0 then
        gbW (g_mark (1 : Int32) h298) fun _ h310 =>
        g_defines_j463 n x1 x2 x3 x4 x6 h310
      else
        if x1 = 0 then
          g_defines_j341 n x1 x2 x3 x4 x6 h298
        else
          if v291 = 0 then
            (g_canBeExpanded (0 : Int32) h298).bind fun v327 =>
            if v327 = 0 then
              g_defines_j341 n x1 x2 x3 x4 x6 h298
            else
              gbW (g_expandAt n (0 : Int32) h298) fun _ h335 =>
              g_defines_j463 n x1 x2 x3 x4 x6 h335
          else
            g_defines_j341 n x1 x2 x3 x4 x6 h298
    else
      some (.inr x4, h)
def g_defines_j267 (n : Nat) (x1 : Int32) (x2 : Int32) (x3 : Int32) (x4 : Int32) (x5 : Int32) (h : rS) : Option (((Int32 × Int32) ⊕ ((Int32))) × rS) :=
  some (.inl (x3, x5), h)
def g_defines_j254 (n : Nat) (x1 : Int32) (x2 : Int32) (x3 : Int32) (x4 : Int32) (x5 : Int32) (h : rS) : Option (((Int32 × Int32) ⊕ ((Int32))) × rS) :=
  let v255 := h.1 21
  if v255 = 0 then
    gbW (g_take n (0 : Int32) (1 : Int32) h) fun _ h264 =>
    g_defines_j267 n x1 x2 x3 x4 x5 h264
  else
    g_defines_j267 n x1 x2 x3 x4 x5 h
def g_defines_j176 (n : Nat) (x1 : Int32) (x2 : Int32) (x3 : Int32) (x4 : Int32) (x5 : Int32) (x6 : Int32) (h : rS) : Option (((Int32 × Int32) ⊕ ((Int32))) × rS) :=
  if x6 = (257 : Int32) then
    g_defines_j254 n x1 x2 x3 x4 (0 : Int32) h
  else
    (g_isParameter x6 h).bind fun v192 =>
    if v192 = 0 then
      (rget h 20 10 x3).bind fun v209 =>
      if v209 = (200 : Int32) then
        gbW (g_mark (8 : Int32) h) fun _ h219 =>
        g_defines_j254 n x1 x2 x3 x4 x5 h219
      else
        (rget h 20 10 x3).bind fun v239 =>
        (rset h 19 2000 (((200 : Int32) * x3) + v239) x6).bind fun h243 =>
        (rget h243 20 10 x3).bind fun v250 =>
        (rset h243 20 10 x3 (v250 + (1 : Int32))).bind fun h253 =>
        g_defines_j254 n x1 x2 x3 x4 x5 h253
    else
      g_defines_j254 n x1 x2 (x3 + (1 : Int32)) x4 x5 h
def g_defines_j167 (n : Nat) (x1 : Int32) (x2 : Int32) (x3 : Int32) (x4 : Int32) (x5 : Int32) (h : rS) : Option (((Int32 × Int32) ⊕ ((Int32))) × rS) :=
  gbW (g_mark (6 : Int32) h) fun _ h170 =>
  g_defines_j254 n x1 x2 x3 x4 x5 h170
def g_defines_j118 (n : Nat) (x1 : Int32) (x2 : Int32) (x3 : Int32) (x4 : Int32) (x5 : Int32) (y0 : Int32) (h : rS) : Option (((Int32 × Int32) ⊕ ((Int32))) × rS) :=
  let v121 := h.1 3
  if v121 = 0 then
    gbW (g_mark (1 : Int32) h) fun _ h129 =>
    g_defines_j254 n x1 x2 x3 x4 x5 h129
  else
    if y0 = (258 : Int32) then
      g_defines_j167 n x1 x2 x3 x4 x5 h
    else
      (g_isParameter y0 h).bind fun v145 =>
      if v145 = 0 then
        g_defines_j176 n x1 x2 x3 x4 x5 y0 h
      else
        if y0 = ((311 : Int32) + x3) then
          if x3 = (9 : Int32) then
            g_defines_j167 n x1 x2 x3 x4 x5 h
          else
            g_defines_j176 n x1 x2 x3 x4 x5 y0 h
        else
          g_defines_j167 n x1 x2 x3 x4 x5 h
def g_defines_b90 (n : Nat) (x1 : Int32) (x2 : Int32) (x4 : Int32) : (Int32 × Int32) → rS → Option (((Int32 × Int32) ⊕ ((Int32))) × rS) := fun x h =>
  let x3 := x.1
  let x5 := x.2
  if x5 = 0 then
    some (.inr x3, h)
  else
    let v96 := h.1 21
    if v96 = 0 then
      let v103 := h.1 3
      if v103 ≤ 0 then
        g_defines_j118 n x1 x2 x3 x4 x5 (-1 : Int32) h
      else
        (g_get (0 : Int32) h).bind fun v111 =>
        g_defines_j118 n x1 x2 x3 x4 x5 v111 h
    else
      some (.inr x3, h)
def g_defines_b63 (n : Nat) (x1 : Int32) (x2 : Int32) : (Int32) → rS → Option (((Int32) ⊕ ((Unit))) × rS) := fun x h =>
  let x3 := x
  if (10 : Int32) ≤ x3 then
    some (.inr (), h)
  else
    (rset h 20 10 x3 (0 : Int32)).bind fun h75 =>
    some (.inl (x3 + (1 : Int32)), h75)
def g_defines (n : Nat) (i1 : Int32) (h : rS) : Option ((Unit) × rS) :=
  gbW (g_take n (0 : Int32) (1 : Int32) h) fun _ h3 =>
  let v7 := h3.1 3
  if v7 = 0 then
    gbW (g_mark (1 : Int32) h3) fun _ h15 =>
    some ((), h15)
  else
    (g_get (0 : Int32) h3).bind fun v21 =>
    (g_isName v21 h3).bind fun v24 =>
    if v24 = 0 then
      gbW (g_mark (6 : Int32) h3) fun _ h33 =>
      some ((), h33)
    else
      (g_get (0 : Int32) h3).bind fun v40 =>
      let h43 := rput h3 22 v40
      let v47 := h43.1 22
      gbW (g_take n (0 : Int32) (1 : Int32) h43) fun _ h58 =>
      gbW (gloopW (g_defines_b63 n i1 (v47 - (1000 : Int32))) n (0 : Int32) h58) fun b63 h63l =>
      gbW (gloopW (g_defines_b90 n i1 (v47 - (1000 : Int32)) (0 : Int32)) n ((0 : Int32), (1 : Int32)) h63l) fun b90 h90l =>
      let x3_90 := b90
      (rputZ h90l 24 (0 : Int32)).bind fun h275 =>
      gbW (gloopW (g_defines_b278 n i1 (v47 - (1000 : Int32)) x3_90) n ((0 : Int32), (1 : Int32)) h275) fun b278 h278l =>
      let x4_278 := b278
      let v467 := h278l.1 21
      if v467 = 0 then
        let v474 := h278l.1 6
        if v474 = (100 : Int32) then
          gbW (g_mark (8 : Int32) h278l) fun _ h485 =>
          g_defines_j488 n (v47 - (1000 : Int32)) x3_90 x4_278 h485
        else
          g_defines_j488 n (v47 - (1000 : Int32)) x3_90 x4_278 h278l
      else
        g_defines_j488 n (v47 - (1000 : Int32)) x3_90 x4_278 h278l
def g_carryOut_j71 (n : Nat) (y1 : Int32) (h : rS) : Option ((Unit) × rS) :=
  gbW (g_defines n y1 h) fun _ h71 =>
  some ((), h71)
def g_carryOut_j58 (n : Nat) (x1 : Int32) (h : rS) : Option ((Unit) × rS) :=
  if x1 = (265 : Int32) then
    g_carryOut_j71 n (1 : Int32) h
  else
    g_carryOut_j71 n (0 : Int32) h
def g_carryOut (n : Nat) (h : rS) : Option ((Unit) × rS) :=
  (g_get (0 : Int32) h).bind fun v2 =>
  (g_in v2 (266 : Int32) (268 : Int32) h).bind fun v13 =>
  if v13 = 0 then
    if v2 = (264 : Int32) then
      g_carryOut_j58 n v2 h
    else
      if v2 = (265 : Int32) then
        g_carryOut_j58 n v2 h
      else
        let v78 := h.1 32
        if v78 = 0 then
          if v2 = (269 : Int32) then
            let v101 := h.1 3
            if (2 : Int32) ≤ v101 then
              (g_get (1 : Int32) h).bind fun v117 =>
              let h120 := rput h 33 v117
              gbW (g_take n (0 : Int32) (2 : Int32) h120) fun _ h126 =>
              some ((), h126)
            else
              gbW (g_mark (1 : Int32) h) fun _ h110 =>
              some ((), h110)
          else
            let v133 := h.1 4
            if v133 = (3000 : Int32) then
              gbW (g_mark (8 : Int32) h) fun _ h145 =>
              some ((), h145)
            else
              let v156 := h.1 4
              (rset h 1 3000 v156 v2).bind fun h160 =>
              let v163 := h160.1 4
              let h168 := rput h160 4 (v163 + (1 : Int32))
              gbW (g_take n (0 : Int32) (1 : Int32) h168) fun _ h174 =>
              some ((), h174)
        else
          gbW (g_mark (6 : Int32) h) fun _ h87 =>
          some ((), h87)
  else
    let v21 := h.1 32
    let h32 := rput h 32 (v21 ||| ((1 : Int32) <<< ((v2 - (266 : Int32)) &&& 31)))
    gbW (g_take n (0 : Int32) (1 : Int32) h32) fun _ h38 =>
    some ((), h38)
def g_ended (i1 : Int32) (h : rS) : Option ((Int32) × rS) :=
  let v1 := h.1 21
  if v1 = 0 then
    some (i1, h)
  else
    let h11 := rput h 3 (0 : Int32)
    let v15 := h11.1 21
    some ((-v15), h11)
def g_expand_j112 (n : Nat) (h : rS) : Option ((Int32) × rS) :=
  let v114 := h.1 4
  gbW (g_ended v114 h) fun v117 h117 =>
  some (v117, h117)
def g_expand_j90 (n : Nat) (h : rS) : Option (((Unit) ⊕ ((Unit))) × rS) :=
  some (.inl (), h)
def g_expand_j86 (n : Nat) (h : rS) : Option (((Unit) ⊕ ((Unit))) × rS) :=
  gbW (g_carryOut n h) fun _ h87 =>
  g_expand_j90 n h87
def g_expand_b42 (n : Nat) : (Unit) → rS → Option (((Unit) ⊕ ((Unit))) × rS) := fun x h =>
  let v43 := h.1 3
  if v43 ≤ 0 then
    some (.inr (), h)
  else
    let v50 := h.1 21
    if v50 = 0 then
      let v57 := h.1 24
      (rputZ h 24 (0 : Int32)).bind fun h63 =>
      if v57 = 0 then
        (g_canBeExpanded (0 : Int32) h63).bind fun v72 =>
        if v72 = 0 then
          g_expand_j86 n h63
        else
          gbW (g_expandAt n (0 : Int32) h63) fun _ h80 =>
          g_expand_j90 n h80
      else
        g_expand_j86 n h63
    else
      some (.inr (), h)
def g_expand_j28 (n : Nat) (h : rS) : Option ((Int32) × rS) :=
  let v30 := h.1 3
  gbW (g_ended v30 h) fun v33 h33 =>
  some (v33, h33)
def g_expand (n : Nat) (i1 : Int32) (h : rS) : Option ((Int32) × rS) :=
  gbW (g_begin h) fun _ h1 =>
  if i1 = 0 then
    let v9 := h1.1 3
    if v9 ≤ 0 then
      g_expand_j28 n h1
    else
      (g_canBeExpanded (0 : Int32) h1).bind fun v17 =>
      if v17 = 0 then
        g_expand_j28 n h1
      else
        gbW (g_expandAt n (0 : Int32) h1) fun _ h25 =>
        g_expand_j28 n h25
  else
    let h39 := rput h1 4 (0 : Int32)
    gbW (gloopW (g_expand_b42 n) n () h39) fun b42 h42l =>
    let v94 := h42l.1 21
    if v94 = 0 then
      let v101 := h42l.1 32
      if v101 = 0 then
        g_expand_j112 n h42l
      else
        gbW (g_mark (1 : Int32) h42l) fun _ h109 =>
        g_expand_j112 n h109
    else
      g_expand_j112 n h42l
def g_at (i1 : Int32) (h : rS) : Option (Int32) :=
  let v3 := h.1 4
  (g_in i1 (0 : Int32) (v3 - (1 : Int32)) h).bind fun v8 =>
  if v8 = 0 then
    some (-1 : Int32)
  else
    (rget h 1 3000 i1).bind fun v19 =>
    some v19
def g_fault (i1 : Int32) (h : rS) : Option (Int32) :=
  if i1 = 0 then
    let v5 := h.1 21
    some v5
  else
    if i1 = (1 : Int32) then
      let v17 := h.1 21
      if v17 = 0 then
        some (0 : Int32)
      else
        let v28 := h.1 22
        some v28
    else
      if i1 = (2 : Int32) then
        let v40 := h.1 23
        some v40
      else
        some (-2 : Int32)
def g_named (i1 : Int32) (h : rS) : Option (Int32) :=
  if i1 = (-1 : Int32) then
    let v6 := h.1 16
    some v6
  else
    let v15 := h.1 16
    (g_in i1 (0 : Int32) (v15 - (1 : Int32)) h).bind fun v20 =>
    if v20 = 0 then
      some (-1 : Int32)
    else
      (rget h 10 100 i1).bind fun v31 =>
      some v31
def g_traced (i1 : Int32) (i2 : Int32) (h : rS) : Option (Int32) :=
  let v3 := h.1 25
  (g_in i1 (0 : Int32) (v3 - (1 : Int32)) h).bind fun v8 =>
  if v8 = 0 then
    some (-1 : Int32)
  else
    (g_in i2 (0 : Int32) (2 : Int32) h).bind fun v17 =>
    if v17 = 0 then
      some (-1 : Int32)
    else
      (rget h 14 300 (((3 : Int32) * i1) + i2)).bind fun v32 =>
      some v32
def g_input (i1 : Int32) (h : rS) : Option (Int32) :=
  let v3 := h.1 3
  (g_in i1 (0 : Int32) (v3 - (1 : Int32)) h).bind fun v8 =>
  if v8 = 0 then
    some (-1 : Int32)
  else
    (g_get i1 h).bind fun v16 =>
    some v16
def g_macro (i1 : Int32) (h : rS) : Option (Int32) :=
  (g_in i1 (0 : Int32) (199 : Int32) h).bind fun v5 =>
  if v5 = 0 then
    some (-1 : Int32)
  else
    (rget h 8 200 i1).bind fun v16 =>
    some v16
