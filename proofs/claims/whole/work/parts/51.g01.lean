def g_in (i0 : Int32) (i1 : Int32) (i2 : Int32) (h : rS) : Option (Int32) :=
  if i0 < i1 then
    some (0 : Int32)
  else
    if i2 < i0 then
      some (0 : Int32)
    else
      some (1 : Int32)
def g_isName (i0 : Int32) (h : rS) : Option (Int32) :=
  (g_in i0 (1000 : Int32) (1199 : Int32) h).bind fun v7 =>
  if v7 = 0 ∨ v7 = 1 then some v7 else none
def g_isParameter (i0 : Int32) (h : rS) : Option (Int32) :=
  (g_in i0 (311 : Int32) (399 : Int32) h).bind fun v7 =>
  if v7 = 0 then
    some (0 : Int32)
  else
    if (10 : Int32) = 0 then none else
    if (i0 - i0 / (10 : Int32) * (10 : Int32)) = 0 then
      some (0 : Int32)
    else
      some (1 : Int32)
def g_isToken (i0 : Int32) (h : rS) : Option (Int32) :=
  (g_in i0 (0 : Int32) (258 : Int32) h).bind fun v5 =>
  if v5 = 0 then
    (g_in i0 (260 : Int32) (269 : Int32) h).bind fun v18 =>
    if v18 = 0 then
      (g_isParameter i0 h).bind fun v25 =>
      if v25 = 0 then
        (g_isName i0 h).bind fun v32 =>
        if v32 = 0 then
          some (0 : Int32)
        else
          some (1 : Int32)
      else
        some (1 : Int32)
    else
      some (1 : Int32)
  else
    some (1 : Int32)
def g_newMacro_b81 (n : Nat) (x1 : Int32) (x3 : Int32) (x4 : Int32) : (Int32) → rS → Option (((Int32) ⊕ ((Unit))) × rS) := fun x h =>
  let x5 := x
  let v84 := h.1 14
  if v84 ≤ x5 then
    some (.inr (), h)
  else
    if (x3 &&& (4 : Int32)) = 0 then
      some (.inr (), h)
    else
      (rset h 9 4000 (((200 : Int32) * x5) + x1) x4).bind fun h110 =>
      some (.inl (x5 + (1 : Int32)), h110)
def g_newMacro_b33 (n : Nat) (x1 : Int32) (x3 : Int32) (x4 : Int32) : (Int32) → rS → Option (((Int32) ⊕ ((Unit))) × rS) := fun x h =>
  let x5 := x
  if (10 : Int32) ≤ x5 then
    some (.inr (), h)
  else
    (rset h 6 1000 (((10 : Int32) * x4) + x5) (0 : Int32)).bind fun h53 =>
    some (.inl (x5 + (1 : Int32)), h53)
def g_newMacro (n : Nat) (i1 : Int32) (i2 : Int32) (i3 : Int32) (h : rS) : Option ((Int32) × rS) :=
  let v1 := h.1 6
  (rset h 2 100 v1 i2).bind fun h13 =>
  (rset h13 3 100 v1 i3).bind fun h21 =>
  (rset h21 4 100 v1 (0 : Int32)).bind fun h29 =>
  gbW (gloopW (g_newMacro_b33 n i1 i3 v1) n (0 : Int32) h29) fun b33 h33l =>
  let v62 := h33l.1 6
  let h67 := rput h33l 6 (v62 + (1 : Int32))
  (rset h67 8 200 i1 v1).bind fun h77 =>
  gbW (gloopW (g_newMacro_b81 n i1 i3 v1) n (0 : Int32) h77) fun b81 h81l =>
  some (v1, h81l)
def g_define (n : Nat) (i1 : Int32) (i2 : Int32) (i3 : Int32) (h : rS) : Option ((Int32) × rS) :=
  (g_in i1 (0 : Int32) (199 : Int32) h).bind fun v5 =>
  if v5 = 0 then
    some ((-2 : Int32), h)
  else
    (g_in i2 (0 : Int32) (9 : Int32) h).bind fun v15 =>
    if v15 = 0 then
      some ((-2 : Int32), h)
    else
      (g_in i3 (0 : Int32) (7 : Int32) h).bind fun v25 =>
      if v25 = 0 then
        some ((-2 : Int32), h)
      else
        let v35 := h.1 6
        if v35 = (100 : Int32) then
          some ((-4 : Int32), h)
        else
          gbW (g_newMacro n i1 i2 i3 h) fun v52 h52 =>
          some (v52, h52)
def g_body (i1 : Int32) (i2 : Int32) (h : rS) : Option ((Int32) × rS) :=
  let v3 := h.1 6
  (g_in i1 (0 : Int32) (v3 - (1 : Int32)) h).bind fun v8 =>
  if v8 = 0 then
    some ((-1 : Int32), h)
  else
    (g_isToken i2 h).bind fun v17 =>
    if v17 = 0 then
      some ((-2 : Int32), h)
    else
      (rget h 4 100 i1).bind fun v31 =>
      if v31 = (200 : Int32) then
        some ((-4 : Int32), h)
      else
        (rget h 4 100 i1).bind fun v55 =>
        (rset h 5 20000 (((200 : Int32) * i1) + v55) i2).bind fun h58 =>
        (rget h58 4 100 i1).bind fun v65 =>
        (rset h58 4 100 i1 (v65 + (1 : Int32))).bind fun h68 =>
        (rget h68 4 100 i1).bind fun v74 =>
        some (v74, h68)
def g_delimiter (i1 : Int32) (i2 : Int32) (i3 : Int32) (h : rS) : Option ((Int32) × rS) :=
  let v3 := h.1 6
  (g_in i1 (0 : Int32) (v3 - (1 : Int32)) h).bind fun v8 =>
  if v8 = 0 then
    some ((-1 : Int32), h)
  else
    (rget h 2 100 i1).bind fun v23 =>
    (g_in i2 (0 : Int32) v23 h).bind fun v24 =>
    if v24 = 0 then
      some ((-2 : Int32), h)
    else
      (g_isToken i3 h).bind fun v31 =>
      if v31 = 0 then
        some ((-2 : Int32), h)
      else
        if i3 = (257 : Int32) then
          some ((-2 : Int32), h)
        else
          if i3 = (258 : Int32) then
            some ((-2 : Int32), h)
          else
            (g_isParameter i3 h).bind fun v52 =>
            if v52 = 0 then
              (rget h 6 1000 (((10 : Int32) * i1) + i2)).bind fun v75 =>
              if v75 = (200 : Int32) then
                some ((-4 : Int32), h)
              else
                (rget h 6 1000 (((10 : Int32) * i1) + i2)).bind fun v101 =>
                (rset h 7 200000 (((200 : Int32) * (((10 : Int32) * i1) + i2)) + v101) i3).bind fun h104 =>
                (rget h104 6 1000 (((10 : Int32) * i1) + i2)).bind fun v112 =>
                (rset h104 6 1000 (((10 : Int32) * i1) + i2) (v112 + (1 : Int32))).bind fun h115 =>
                (rget h115 6 1000 (((10 : Int32) * i1) + i2)).bind fun v122 =>
                some (v122, h115)
            else
              some ((-2 : Int32), h)
def g_token (i1 : Int32) (h : rS) : Option ((Int32) × rS) :=
  (g_isToken i1 h).bind fun v1 =>
  if v1 = 0 then
    some ((-2 : Int32), h)
  else
    let v11 := h.1 3
    if v11 = (3000 : Int32) then
      some ((-4 : Int32), h)
    else
      let v28 := h.1 2
      let v32 := h.1 3
      (rset h 0 4096 ((v28 + v32) &&& (4095 : Int32)) i1).bind fun h41 =>
      let v44 := h41.1 3
      let h49 := rput h41 3 (v44 + (1 : Int32))
      let v53 := h49.1 3
      some (v53, h49)
def g_group_b89 (n : Nat) : (Int32) → rS → Option (((Int32) ⊕ ((Unit))) × rS) := fun x h =>
  let x2 := x
  if (200 : Int32) ≤ x2 then
    some (.inr (), h)
  else
    let v109 := h.1 14
    (rget h 9 4000 (((200 : Int32) * v109) + x2)).bind fun v115 =>
    (rset h 8 200 x2 v115).bind fun h116 =>
    some (.inl (x2 + (1 : Int32)), h116)
def g_group_b18 (n : Nat) : (Int32) → rS → Option (((Int32) ⊕ ((Unit))) × rS) := fun x h =>
  let x2 := x
  if (200 : Int32) ≤ x2 then
    some (.inr (), h)
  else
    let v33 := h.1 14
    (rget h 8 200 x2).bind fun v44 =>
    (rset h 9 4000 (((200 : Int32) * v33) + x2) v44).bind fun h45 =>
    some (.inl (x2 + (1 : Int32)), h45)
def g_group (n : Nat) (i1 : Int32) (h : rS) : Option ((Int32) × rS) :=
  if i1 = 0 then
    let v68 := h.1 14
    if v68 = 0 then
      some ((-3 : Int32), h)
    else
      let v79 := h.1 14
      let h84 := rput h 14 (v79 - (1 : Int32))
      gbW (gloopW (g_group_b89 n) n (0 : Int32) h84) fun b89 h89l =>
      let v124 := h89l.1 14
      some (v124, h89l)
  else
    let v5 := h.1 14
    if v5 = (20 : Int32) then
      some ((-4 : Int32), h)
    else
      gbW (gloopW (g_group_b18 n) n (0 : Int32) h) fun b18 h18l =>
      let v54 := h18l.1 14
      let h59 := rput h18l 14 (v54 + (1 : Int32))
      let v63 := h59.1 14
      some (v63, h59)
def g_get (i1 : Int32) (h : rS) : Option (Int32) :=
  let v5 := h.1 2
  (rget h 0 4096 ((v5 + i1) &&& (4095 : Int32))).bind fun v14 =>
  some v14
def g_mark_j16 (y1 : Int32) (h : rS) : Option ((Unit) × rS) :=
  let h16 := rput h 21 y1
  some ((), h16)
def g_mark (i1 : Int32) (h : rS) : Option ((Unit) × rS) :=
  let v2 := h.1 21
  if v2 = 0 then
    g_mark_j16 i1 h
  else
    let v13 := h.1 21
    g_mark_j16 v13 h
def g_take_b4 (n : Nat) (x2 : Int32) : (Int32) → rS → Option (((Int32) ⊕ ((Unit))) × rS) := fun x h =>
  let x3 := x
  if x3 < 0 then
    some (.inr (), h)
  else
    let v13 := h.1 2
    (g_get x3 h).bind fun v26 =>
    (rset h 0 4096 (((v13 + x3) + x2) &&& (4095 : Int32)) v26).bind fun h29 =>
    some (.inl (x3 + (-1 : Int32)), h29)
def g_take (n : Nat) (i1 : Int32) (i2 : Int32) (h : rS) : Option ((Unit) × rS) :=
  gbW (gloopW (g_take_b4 n i2) n (i1 - (1 : Int32)) h) fun b4 h4l =>
  let v38 := h4l.1 2
  let h47 := rput h4l 2 ((v38 + i2) &&& (4095 : Int32))
  let v52 := h47.1 3
  let h57 := rput h47 3 (v52 - i2)
  some ((), h57)
def g_spread_b26 (n : Nat) (x1 : Int32) (x2 : Int32) : (Int32) → rS → Option (((Int32) ⊕ ((Unit))) × rS) := fun x h =>
  let x3 := x
  if x1 ≤ x3 then
    some (.inr (), h)
  else
    let v36 := h.1 2
    (g_get (x3 + x2) h).bind fun v49 =>
    (rset h 0 4096 ((v36 + x3) &&& (4095 : Int32)) v49).bind fun h52 =>
    some (.inl (x3 + (1 : Int32)), h52)
def g_spread (n : Nat) (i1 : Int32) (i2 : Int32) (h : rS) : Option ((Unit) × rS) :=
  let v2 := h.1 2
  let h11 := rput h 2 ((v2 - i2) &&& (4095 : Int32))
  let v16 := h11.1 3
  let h21 := rput h11 3 (v16 + i2)
  gbW (gloopW (g_spread_b26 n i1 i2) n (0 : Int32) h21) fun b26 h26l =>
  some ((), h26l)
def g_set (i1 : Int32) (i2 : Int32) (h : rS) : Option ((Unit) × rS) :=
  let v5 := h.1 2
  (rset h 0 4096 ((v5 + i1) &&& (4095 : Int32)) i2).bind fun h15 =>
  some ((), h15)
def g_macroAt (i1 : Int32) (h : rS) : Option (Int32) :=
  (g_get i1 h).bind fun v2 =>
  (g_isName v2 h).bind fun v5 =>
  if v5 = 0 then
    some (-1 : Int32)
  else
    (g_get i1 h).bind fun v17 =>
    (rget h 8 200 (v17 - (1000 : Int32))).bind fun v24 =>
    some v24
def g_canBeExpanded (i1 : Int32) (h : rS) : Option (Int32) :=
  (g_macroAt i1 h).bind fun v2 =>
  if 0 ≤ v2 then
    some (1 : Int32)
  else
    (g_get i1 h).bind fun v10 =>
    (g_in v10 (260 : Int32) (262 : Int32) h).bind fun v19 =>
    if v19 = 0 then
      some (0 : Int32)
    else
      some (1 : Int32)
def g_isThere_j50 (h : rS) : Option ((Int32) × rS) :=
  gbW (g_mark (2 : Int32) h) fun _ h52 =>
  some ((0 : Int32), h52)
def g_isThere_j36 (x1 : Int32) (x2 : Int32) (h : rS) : Option ((Int32) × rS) :=
  (g_get x1 h).bind fun v38 =>
  if v38 = (10 : Int32) then
    if x2 = 0 then
      g_isThere_j50  h
    else
      some ((1 : Int32), h)
  else
    some ((1 : Int32), h)
def g_isThere (i1 : Int32) (i2 : Int32) (h : rS) : Option ((Int32) × rS) :=
  let v2 := h.1 3
  if i1 < v2 then
    (g_macroAt i1 h).bind fun v17 =>
    if v17 < 0 then
      g_isThere_j36 i1 i2 h
    else
      (rget h 3 100 v17).bind fun v30 =>
      if (v30 &&& (2 : Int32)) = 0 then
        g_isThere_j36 i1 i2 h
      else
        g_isThere_j50  h
  else
    gbW (g_mark (1 : Int32) h) fun _ h10 =>
    some ((0 : Int32), h10)
def g_rowComes_j68 (n : Nat) (x1 : Int32) (x2 : Int32) (x4 : Int32) (y0 : Int32) (h : rS) : Option ((Int32 × Int32) ⊕ ((Int32))) :=
  some (.inl (y0, (x4 + (1 : Int32))))
def g_rowComes_b24 (n : Nat) (x1 : Int32) (x2 : Int32) (h : rS) : (Int32 × Int32) → Option ((Int32 × Int32) ⊕ ((Int32))) := fun x =>
  let x3 := x.1
  let x4 := x.2
  (rget h 6 1000 x1).bind fun v31 =>
  if v31 ≤ x4 then
    some (.inr x3)
  else
    if x3 = 0 then
      some (.inr x3)
    else
      (g_get (x2 + x4) h).bind fun v44 =>
      (rget h 7 200000 (((200 : Int32) * x1) + x4)).bind fun v59 =>
      if v44 = v59 then
        g_rowComes_j68 n x1 x2 x4 (1 : Int32) h
      else
        g_rowComes_j68 n x1 x2 x4 (0 : Int32) h
def g_rowComes_j20 (n : Nat) (x1 : Int32) (x2 : Int32) (y0 : Int32) (h : rS) : Option (Int32) :=
  (gloopR (g_rowComes_b24 n x1 x2 h) n (y0, (0 : Int32))).bind fun b24 =>
  let x3_24 := b24
  if x3_24 = 0 ∨ x3_24 = 1 then some x3_24 else none
def g_rowComes (n : Nat) (i1 : Int32) (i2 : Int32) (h : rS) : Option (Int32) :=
  (rget h 6 1000 i1).bind fun v6 =>
  let v9 := h.1 3
  if v9 < (i2 + v6) then
    g_rowComes_j20 n i1 i2 (0 : Int32) h
  else
    g_rowComes_j20 n i1 i2 (1 : Int32) h
def g_give (i1 : Int32) (i2 : Int32) (h : rS) : Option ((Unit) × rS) :=
  (rget h 12 10 i1).bind fun v5 =>
  if v5 = (400 : Int32) then
    gbW (g_mark (8 : Int32) h) fun _ h15 =>
    some ((), h15)
  else
    (rget h 12 10 i1).bind fun v33 =>
    (rset h 13 4000 (((400 : Int32) * i1) + v33) i2).bind fun h36 =>
    (rget h36 12 10 i1).bind fun v43 =>
    (rset h36 12 10 i1 (v43 + (1 : Int32))).bind fun h46 =>
    some ((), h46)
def g_plain_j174 (n : Nat) (x1 : Int32) (x3 : Int32) (x4 : Int32) (x5 : Int32) (h : rS) : Option (((Int32 × Int32) ⊕ ((Int32))) × rS) :=
  some (.inl ((x4 + (1 : Int32)), x5), h)
def g_plain_j155 (n : Nat) (x1 : Int32) (x3 : Int32) (x4 : Int32) (y0 : Int32) (y1 : Int32) (h : rS) : Option (((Int32 × Int32) ⊕ ((Int32))) × rS) :=
  if (y0 + y1) ≤ 0 then
    g_plain_j174 n x1 x3 x4 (y0 + y1) h
  else
    (g_get x4 h).bind fun v168 =>
    gbW (g_give x1 v168 h) fun _ h171 =>
    g_plain_j174 n x1 x3 x4 (y0 + y1) h171
def g_plain_b98 (n : Nat) (x1 : Int32) (x3 : Int32) : (Int32 × Int32) → rS → Option (((Int32 × Int32) ⊕ ((Int32))) × rS) := fun x h =>
  let x4 := x.1
  let x5 := x.2
  if x5 ≤ 0 then
    some (.inr x4, h)
  else
    let v104 := h.1 21
    if v104 = 0 then
      gbW (g_isThere x4 x3 h) fun v114 h114 =>
      if v114 = 0 then
        some (.inr x4, h114)
      else
        (g_get x4 h114).bind fun v125 =>
        if v125 = (257 : Int32) then
          g_plain_j155 n x1 x3 x4 x5 (1 : Int32) h114
        else
          (g_get x4 h114).bind fun v141 =>
          if v141 = (258 : Int32) then
            g_plain_j155 n x1 x3 x4 x5 (-1 : Int32) h114
          else
            g_plain_j155 n x1 x3 x4 x5 (0 : Int32) h114
    else
      some (.inr x4, h)
def g_plain_b3 (n : Nat) (x1 : Int32) (x3 : Int32) : (Int32) → rS → Option (((Int32) ⊕ ((Int32))) × rS) := fun x h =>
  let x4 := x
  let v6 := h.1 3
  if v6 ≤ x4 then
    some (.inr x4, h)
  else
    (g_get x4 h).bind fun v15 =>
    if v15 = (256 : Int32) then
      some (.inl (x4 + (1 : Int32)), h)
    else
      some (.inr x4, h)
def g_plain (n : Nat) (i1 : Int32) (i2 : Int32) (i3 : Int32) (h : rS) : Option ((Int32) × rS) :=
  gbW (gloopW (g_plain_b3 n i1 i3) n i2 h) fun b3 h3l =>
  let x4_3 := b3
  gbW (g_isThere x4_3 i3 h3l) fun v34 h34 =>
  if v34 = 0 then
    some (x4_3, h34)
  else
    (g_get x4_3 h34).bind fun v46 =>
    if v46 = (258 : Int32) then
      gbW (g_mark (7 : Int32) h34) fun _ h58 =>
      some (x4_3, h58)
    else
      (g_get x4_3 h34).bind fun v67 =>
      if v67 = (257 : Int32) then
        gbW (gloopW (g_plain_b98 n i1 i3) n ((x4_3 + (1 : Int32)), (1 : Int32)) h34) fun b98 h98l =>
        let x4_98 := b98
        some (x4_98, h98l)
      else
        (g_get x4_3 h34).bind fun v81 =>
        gbW (g_give i1 v81 h34) fun _ h84 =>
        some ((x4_3 + (1 : Int32)), h84)
def g_delimited_j226 (n : Nat) (x2 : Int32) (x5 : Int32) (h : rS) : Option ((Int32) × rS) :=
  (rget h 6 1000 x2).bind fun v233 =>
  some ((x5 + v233), h)
def g_delimited_b181 (n : Nat) (x1 : Int32) (x2 : Int32) (x5 : Int32) : (Int32) → rS → Option (((Int32) ⊕ ((Unit))) × rS) := fun x h =>
  let x8 := x
  (rget h 12 10 x1).bind fun v188 =>
  if v188 ≤ x8 then
    some (.inr (), h)
  else
    (rget h 13 4000 ((((400 : Int32) * x1) + x8) + (1 : Int32))).bind fun v218 =>
    (rset h 13 4000 (((400 : Int32) * x1) + x8) v218).bind fun h219 =>
    some (.inl (x8 + (1 : Int32)), h219)
def g_delimited_j140 (n : Nat) (x1 : Int32) (x2 : Int32) (x3 : Int32) (x4 : Int32) (x5 : Int32) (x6 : Int32) (x7 : Int32) (h : rS) : Option (((Int32 × Int32 × Int32) ⊕ ((Int32 × Int32))) × rS) :=
  some (.inl ((x5 + (1 : Int32)), x6, x7), h)
def g_delimited_j130 (n : Nat) (x1 : Int32) (x2 : Int32) (x3 : Int32) (x4 : Int32) (x5 : Int32) (x7 : Int32) (x8 : Int32) (y0 : Int32) (y1 : Int32) (h : rS) : Option (((Int32 × Int32 × Int32) ⊕ ((Int32 × Int32))) × rS) :=
  gbW (g_give x1 x8 h) fun _ h137 =>
  g_delimited_j140 n x1 x2 x3 x4 x5 (y0 + y1) x7 h137
def g_delimited_j103 (n : Nat) (x1 : Int32) (x2 : Int32) (x3 : Int32) (x4 : Int32) (x5 : Int32) (x6 : Int32) (x7 : Int32) (x8 : Int32) (h : rS) : Option (((Int32 × Int32 × Int32) ⊕ ((Int32 × Int32))) × rS) :=
  if x8 = (257 : Int32) then
    g_delimited_j130 n x1 x2 x3 x4 x5 x7 x8 x6 (1 : Int32) h
  else
    if x8 = (258 : Int32) then
      g_delimited_j130 n x1 x2 x3 x4 x5 x7 x8 x6 (-1 : Int32) h
    else
      g_delimited_j130 n x1 x2 x3 x4 x5 x7 x8 x6 (0 : Int32) h
def g_delimited_j79 (n : Nat) (x1 : Int32) (x2 : Int32) (x3 : Int32) (x4 : Int32) (x5 : Int32) (x6 : Int32) (x8 : Int32) (y0 : Int32) (h : rS) : Option (((Int32 × Int32 × Int32) ⊕ ((Int32 × Int32))) × rS) :=
  if x8 = (258 : Int32) then
    if x6 = 0 then
      gbW (g_mark (7 : Int32) h) fun _ h97 =>
      g_delimited_j140 n x1 x2 x3 x4 x5 x6 y0 h97
    else
      g_delimited_j103 n x1 x2 x3 x4 x5 x6 y0 x8 h
  else
    g_delimited_j103 n x1 x2 x3 x4 x5 x6 y0 x8 h
def g_delimited_j78 (n : Nat) (x1 : Int32) (x2 : Int32) (x3 : Int32) (x4 : Int32) (x5 : Int32) (x6 : Int32) (x8 : Int32) (h : rS) : Option (((Int32 × Int32 × Int32) ⊕ ((Int32 × Int32))) × rS) :=
  g_delimited_j79 n x1 x2 x3 x4 x5 x6 x8 (0 : Int32) h
def g_delimited_j74 (n : Nat) (x1 : Int32) (x2 : Int32) (x3 : Int32) (x4 : Int32) (x5 : Int32) (x6 : Int32) (x8 : Int32) (h : rS) : Option (((Int32 × Int32 × Int32) ⊕ ((Int32 × Int32))) × rS) :=
  g_delimited_j79 n x1 x2 x3 x4 x5 x6 x8 (1 : Int32) h
def g_delimited_j31 (n : Nat) (x1 : Int32) (x2 : Int32) (x3 : Int32) (x4 : Int32) (x5 : Int32) (x6 : Int32) (x7 : Int32) (h : rS) : Option (((Int32 × Int32 × Int32) ⊕ ((Int32 × Int32))) × rS) :=
  gbW (g_isThere x5 x4 h) fun v36 h36 =>
  if v36 = 0 then
    some (.inl (x5, x6, x7), h36)
  else
    (g_get x5 h36).bind fun v45 =>
    if x7 = 0 then
      g_delimited_j78 n x1 x2 x3 x4 x5 x6 v45 h36
    else
      if 0 < x6 then
        g_delimited_j74 n x1 x2 x3 x4 x5 x6 v45 h36
      else
        if x5 = x3 then
          if v45 = (257 : Int32) then
            g_delimited_j74 n x1 x2 x3 x4 x5 x6 v45 h36
          else
            g_delimited_j78 n x1 x2 x3 x4 x5 x6 v45 h36
        else
          g_delimited_j78 n x1 x2 x3 x4 x5 x6 v45 h36
def g_delimited_b9 (n : Nat) (x1 : Int32) (x2 : Int32) (x3 : Int32) (x4 : Int32) : (Int32 × Int32 × Int32) → rS → Option (((Int32 × Int32 × Int32) ⊕ ((Int32 × Int32))) × rS) := fun x h =>
  let x5 := x.1
  let x6 := x.2.1
  let x7 := x.2.2
  let v10 := h.1 21
  if v10 = 0 then
    if x6 = 0 then
      (g_rowComes n x2 x5 h).bind fun v25 =>
      if v25 = 0 then
        g_delimited_j31 n x1 x2 x3 x4 x5 x6 x7 h
      else
        some (.inr (x5, x7), h)
    else
      g_delimited_j31 n x1 x2 x3 x4 x5 x6 x7 h
  else
    some (.inr (x5, x7), h)
def g_delimited (n : Nat) (i1 : Int32) (i2 : Int32) (i3 : Int32) (i4 : Int32) (h : rS) : Option ((Int32) × rS) :=
  gbW (gloopW (g_delimited_b9 n i1 i2 i3 i4) n (i3, (0 : Int32), (1 : Int32)) h) fun b9 h9l =>
  let x5_9 := b9.1
  let x7_9 := b9.2
  let v147 := h9l.1 21
  if v147 = 0 then
    if x7_9 = 0 then
      g_delimited_j226 n i2 x5_9 h9l
    else
      (rget h9l 12 10 i1).bind fun v163 =>
      if v163 ≤ (1 : Int32) then
        g_delimited_j226 n i2 x5_9 h9l
      else
        (rget h9l 12 10 i1).bind fun v174 =>
        (rset h9l 12 10 i1 (v174 - (2 : Int32))).bind fun h177 =>
        gbW (gloopW (g_delimited_b181 n i1 i2 x5_9) n (0 : Int32) h177) fun b181 h181l =>
        g_delimited_j226 n i2 x5_9 h181l
  else
    g_delimited_j226 n i2 x5_9 h9l
def g_comes_j81 (n : Nat) (x1 : Int32) (x3 : Int32) (y0 : Int32) (y1 : Int32) (h : rS) : Option ((Int32 × Int32) ⊕ ((Int32))) :=
  some (.inl ((y0 + y1), (x3 + (1 : Int32))))
def g_comes_b4 (n : Nat) (x1 : Int32) (h : rS) : (Int32 × Int32) → Option ((Int32 × Int32) ⊕ ((Int32))) := fun x =>
  let x2 := x.1
  let x3 := x.2
  (rget h 4 100 x1).bind fun v10 =>
  if v10 ≤ x3 then
    some (.inr x2)
  else
    (rget h 5 20000 (((200 : Int32) * x1) + x3)).bind fun v25 =>
    (g_in v25 (311 : Int32) (319 : Int32) h).bind fun v36 =>
    if v36 = 0 then
      g_comes_j81 n x1 x3 x2 (1 : Int32) h
    else
      (rget h 2 100 x1).bind fun v62 =>
      if v62 < (v25 - (310 : Int32)) then
        g_comes_j81 n x1 x3 x2 (0 : Int32) h
      else
        (rget h 12 10 (v25 - (310 : Int32))).bind fun v76 =>
        g_comes_j81 n x1 x3 x2 v76 h
def g_comes (n : Nat) (i1 : Int32) (h : rS) : Option (Int32) :=
  (gloopR (g_comes_b4 n i1 h) n ((0 : Int32), (0 : Int32))).bind fun b4 =>
  let x2_4 := b4
  some x2_4
def g_passed_j30 (n : Nat) (x2 : Int32) (y0 : Int32) (y1 : Int32) (h : rS) : Option ((Int32 × Int32) ⊕ ((Int32))) :=
  some (.inl ((y0 + y1), (x2 + (1 : Int32))))
def g_passed_b4 (n : Nat) (h : rS) : (Int32 × Int32) → Option ((Int32 × Int32) ⊕ ((Int32))) := fun x =>
  let x1 := x.1
  let x2 := x.2
  let v6 := h.1 28
  if v6 ≤ x2 then
    some (.inr x1)
  else
    (rget h 16 51 x2).bind fun v18 =>
    if v18 = (261 : Int32) then
      g_passed_j30 n x2 x1 (1 : Int32) h
    else
      g_passed_j30 n x2 x1 (0 : Int32) h
def g_passed (n : Nat) (h : rS) : Option (Int32) :=
  (gloopR (g_passed_b4 n h) n ((0 : Int32), (0 : Int32))).bind fun b4 =>
  let x1_4 := b4
  some x1_4
def g_expandName_j501 (n : Nat) (x2 : Int32) (h : rS) : Option ((Unit) × rS) :=
  let h503 := rput h 22 x2
  some ((), h503)
def g_expandName_j433 (n : Nat) (x2 : Int32) (x3 : Int32) (x6 : Int32) (x7 : Int32) (x8 : Int32) (x9 : Int32) (x10 : Int32) (h : rS) : Option (((Int32 × Int32) ⊕ ((Unit))) × rS) :=
  some (.inl (x9, (x10 + (1 : Int32))), h)
def g_expandName_j427 (n : Nat) (x2 : Int32) (x3 : Int32) (x6 : Int32) (x7 : Int32) (x8 : Int32) (x9 : Int32) (x10 : Int32) (y1 : Int32) (y2 : Int32) (h : rS) : Option (((Int32 × Int32) ⊕ ((Unit))) × rS) :=
  gbW (g_set y1 y2 h) fun _ h427 =>
  g_expandName_j433 n x2 x3 x6 x7 x8 (x9 + (1 : Int32)) x10 h427
def g_expandName_b351 (n : Nat) (x2 : Int32) (x3 : Int32) (x6 : Int32) (x7 : Int32) (x8 : Int32) (x10 : Int32) (x12 : Int32) : (Int32 × Int32) → rS → Option (((Int32 × Int32) ⊕ ((Int32))) × rS) := fun x h =>
  let x9 := x.1
  let x13 := x.2
  (rget h 2 100 x3).bind fun v358 =>
  if v358 < x12 then
    some (.inr x9, h)
  else
    (rget h 12 10 x12).bind fun v370 =>
    if v370 ≤ x13 then
      some (.inr x9, h)
    else
      (rget h 13 4000 (((400 : Int32) * x12) + x13)).bind fun v390 =>
      gbW (g_set x9 v390 h) fun _ h391 =>
      some (.inl ((x9 + (1 : Int32)), (x13 + (1 : Int32))), h391)
def g_expandName_b300 (n : Nat) (x2 : Int32) (x3 : Int32) (x6 : Int32) (x7 : Int32) (x8 : Int32) : (Int32 × Int32) → rS → Option (((Int32 × Int32) ⊕ ((Unit))) × rS) := fun x h =>
  let x9 := x.1
  let x10 := x.2
  (rget h 4 100 x3).bind fun v307 =>
  if v307 ≤ x10 then
    some (.inr (), h)
  else
    (rget h 5 20000 (((200 : Int32) * x3) + x10)).bind fun v323 =>
    (g_in v323 (311 : Int32) (319 : Int32) h).bind fun v334 =>
    if v334 = 0 then
      (g_isParameter v323 h).bind fun v411 =>
      if v411 = 0 then
        g_expandName_j427 n x2 x3 x6 x7 x8 x9 x10 x9 v323 h
      else
        g_expandName_j427 n x2 x3 x6 x7 x8 x9 x10 x9 (v323 - (10 : Int32)) h
    else
      gbW (gloopW (g_expandName_b351 n x2 x3 x6 x7 x8 x10 (v323 - (310 : Int32))) n (x9, (0 : Int32)) h) fun b351 h351l =>
      let x9_351 := b351
      g_expandName_j433 n x2 x3 x6 x7 x8 x9_351 x10 h351l
def g_expandName_j264 (n : Nat) (x1 : Int32) (x2 : Int32) (x3 : Int32) (x5 : Int32) (x6 : Int32) (x7 : Int32) (h : rS) : Option ((Unit) × rS) :=
  let v265 := h.1 21
  if v265 = 0 then
    let v273 := h.1 22
    gbW (g_take n x1 (x5 - x1) h) fun _ h284 =>
    gbW (g_spread n x1 x7 h284) fun _ h291 =>
    gbW (gloopW (g_expandName_b300 n x2 x3 x6 x7 v273) n (x1, (0 : Int32)) h291) fun b300 h300l =>
    let v440 := h300l.1 25
    if (100 : Int32) ≤ v440 then
      g_expandName_j501 n x2 h300l
    else
      let v454 := h300l.1 25
      (rset h300l 14 300 ((3 : Int32) * v454) v273).bind fun h460 =>
      let v467 := h460.1 25
      (rset h460 14 300 (((3 : Int32) * v467) + (1 : Int32)) x6).bind fun h475 =>
      let v482 := h475.1 25
      (rset h475 14 300 (((3 : Int32) * v482) + (2 : Int32)) x7).bind fun h490 =>
      let v493 := h490.1 25
      let h498 := rput h490 25 (v493 + (1 : Int32))
      g_expandName_j501 n x2 h498
  else
    some ((), h)
def g_expandName_j226 (n : Nat) (x1 : Int32) (x2 : Int32) (x3 : Int32) (x5 : Int32) (x6 : Int32) (y0 : Int32) (h : rS) : Option ((Unit) × rS) :=
  let v229 := h.1 21
  if v229 = 0 then
    let v236 := h.1 3
    (g_passed n h).bind fun v240 =>
    if (((v236 - v240) - (x5 - x1)) + y0) ≤ (3000 : Int32) then
      g_expandName_j264 n x1 x2 x3 x5 x6 y0 h
    else
      gbW (g_mark (8 : Int32) h) fun _ h261 =>
      g_expandName_j264 n x1 x2 x3 x5 x6 y0 h261
  else
    g_expandName_j264 n x1 x2 x3 x5 x6 y0 h
def g_expandName_j190 (n : Nat) (x1 : Int32) (x2 : Int32) (x3 : Int32) (x4 : Int32) (x6 : Int32) (x7 : Int32) (y0 : Int32) (h : rS) : Option (((Int32 × Int32 × Int32) ⊕ ((Int32 × Int32))) × rS) :=
  (rget h 12 10 x7).bind fun v200 =>
  some (.inl (y0, (x6 + v200), (x7 + (1 : Int32))), h)
def g_expandName_b119 (n : Nat) (x1 : Int32) (x2 : Int32) (x3 : Int32) (x4 : Int32) : (Int32 × Int32 × Int32) → rS → Option (((Int32 × Int32 × Int32) ⊕ ((Int32 × Int32))) × rS) := fun x h =>
  let x5 := x.1
  let x6 := x.2.1
  let x7 := x.2.2
  (rget h 2 100 x3).bind fun v126 =>
  if v126 < x7 then
    some (.inr (x5, x6), h)
  else
    let v131 := h.1 21
    if v131 = 0 then
      (rset h 12 10 x7 (0 : Int32)).bind fun h144 =>
      (rget h144 6 1000 (((10 : Int32) * x3) + x7)).bind fun v156 =>
      if v156 = 0 then
        gbW (g_plain n x7 x5 x4 h144) fun v167 h167 =>
        g_expandName_j190 n x1 x2 x3 x4 x6 x7 v167 h167
      else
        gbW (g_delimited n x7 (((10 : Int32) * x3) + x7) x5 x4 h144) fun v187 h187 =>
        g_expandName_j190 n x1 x2 x3 x4 x6 x7 v187 h187
    else
      some (.inr (x5, x6), h)
def g_expandName_j104 (n : Nat) (x1 : Int32) (x2 : Int32) (x3 : Int32) (x4 : Int32) (x5 : Int32) (x6 : Int32) (h : rS) : Option (((Int32 × Int32) ⊕ ((Int32))) × rS) :=
  some (.inl ((x5 + (1 : Int32)), (x6 + (1 : Int32))), h)
def g_expandName_b46 (n : Nat) (x1 : Int32) (x2 : Int32) (x3 : Int32) (x4 : Int32) : (Int32 × Int32) → rS → Option (((Int32 × Int32) ⊕ ((Int32))) × rS) := fun x h =>
  let x5 := x.1
  let x6 := x.2
  (rget h 6 1000 ((10 : Int32) * x3)).bind fun v56 =>
  if v56 ≤ x6 then
    some (.inr x5, h)
  else
    let v61 := h.1 21
    if v61 = 0 then
      gbW (g_isThere x5 (1 : Int32) h) fun v71 h71 =>
      if v71 = 0 then
        g_expandName_j104 n x1 x2 x3 x4 x5 x6 h71
      else
        (g_get x5 h71).bind fun v80 =>
        (rget h71 7 200000 (((2000 : Int32) * x3) + x6)).bind fun v95 =>
        if v80 = v95 then
          g_expandName_j104 n x1 x2 x3 x4 x5 x6 h71
        else
          gbW (g_mark (3 : Int32) h71) fun _ h101 =>
          g_expandName_j104 n x1 x2 x3 x4 x5 x6 h101
    else
      some (.inr x5, h)
def g_expandName_j36 (n : Nat) (x1 : Int32) (x2 : Int32) (x3 : Int32) (y0 : Int32) (h : rS) : Option ((Unit) × rS) :=
  gbW (gloopW (g_expandName_b46 n x1 x2 x3 y0) n ((x1 + (1 : Int32)), (0 : Int32)) h) fun b46 h46l =>
  let x5_46 := b46
  gbW (gloopW (g_expandName_b119 n x1 x2 x3 y0) n (x5_46, (0 : Int32), (1 : Int32)) h46l) fun b119 h119l =>
  let x5_119 := b119.1
  let x6_119 := b119.2
  let v211 := h119l.1 21
  if v211 = 0 then
    (g_comes n x3 h119l).bind fun v219 =>
    g_expandName_j226 n x1 x2 x3 x5_119 x6_119 v219 h119l
  else
    g_expandName_j226 n x1 x2 x3 x5_119 x6_119 (0 : Int32) h119l
def g_expandName (n : Nat) (i1 : Int32) (h : rS) : Option ((Unit) × rS) :=
  let v1 := h.1 22
  (g_get i1 h).bind fun v8 =>
  let h11 := rput h 22 v8
  (g_macroAt i1 h11).bind fun v16 =>
  (rget h11 3 100 v16).bind fun v25 =>
  if (v25 &&& (1 : Int32)) = 0 then
    g_expandName_j36 n i1 v1 v16 (0 : Int32) h11
  else
    g_expandName_j36 n i1 v1 v16 (1 : Int32) h11
def g_nameOf_b117 (n : Nat) (x1 : Int32) (x2 : Int32) : (Int32) → rS → Option (((Int32) ⊕ ((Unit))) × rS) := fun x h =>
  let x3 := x
  if x2 ≤ x3 then
    some (.inr (), h)
  else
    let v129 := h.1 16
    (rget h 15 512 (((8 : Int32) * x1) + x3)).bind fun v145 =>
    (rset h 11 800 (((8 : Int32) * v129) + x3) v145).bind fun h146 =>
    some (.inl (x3 + (1 : Int32)), h146)
def g_nameOf_j73 (n : Nat) (x1 : Int32) (x2 : Int32) (x3 : Int32) (x5 : Int32) (y0 : Int32) (h : rS) : Option (((Int32 × Int32) ⊕ ((Int32))) × rS) :=
  some (.inl (y0, (x5 + (1 : Int32))), h)
def g_nameOf_b30 (n : Nat) (x1 : Int32) (x2 : Int32) (x3 : Int32) : (Int32 × Int32) → rS → Option (((Int32 × Int32) ⊕ ((Int32))) × rS) := fun x h =>
  let x4 := x.1
  let x5 := x.2
  if x2 ≤ x5 then
    some (.inr x4, h)
  else
    if x4 = 0 then
      some (.inr x4, h)
    else
      (rget h 11 800 (((8 : Int32) * x3) + x5)).bind fun v52 =>
      (rget h 15 512 (((8 : Int32) * x1) + x5)).bind fun v64 =>
      if v52 = v64 then
        g_nameOf_j73 n x1 x2 x3 x5 (1 : Int32) h
      else
        g_nameOf_j73 n x1 x2 x3 x5 (0 : Int32) h
def g_nameOf_j25 (n : Nat) (x1 : Int32) (x2 : Int32) (x3 : Int32) (y0 : Int32) (h : rS) : Option (((Int32) ⊕ ((Int32) ⊕ (Unit))) × rS) :=
  gbW (gloopW (g_nameOf_b30 n x1 x2 x3) n (y0, (0 : Int32)) h) fun b30 h30l =>
  let x4_30 := b30
  if x4_30 = 0 then
    some (.inl (x3 + (1 : Int32)), h30l)
  else
    some (.inr (.inl x3), h30l)
def g_nameOf_b2 (n : Nat) (x1 : Int32) (x2 : Int32) : (Int32) → rS → Option (((Int32) ⊕ ((Int32) ⊕ (Unit))) × rS) := fun x h =>
  let x3 := x
  let v4 := h.1 16
  if v4 ≤ x3 then
    some (.inr (.inr (())), h)
  else
    (rget h 10 100 x3).bind fun v15 =>
    if v15 = x2 then
      g_nameOf_j25 n x1 x2 x3 (1 : Int32) h
    else
      g_nameOf_j25 n x1 x2 x3 (0 : Int32) h
def g_nameOf (n : Nat) (i1 : Int32) (i2 : Int32) (h : rS) : Option ((Int32) × rS) :=
  gbW (gloopW (g_nameOf_b2 n i1 i2) n (0 : Int32) h) fun b2 h2l =>
  match b2 with
  | .inl z2 =>
    let x3_2 := z2
    some (((1100 : Int32) + x3_2), h2l)
  | .inr (z2) =>
    let v99 := h2l.1 16
    if v99 = (100 : Int32) then
      gbW (g_mark (8 : Int32) h2l) fun _ h110 =>
      some ((0 : Int32), h110)
    else
      gbW (gloopW (g_nameOf_b117 n i1 i2) n (0 : Int32) h2l) fun b117 h117l =>
      let v158 := h117l.1 16
      (rset h117l 10 100 v158 i2).bind fun h162 =>
      let v165 := h162.1 16
      let h170 := rput h162 16 (v165 + (1 : Int32))
      let v177 := h170.1 16
      some (((1099 : Int32) + v177), h170)
