/-! THE MACHINE ON LISTS: what class and reference do alike.
Numbers: 0 granted, 1 steps, 2 name at work, 3 held, 4 AFTER is new, 6 latest fault, 7 latest name, 8 marks, 9 later, 10 stage of the definition, 11 it is expanded, 12 its name, 13 its arguments, 14 its depth, 15 groups, 16 made names.
Lists: 0 input, 1 output, 2 arguments of the macros, 3 marks of the macros, 8 put aside by the frames (-1: NAMING), 100 + i made name i, 200 + f signs of frame f, 400 + r row r of the definition, 410 its text, 1000 + 20 m + r row r of macro m, 1000 + 20 m + 10 its text.
Functions: 0 which macro a name has, 1 + g what it had when group g began. Last: the trace. -/
abbrev aS : Type := (Nat → Int32) × (Nat → List Int32) × (Nat → Nat → Int32) × List (Int32 × Int32 × Int32)
def aPi (A : aS) (k : Nat) (v : Int32) : aS := (upd A.1 k v, A.2)
def aPl (A : aS) (k : Nat) (v : List Int32) : aS := (A.1, va_up A.2.1 k v, A.2.2)
def aPt (A : aS) (ts : List (Int32 × Int32 × Int32)) : aS := (A.1, A.2.1, A.2.2.1, ts)
def aMac (A : aS) (t : Int32) : Int32 := if tName t then A.2.2.1 0 (t - 1000).toNatClampNeg else -1
def aMk (A : aS) (m : Nat) : Int32 := ((A.2.1 3)[m]?).getD 0
def aNum (A : aS) (m : Nat) : Nat := (((A.2.1 2)[m]?).getD 0).toNatClampNeg
def aOut (A : aS) (t : Int32) : Bool := decide (0 ≤ aMac A t) && !(decide (aMk A (aMac A t).toNatClampNeg &&& 2 = 0))
def aLng (A : aS) (m : Nat) : Bool := !(decide (aMk A m &&& 1 = 0))
def aRow (A : aS) (m r : Nat) : List Int32 := A.2.1 (1000 + 20 * m + r)
def aHas (A : aS) (t : Int32) : Bool := decide (260 ≤ t ∧ t ≤ 262) || decide (0 ≤ aMac A t)
def aCan (A : aS) : Bool := decide (A.1 3 = 0) && match A.2.1 0 with
  | [] => false
  | t :: _ => aHas A t
def eName (A : aS) (t : Int32) (m : Nat) : Int32 × aS := match mName (aOut A) (aLng A m) (aRow A m) (aNum A m) (aRow A m 10) (A.2.1 0) with
  | .inl c => (c, aPi A 2 t)
  | .inr q => (0, aPt (aPl A 0 q.2.2) (mTr A.2.2.2 (t, nI q.1, nI q.2.1)))
def eAft (A : aS) : Int32 × aS := match A.2.1 0 with
  | a :: b :: cs => if (A.2.1 8).length < 50 then (0, aPi (aPl (aPl A 0 (b :: cs)) 8 (A.2.1 8 ++ [a])) 4 1) else (8, A)
  | _ => (1, A)
def eNam (A : aS) : Int32 × aS := if (A.2.1 8).length < 50 then (0, aPl (aPl A (200 + (A.2.1 8).length) []) 8 (A.2.1 8 ++ [-1])) else (8, A)
def eTokB (A : aS) (t : Int32) : Int32 × aS := if t = 260 then (if (A.2.1 0).length = 0 then 1 else 0, aPi A 3 1) else if t = 261 then eAft A else if t = 262 then eNam A else if aMac A t < 0 then (0, A) else eName A t (aMac A t).toNatClampNeg
def eTok (A : aS) : Int32 × aS := match A.2.1 0 with
  | [] => (0, A)
  | t :: ts => eTokB (aPl A 0 ts) t
/-- the first token is expanded: a fault or 0, and what stands then -/
def eFirst (A : aS) : Int32 × aS := if A.1 1 = A.1 0 then (5, A) else eTok (aPi A 1 (A.1 1 + 1))
def aFs (A : aS) : List Int32 := (A.2.1 8).dropLast
def aTop (A : aS) : Int32 := ((A.2.1 8).getLast?).getD (-1)
def eBack (A : aS) : Int32 × aS := if 3000 ≤ (A.2.1 0).length then (8, A) else (0, aPi (aPl (aPl A 8 (aFs A)) 0 (aTop A :: A.2.1 0)) 3 0)
def mSpell (w : Nat → List Int32) (ss : List Int32) (c : Nat) : Option Nat := (List.range c).find? (fun i => decide (w i = ss))
def eEnd (A : aS) (ss : List Int32) (c : Nat) : Int32 × aS := match mSpell (fun i => A.2.1 (100 + i)) ss c with
  | some i => (0, aPl (aPl A 8 (aFs A)) 0 (nI (1100 + i) :: A.2.1 0))
  | none => if c = 100 then (8, A) else (0, aPl (aPl (aPi (aPl A (100 + c) ss) 16 (nI (c + 1))) 8 (aFs A)) 0 (nI (1100 + c) :: A.2.1 0))
def eSign (A : aS) (t : Int32) (ss : List Int32) (f : Nat) : Int32 × aS := if t = 263 then (if ss.length = 0 then (4, A) else eEnd A ss (A.1 16).toNatClampNeg) else if 0 ≤ t ∧ t ≤ 255 ∧ ss.length < 8 then (0, aPl A (200 + f) (ss ++ [t])) else (4, A)
def eGo (A : aS) : Int32 × aS := match A.2.1 0 with
  | [] => (1, A)
  | t :: ts => eSign (aPi (aPl A 0 ts) 3 0) t (A.2.1 (200 + ((A.2.1 8).length - 1))) ((A.2.1 8).length - 1)
def eTurnB (A : aS) (w : Bool) (nm : Bool) : Int32 × aS := if w && aCan A then eFirst A else if nm then eGo A else eBack A
def eTurn (A : aS) : Int32 × aS := eTurnB (aPi A 4 0) (decide (aTop A = -1) || !(decide (A.1 4 = 0))) (decide (aTop A = -1))
def eLoop : Nat → Int32 × aS → Option (Int32 × aS)
  | 0, _ => none
  | n + 1, r => if r.1 = 0 then (if (r.2.2.1 8).length = 0 then some r else eLoop n (eTurn r.2)) else some r
/-- the first token is expanded, and with it all that its NAMING and AFTER want -/
def eOnce (n : Nat) (A : aS) : Option (Int32 × aS) := eLoop n (eFirst A)
def mNest (t : Int32) : Int32 := if t = 257 then 1 else if t = 258 then -1 else 0
def dAdd (A : aS) (j : Nat) (t : Int32) : Int32 × aS := if (A.2.1 j).length < 200 then (0, aPl A j (A.2.1 j ++ [t])) else (8, A)
def dName (A : aS) (t : Int32) : Int32 × aS := if tName t then (0, aPi (aPi A 12 t) 10 2) else (6, A)
def dRows (A : aS) (t : Int32) : Int32 × aS := if t = 257 then (0, aPi A 10 3) else if t = 258 then (6, A) else if tPar t then (if nI (tArg t) = A.1 13 + 1 then (0, aPi A 13 (A.1 13 + 1)) else (6, A)) else dAdd A (400 + (A.1 13).toNatClampNeg) t
def dText (A : aS) (t : Int32) : Int32 × aS := if A.1 14 + mNest t = 0 then (0, aPi (aPi A 14 (A.1 14 + mNest t)) 10 4) else if nI (tArg t) ≤ A.1 13 then dAdd (aPi A 14 (A.1 14 + mNest t)) 410 t else (6, aPi A 14 (A.1 14 + mNest t))
def dAcc (A : aS) (t : Int32) : Int32 × aS := if A.1 10 = 1 then dName A t else if A.1 10 = 2 then dRows A t else dText A t
/-- a new macro: its name's number, its arguments, its marks, its rows (10: the text) -/
def aNew (A : aS) (nm k : Nat) (mk : Int32) (rows : Nat → List Int32) : aS := (A.1, fun j => if j = 2 then A.2.1 2 ++ [nI k] else if j = 3 then A.2.1 3 ++ [mk] else if 1000 + 20 * (A.2.1 2).length ≤ j ∧ j < 1000 + 20 * (A.2.1 2).length + 20 then rows (j - (1000 + 20 * (A.2.1 2).length)) else A.2.1 j, fun j => if j = 0 ∨ (mk &&& 4 ≠ 0 ∧ 1 ≤ j ∧ j ≤ (A.1 15).toNatClampNeg) then upd (A.2.2.1 j) nm (nI (A.2.1 2).length) else A.2.2.1 j, A.2.2.2)
def dRow (A : aS) (r : Nat) : List Int32 := if r ≤ (A.1 13).toNatClampNeg ∨ r = 10 then A.2.1 (400 + r) else []
def dLater (A : aS) : aS := if A.1 9 = -1 then A else aPi (aPl A 0 (A.1 9 :: A.2.1 0)) 9 (-1)
def dEnter (A : aS) : aS := dLater (aPi (aPi (aPi (aNew A (A.1 12 - 1000).toNatClampNeg (A.1 13).toNatClampNeg (A.1 8) (dRow A)) 10 0) 2 0) 8 0)
def dGoB (r : Int32 × aS) : Int32 × aS := if r.1 = 0 then (if r.2.1 10 = 4 then (if (r.2.2.1 2).length = 100 then (8, r.2) else (0, dEnter r.2)) else r) else r
def dGo (A : aS) (t : Int32) : Int32 × aS := dGoB ((dAcc A t).1, aPi (dAcc A t).2 2 ((dAcc A t).2.1 12))
def mMark (t : Int32) : Int32 := if t = 266 then 1 else if t = 267 then 2 else if t = 268 then 4 else 0
def dBegin (A : aS) (e : Int32) : aS := aPi (aPi (aPi (aPi (aPi (A.1, (fun j => if 400 ≤ j ∧ j ≤ 410 then [] else A.2.1 j), A.2.2) 10 1) 11 e) 12 0) 13 0) 14 1
def wLate (A : aS) : Int32 × aS := match A.2.1 0 with
  | [] => (1, A)
  | u :: us => (0, aPi (aPl A 0 us) 9 u)
def wCarry (A : aS) (t : Int32) : Int32 × aS := if mMark t = 0 then (if t = 264 then (0, dBegin A 0) else if t = 265 then (0, dBegin A 1) else if A.1 8 = 0 then (if t = 269 then wLate A else if (A.2.1 1).length < 3000 then (0, aPl A 1 (A.2.1 1 ++ [t])) else (8, A)) else (6, A)) else (0, aPi A 8 (A.1 8 ||| mMark t))
def wTakes (A : aS) : Bool := !(decide (A.1 10 = 0)) && !(decide (A.1 10 = 3) && !(decide (A.1 11 = 0)))
def wTake (A : aS) : Int32 × aS := match A.2.1 0 with
  | [] => (0, A)
  | t :: ts => if A.1 10 = 0 then wCarry (aPi (aPl A 0 ts) 3 0) t else dGo (aPi (aPl A 0 ts) 3 0) t
def wTurn (n : Nat) (A : aS) : Option (Int32 × aS) := if !(wTakes A) && aCan A then eOnce n A else some (wTake A)
def wEnd (A : aS) : Int32 × aS := (if A.1 8 = 0 ∧ A.1 10 = 0 then 0 else 1, A)
def wLoop (n : Nat) : Nat → Int32 × aS → Option (Int32 × aS)
  | 0, _ => none
  | k + 1, r => if r.1 = 0 then (if (r.2.2.1 0).length = 0 then some (wEnd r.2) else (wTurn n r.2).bind fun q => wLoop n k q) else some r
def wBegin (A : aS) : aS := aPi (aPi (aPi (aPl A 1 []) 10 0) 8 0) 9 (-1)
def eBegin (A : aS) : aS := aPt (aPi (aPi (aPi (aPi (aPl A 8 []) 4 0) 3 0) 1 0) 2 0) []
