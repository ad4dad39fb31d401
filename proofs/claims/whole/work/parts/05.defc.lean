def f_X4_isWithin (x0 : Int32) (x1 : Int32) (x2 : Int32) : Option (Int32) :=
  if x0 < x1 then
    some (0 : Int32)
  else
    if x2 < x0 then
      some (0 : Int32)
    else
      some (1 : Int32)
def f_X4_isColour (x0 : Int32) : Option (Int32) :=
  qc (f_X4_isWithin x0 (0 : Int32) (5 : Int32)) fun v1 =>
  qb v1
def f_X4_isCell (x0 : Int32) (x1 : Int32) : Option (Int32) :=
  qc (f_X4_isWithin x0 (0 : Int32) (11 : Int32)) fun v1 =>
  if v1 = 0 then
    some (0 : Int32)
  else
    qc (f_X4_isWithin x1 (0 : Int32) (11 : Int32)) fun v3 =>
    if v3 = 0 then
      some (0 : Int32)
    else
      some (1 : Int32)
def f_X4_rowOf (x0 : Int32) : Option (Int32) :=
  if x0 = (-1 : Int32) then
    some (-1 : Int32)
  else
    some ((x0 / (12 : Int32)))
def f_X4_columnOf (x0 : Int32) : Option (Int32) :=
  if x0 = (-1 : Int32) then
    some (-1 : Int32)
  else
    some ((x0 - x0 / (12 : Int32) * (12 : Int32)))
def f_X0_aroundTheRing (F : Nat → Int32) (G : Nat → Nat → Int32) (x1 : Int32) : Option (Int32) :=
  if (F 35) = 0 then
    some x1
  else
    qd ((F 35)) <|
    some (((x1 + (F 35)) - (x1 + (F 35)) / (F 35) * (F 35)))
def f_X0_leftCatch (F : Nat → Int32) (G : Nat → Nat → Int32) (x1 : Int32) (x2 : Int32) : Option (Int32) :=
  qc (f_X0_aroundTheRing F G (((x2 - (1 : Int32)) + (x1 - x1 / (2 : Int32) * (2 : Int32))))) fun v1 =>
  some v1
def f_X0_rightCatch (F : Nat → Int32) (G : Nat → Nat → Int32) (x1 : Int32) (x2 : Int32) : Option (Int32) :=
  qc (f_X0_aroundTheRing F G ((x2 + (x1 - x1 / (2 : Int32) * (2 : Int32))))) fun v1 =>
  some v1
def f_X0_lowerCatch (F : Nat → Int32) (G : Nat → Nat → Int32) (x1 : Int32) (x2 : Int32) : Option (Int32) :=
  if (F 34) = 0 then
    some x2
  else
    qc (f_X0_leftCatch F G x1 x2) fun v1 =>
    qc (f_X0_rightCatch F G x1 x2) fun v3 =>
    some ((if v3 < v1 then v3 else v1))
def f_X0_upperCatch (F : Nat → Int32) (G : Nat → Nat → Int32) (x1 : Int32) (x2 : Int32) : Option (Int32) :=
  if (F 34) = 0 then
    some (-1 : Int32)
  else
    qc (f_X0_leftCatch F G x1 x2) fun v1 =>
    qc (f_X0_rightCatch F G x1 x2) fun v3 =>
    some ((if v1 < v3 then v3 else v1))
def f_X0_columnsInUse (F : Nat → Int32) (G : Nat → Nat → Int32)  : Option (Int32) :=
  if (F 35) = 0 then
    some (12 : Int32)
  else
    some ((F 35))
def f_X0_holdsRun (F : Nat → Int32) (G : Nat → Nat → Int32) (x1 : Int32) (x2 : Int32) (x3 : Int32) : Option (Int32) :=
  qc (f_X4_isCell x1 x2) fun v1 =>
  if v1 = 0 then
    some (0 : Int32)
  else
    qc (f_X4_isWithin x3 (1 : Int32) (12 : Int32)) fun v3 =>
    if v3 = 0 then
      some (0 : Int32)
    else
      qc (f_X0_columnsInUse F G) fun v5 =>
      if v5 < (x2 + x3) then
        some (0 : Int32)
      else
        some (1 : Int32)
def f_X0_colourAt (F : Nat → Int32) (G : Nat → Nat → Int32) (x1 : Int32) (x2 : Int32) : Option (Int32) :=
  qc (f_X4_isCell x1 x2) fun v1 =>
  if v1 = 0 then
    some (-1 : Int32)
  else
    ql (G 30) 144 (((x1 * (12 : Int32)) + x2)) fun v3 =>
    some v3
def f_X0_hasBeadsFrom_B29 (rec2 : Int32 → Option (Int32)) (F : Nat → Int32) (G : Nat → Nat → Int32) (x1 : Int32) (x2 : Int32) : Option (Int32) :=
  qn (x2 + (1 : Int32)) fun v1 =>
  rec2 v1
def f_X0_hasBeadsFrom_L2_b  (rec2 : Int32 → Option (Int32)) (F : Nat → Int32) (G : Nat → Nat → Int32) (x1 : Int32) (x2 : Int32) : Option (Int32) :=
  if (144 : Int32) ≤ x2 then
    some (0 : Int32)
  else
    if (x2 - x2 / (12 : Int32) * (12 : Int32)) < x1 then
      f_X0_hasBeadsFrom_B29 rec2 F G x1 x2
    else
      ql (G 30) 144 x2 fun v2 =>
      if v2 = (-1 : Int32) then
        f_X0_hasBeadsFrom_B29 rec2 F G x1 x2
      else
        some (1 : Int32)
def f_X0_hasBeadsFrom_L2  (F : Nat → Int32) (G : Nat → Nat → Int32) (x1 : Int32) : Nat → Int32 → Option (Int32)
  | 0, _ => none
  | n + 1, x2 => f_X0_hasBeadsFrom_L2_b  (f_X0_hasBeadsFrom_L2  F G x1 n) F G x1 x2
def f_X0_hasBeadsFrom (F : Nat → Int32) (G : Nat → Nat → Int32) (x1 : Int32) : Option (Int32) :=
  qn (0 : Int32) fun v3 =>
  f_X0_hasBeadsFrom_L2 F G x1 1000 v3
def f_X0_beadsInRow_B23 (rec4 : Int32 → Int32 → Option (Int32)) (F : Nat → Int32) (G : Nat → Nat → Int32) (x1 : Int32) (x2 : Int32) (x3 : Int32) : Option (Int32) :=
  qn (x3 + (1 : Int32)) fun v1 =>
  rec4 x2 v1
def f_X0_beadsInRow_L4_b  (rec4 : Int32 → Int32 → Option (Int32)) (F : Nat → Int32) (G : Nat → Nat → Int32) (x1 : Int32) (x2 : Int32) (x3 : Int32) : Option (Int32) :=
  if (12 : Int32) ≤ x3 then
    some x2
  else
    qc (f_X0_colourAt F G x1 x3) fun v2 =>
    if v2 = (-1 : Int32) then
      f_X0_beadsInRow_B23 rec4 F G x1 x2 x3
    else
      qn (x2 + (1 : Int32)) fun v4 =>
      f_X0_beadsInRow_B23 rec4 F G x1 v4 x3
def f_X0_beadsInRow_L4  (F : Nat → Int32) (G : Nat → Nat → Int32) (x1 : Int32) : Nat → Int32 → Int32 → Option (Int32)
  | 0, _, _ => none
  | n + 1, x2, x3 => f_X0_beadsInRow_L4_b  (f_X0_beadsInRow_L4  F G x1 n) F G x1 x2 x3
def f_X0_beadsInRow (F : Nat → Int32) (G : Nat → Nat → Int32) (x1 : Int32) : Option (Int32) :=
  qn (0 : Int32) fun v5 =>
  qn (0 : Int32) fun v6 =>
  f_X0_beadsInRow_L4 F G x1 1000 v5 v6
def f_X0_rowsWithBeads_B21 (rec4 : Int32 → Int32 → Option (Int32)) (F : Nat → Int32) (G : Nat → Nat → Int32) (x1 : Int32) (x2 : Int32) : Option (Int32) :=
  qn (x2 + (1 : Int32)) fun v1 =>
  rec4 x1 v1
def f_X0_rowsWithBeads_L4_b  (rec4 : Int32 → Int32 → Option (Int32)) (F : Nat → Int32) (G : Nat → Nat → Int32) (x1 : Int32) (x2 : Int32) : Option (Int32) :=
  if (12 : Int32) ≤ x2 then
    some x1
  else
    qc (f_X0_beadsInRow F G x2) fun v2 =>
    if v2 ≤ 0 then
      f_X0_rowsWithBeads_B21 rec4 F G x1 x2
    else
      qn (x1 + (1 : Int32)) fun v4 =>
      f_X0_rowsWithBeads_B21 rec4 F G v4 x2
def f_X0_rowsWithBeads_L4  (F : Nat → Int32) (G : Nat → Nat → Int32) : Nat → Int32 → Int32 → Option (Int32)
  | 0, _, _ => none
  | n + 1, x1, x2 => f_X0_rowsWithBeads_L4_b  (f_X0_rowsWithBeads_L4  F G n) F G x1 x2
def f_X0_rowsWithBeads (F : Nat → Int32) (G : Nat → Nat → Int32)  : Option (Int32) :=
  qn (0 : Int32) fun v5 =>
  qn (0 : Int32) fun v6 =>
  f_X0_rowsWithBeads_L4 F G 1000 v5 v6
def f_X0_cellsThatHold_B24 (rec4 : Int32 → Int32 → Option (Int32)) (F : Nat → Int32) (G : Nat → Nat → Int32) (x1 : Int32) (x2 : Int32) (x3 : Int32) : Option (Int32) :=
  qn (x3 + (1 : Int32)) fun v1 =>
  rec4 x2 v1
def f_X0_cellsThatHold_L4_b  (rec4 : Int32 → Int32 → Option (Int32)) (F : Nat → Int32) (G : Nat → Nat → Int32) (x1 : Int32) (x2 : Int32) (x3 : Int32) : Option (Int32) :=
  if (144 : Int32) ≤ x3 then
    some x2
  else
    ql (G 30) 144 x3 fun v2 =>
    if v2 = x1 then
      qn (x2 + (1 : Int32)) fun v3 =>
      f_X0_cellsThatHold_B24 rec4 F G x1 v3 x3
    else
      f_X0_cellsThatHold_B24 rec4 F G x1 x2 x3
def f_X0_cellsThatHold_L4  (F : Nat → Int32) (G : Nat → Nat → Int32) (x1 : Int32) : Nat → Int32 → Int32 → Option (Int32)
  | 0, _, _ => none
  | n + 1, x2, x3 => f_X0_cellsThatHold_L4_b  (f_X0_cellsThatHold_L4  F G x1 n) F G x1 x2 x3
def f_X0_cellsThatHold (F : Nat → Int32) (G : Nat → Nat → Int32) (x1 : Int32) : Option (Int32) :=
  qn (0 : Int32) fun v4 =>
  qn (0 : Int32) fun v5 =>
  f_X0_cellsThatHold_L4 F G x1 1000 v4 v5
def f_X0_allBeads (F : Nat → Int32) (G : Nat → Nat → Int32)  : Option (Int32) :=
  qc (f_X0_cellsThatHold F G (-1 : Int32)) fun v1 =>
  some (((144 : Int32) - v1))
def f_X0_beadsOfColour (F : Nat → Int32) (G : Nat → Nat → Int32) (x1 : Int32) : Option (Int32) :=
  qc (f_X0_cellsThatHold F G x1) fun v1 =>
  some v1
def f_X0_putRun_B57 (rec3 : (Nat → Int32) → (Nat → Nat → Int32) → Int32 → Option (qS)) (x1 : Int32) (x2 : Int32) (x3 : Int32) (x4 : Int64) (F : Nat → Int32) (G : Nat → Nat → Int32) (x6 : Int32) : Option (qS) :=
  qn (x6 + (1 : Int32)) fun v1 =>
  rec3 F G v1
def f_X0_putRun_B56 (rec3 : (Nat → Int32) → (Nat → Nat → Int32) → Int32 → Option (qS)) (x1 : Int32) (x2 : Int32) (x3 : Int32) (x4 : Int64) (F : Nat → Int32) (G : Nat → Nat → Int32) (x6 : Int32) (s1 : Int32) (s2 : Int32) : Option (qS) :=
  qs G 30 144 s1 s2 fun G2 =>
  f_X0_putRun_B57 rec3 x1 x2 x3 x4 F G2 x6
def f_X0_putRun_L3_b  (rec3 : (Nat → Int32) → (Nat → Nat → Int32) → Int32 → Option (qS)) (x1 : Int32) (x2 : Int32) (x3 : Int32) (x4 : Int64) (F : Nat → Int32) (G : Nat → Nat → Int32) (x6 : Int32) : Option (qS) :=
  if x3 ≤ x6 then
    some (F, G)
  else
    qn ((((x4.toUInt64 >>> (((3 : Int32) * x6).toInt64.toUInt64 &&& Int64.toUInt64 63)).toInt64 &&& (7 : Int64))).toInt32) fun v3 =>
    if v3 = (7 : Int32) then
      f_X0_putRun_B57 rec3 x1 x2 x3 x4 F G x6
    else
      if v3 = (6 : Int32) then
        f_X0_putRun_B56 rec3 x1 x2 x3 x4 F G x6 ((((x1 * (12 : Int32)) + x2) + x6)) (-1 : Int32)
      else
        f_X0_putRun_B56 rec3 x1 x2 x3 x4 F G x6 ((((x1 * (12 : Int32)) + x2) + x6)) v3
def f_X0_putRun_L3  (x1 : Int32) (x2 : Int32) (x3 : Int32) (x4 : Int64) : Nat → (Nat → Int32) → (Nat → Nat → Int32) → Int32 → Option (qS)
  | 0, _, _, _ => none
  | n + 1, F, G, x6 => f_X0_putRun_L3_b  (f_X0_putRun_L3  x1 x2 x3 x4 n) x1 x2 x3 x4 F G x6
def f_X0_putRun (F : Nat → Int32) (G : Nat → Nat → Int32) (x1 : Int32) (x2 : Int32) (x3 : Int32) (x4 : Int64) : Option (qS) :=
  qn (0 : Int32) fun v4 =>
  f_X0_putRun_L3 x1 x2 x3 x4 1000 F G v4
def f_X2_empty (F : Nat → Int32) (G : Nat → Nat → Int32)  : Option (qS) :=
  qf F 21 (0 : Int32) fun F1 =>
  some (F1, G)
def f_X2_pass (F : Nat → Int32) (G : Nat → Nat → Int32) (x1 : Int32) : Option (qS) :=
  if x1 = (-1 : Int32) then
    some (F, G)
  else
    if (4 : Int32) ≤ (F 21) then
      some (F, G)
    else
      qs G 20 4 ((F 21)) x1 fun G1 =>
      qf F 21 (((F 21) + (1 : Int32))) fun F2 =>
      some (F2, G1)
def f_X2_threadNeeded_L5_b  (rec5 : Int32 → Int32 → Option (Int32)) (F : Nat → Int32) (G : Nat → Nat → Int32) (x3 : Int32) (x4 : Int32) : Option (Int32) :=
  if (F 21) ≤ x4 then
    some x3
  else
    ql (G 20) 4 x4 fun v1 =>
    ql (G 1) 144 v1 fun v2 =>
    ql (G 32) 6 v2 fun v3 =>
    qn ((x3 + v3)) fun v4 =>
    qn (x4 + (1 : Int32)) fun v5 =>
    rec5 v4 v5
def f_X2_threadNeeded_L5  (F : Nat → Int32) (G : Nat → Nat → Int32) : Nat → Int32 → Int32 → Option (Int32)
  | 0, _, _ => none
  | n + 1, x3, x4 => f_X2_threadNeeded_L5_b  (f_X2_threadNeeded_L5  F G n) F G x3 x4
def f_X2_threadNeeded (F : Nat → Int32) (G : Nat → Nat → Int32)  : Option (Int32) :=
  qn (0 : Int32) fun v6 =>
  qn (0 : Int32) fun v7 =>
  f_X2_threadNeeded_L5 F G 1000 v6 v7
def f_X2_passesUpTo_B27 (rec4 : Int32 → Int32 → Option (Int32)) (F : Nat → Int32) (G : Nat → Nat → Int32) (x1 : Int32) (x2 : Int32) (x3 : Int32) : Option (Int32) :=
  qn (x3 + (1 : Int32)) fun v1 =>
  rec4 x2 v1
def f_X2_passesUpTo_L4_b  (rec4 : Int32 → Int32 → Option (Int32)) (F : Nat → Int32) (G : Nat → Nat → Int32) (x1 : Int32) (x2 : Int32) (x3 : Int32) : Option (Int32) :=
  if x1 < x3 then
    some x2
  else
    ql (G 20) 4 x3 fun v2 =>
    ql (G 20) 4 x1 fun v3 =>
    if v2 = v3 then
      qn (x2 + (1 : Int32)) fun v4 =>
      f_X2_passesUpTo_B27 rec4 F G x1 v4 x3
    else
      f_X2_passesUpTo_B27 rec4 F G x1 x2 x3
def f_X2_passesUpTo_L4  (F : Nat → Int32) (G : Nat → Nat → Int32) (x1 : Int32) : Nat → Int32 → Int32 → Option (Int32)
  | 0, _, _ => none
  | n + 1, x2, x3 => f_X2_passesUpTo_L4_b  (f_X2_passesUpTo_L4  F G x1 n) F G x1 x2 x3
def f_X2_passesUpTo (F : Nat → Int32) (G : Nat → Nat → Int32) (x1 : Int32) : Option (Int32) :=
  qn (0 : Int32) fun v5 =>
  qn (0 : Int32) fun v6 =>
  f_X2_passesUpTo_L4 F G x1 1000 v5 v6
def f_X2_fits_L3_b  (rec3 : Int32 → Option (Int32)) (F : Nat → Int32) (G : Nat → Nat → Int32) (x4 : Int32) : Option (Int32) :=
  if (F 21) ≤ x4 then
    some (1 : Int32)
  else
    ql (G 20) 4 x4 fun v1 =>
    ql (G 3) 144 v1 fun v2 =>
    qc (f_X2_passesUpTo F G x4) fun v3 =>
    ql (G 1) 144 v1 fun v5 =>
    ql (G 31) 6 v5 fun v6 =>
    if (v2 + v3) ≤ v6 then
      qn (x4 + (1 : Int32)) fun v7 =>
      rec3 v7
    else
      some (0 : Int32)
def f_X2_fits_L3  (F : Nat → Int32) (G : Nat → Nat → Int32) : Nat → Int32 → Option (Int32)
  | 0, _ => none
  | n + 1, x4 => f_X2_fits_L3_b  (f_X2_fits_L3  F G n) F G x4
def f_X2_fits (F : Nat → Int32) (G : Nat → Nat → Int32)  : Option (Int32) :=
  qn (0 : Int32) fun v8 =>
  f_X2_fits_L3 F G 1000 v8
def f_X2_countInto_L2_b  (rec2 : (Nat → Int32) → (Nat → Nat → Int32) → Int32 → Option (qS)) (F : Nat → Int32) (G : Nat → Nat → Int32) (x2 : Int32) : Option (qS) :=
  if (F 21) ≤ x2 then
    some (F, G)
  else
    ql (G 20) 4 x2 fun v1 =>
    ql (G 3) 144 v1 fun v2 =>
    qs G 3 144 v1 ((v2 + (1 : Int32))) fun G3 =>
    qn (x2 + (1 : Int32)) fun v4 =>
    rec2 F G3 v4
def f_X2_countInto_L2  : Nat → (Nat → Int32) → (Nat → Nat → Int32) → Int32 → Option (qS)
  | 0, _, _, _ => none
  | n + 1, F, G, x2 => f_X2_countInto_L2_b  (f_X2_countInto_L2  n) F G x2
def f_X2_countInto (F : Nat → Int32) (G : Nat → Nat → Int32)  : Option (qS) :=
  qn (0 : Int32) fun v5 =>
  f_X2_countInto_L2 1000 F G v5
def f_X3_has (F : Nat → Int32) (G : Nat → Nat → Int32) (x1 : Int32) : Option (Int32) :=
  if x1 < 0 then
    some (0 : Int32)
  else
    if (F 11) ≤ x1 then
      some (0 : Int32)
    else
      some (1 : Int32)
def f_X3_pickAt (F : Nat → Int32) (G : Nat → Nat → Int32) (x1 : Int32) (x2 : Int32) : Option (Int32) :=
  qc (f_X4_isCell x1 x2) fun v1 =>
  if v1 = 0 then
    some (-1 : Int32)
  else
    ql (G 6) 144 (((x1 * (12 : Int32)) + x2)) fun v3 =>
    some v3
def f_X3_caughtCount_B15  (F : Nat → Int32) (G : Nat → Nat → Int32) (x1 : Int32) (s0 : Int32) : Option (Int32) :=
  ql (G 5) 144 x1 fun v1 =>
  if v1 = (-1 : Int32) then
    some ((s0 + (0 : Int32)))
  else
    some ((s0 + (1 : Int32)))
def f_X3_caughtCount (F : Nat → Int32) (G : Nat → Nat → Int32) (x1 : Int32) : Option (Int32) :=
  ql (G 4) 144 x1 fun v2 =>
  if v2 = (-1 : Int32) then
    f_X3_caughtCount_B15 F G x1 (0 : Int32)
  else
    f_X3_caughtCount_B15 F G x1 (1 : Int32)
def f_X3_wovenIn (F : Nat → Int32) (G : Nat → Nat → Int32) (x1 : Int32) (x2 : Int32) : Option (Int32) :=
  if x1 < (1 : Int32) then
    some (-1 : Int32)
  else
    if (F 14) ≤ x1 then
      some (-1 : Int32)
    else
      if x2 < 0 then
        some (-1 : Int32)
      else
        if x2 < (F 18) then
          ql (G 7) 864 (((x1 * (6 : Int32)) + x2)) fun v1 =>
          some v1
        else
          some (-1 : Int32)
def f_X3_weaveThrough_7_B69 (rec11 : (Nat → Int32) → (Nat → Nat → Int32) → Int32 → Int32 → Option (Int32 × qS)) (x3 : Int32) (F : Nat → Int32) (G : Nat → Nat → Int32) (x4 : Int32) (x5 : Int32) : Option (Int32 × qS) :=
  qn (x5 + (-1 : Int32)) fun v1 =>
  rec11 F G x4 v1
def f_X3_weaveThrough_7_L11_b  (rec11 : (Nat → Int32) → (Nat → Nat → Int32) → Int32 → Int32 → Option (Int32 × qS)) (x3 : Int32) (F : Nat → Int32) (G : Nat → Nat → Int32) (x4 : Int32) (x5 : Int32) : Option (Int32 × qS) :=
  if x5 < 0 then
    some (x4, F, G)
  else
    if (F 18) ≤ x4 then
      some (x4, F, G)
    else
      ql (G 3) 144 x5 fun v2 =>
      ql (G 1) 144 x5 fun v3 =>
      ql (G 31) 6 v3 fun v4 =>
      if v4 ≤ v2 then
        f_X3_weaveThrough_7_B69 rec11 x3 F G x4 x5
      else
        ql (G 3) 144 x5 fun v5 =>
        qs G 3 144 x5 ((v5 + (1 : Int32))) fun G6 =>
        qs G6 7 864 ((x3 + x4)) x5 fun G7 =>
        qn (x4 + (1 : Int32)) fun v8 =>
        f_X3_weaveThrough_7_B69 rec11 x3 F G7 v8 x5
def f_X3_weaveThrough_7_L11  (x3 : Int32) : Nat → (Nat → Int32) → (Nat → Nat → Int32) → Int32 → Int32 → Option (Int32 × qS)
  | 0, _, _, _, _ => none
  | n + 1, F, G, x4, x5 => f_X3_weaveThrough_7_L11_b  (f_X3_weaveThrough_7_L11  x3 n) x3 F G x4 x5
def f_X3_weaveThrough_7 (F : Nat → Int32) (G : Nat → Nat → Int32) (x3 : Int32) : Option (Int32 × qS) :=
  qn (0 : Int32) fun v9 =>
  qn (((F 11) - (1 : Int32))) fun v10 =>
  f_X3_weaveThrough_7_L11 x3 1000 F G v9 v10
def f_X3_unweave_7_L3_b  (rec3 : (Nat → Int32) → (Nat → Nat → Int32) → Int32 → Option (qS)) (x2 : Int32) (x3 : Int32) (F : Nat → Int32) (G : Nat → Nat → Int32) (x4 : Int32) : Option (qS) :=
  if x3 ≤ x4 then
    some (F, G)
  else
    ql (G 7) 864 ((x2 + x4)) fun v1 =>
    ql (G 3) 144 v1 fun v2 =>
    qs G 3 144 v1 ((v2 - (1 : Int32))) fun G3 =>
    qn (x4 + (1 : Int32)) fun v4 =>
    rec3 F G3 v4
def f_X3_unweave_7_L3  (x2 : Int32) (x3 : Int32) : Nat → (Nat → Int32) → (Nat → Nat → Int32) → Int32 → Option (qS)
  | 0, _, _, _ => none
  | n + 1, F, G, x4 => f_X3_unweave_7_L3_b  (f_X3_unweave_7_L3  x2 x3 n) x2 x3 F G x4
def f_X3_unweave_7 (F : Nat → Int32) (G : Nat → Nat → Int32) (x2 : Int32) (x3 : Int32) : Option (qS) :=
  qn (0 : Int32) fun v5 =>
  f_X3_unweave_7_L3 x2 x3 1000 F G v5
def f_X3_weaveThrough_8_B69 (rec11 : (Nat → Int32) → (Nat → Nat → Int32) → Int32 → Int32 → Option (Int32 × qS)) (x3 : Int32) (F : Nat → Int32) (G : Nat → Nat → Int32) (x4 : Int32) (x5 : Int32) : Option (Int32 × qS) :=
  qn (x5 + (-1 : Int32)) fun v1 =>
  rec11 F G x4 v1
def f_X3_weaveThrough_8_L11_b  (rec11 : (Nat → Int32) → (Nat → Nat → Int32) → Int32 → Int32 → Option (Int32 × qS)) (x3 : Int32) (F : Nat → Int32) (G : Nat → Nat → Int32) (x4 : Int32) (x5 : Int32) : Option (Int32 × qS) :=
  if x5 < 0 then
    some (x4, F, G)
  else
    if (F 18) ≤ x4 then
      some (x4, F, G)
    else
      ql (G 3) 144 x5 fun v2 =>
      ql (G 1) 144 x5 fun v3 =>
      ql (G 31) 6 v3 fun v4 =>
      if v4 ≤ v2 then
        f_X3_weaveThrough_8_B69 rec11 x3 F G x4 x5
      else
        ql (G 3) 144 x5 fun v5 =>
        qs G 3 144 x5 ((v5 + (1 : Int32))) fun G6 =>
        qs G6 8 6 ((x3 + x4)) x5 fun G7 =>
        qn (x4 + (1 : Int32)) fun v8 =>
        f_X3_weaveThrough_8_B69 rec11 x3 F G7 v8 x5
def f_X3_weaveThrough_8_L11  (x3 : Int32) : Nat → (Nat → Int32) → (Nat → Nat → Int32) → Int32 → Int32 → Option (Int32 × qS)
  | 0, _, _, _, _ => none
  | n + 1, F, G, x4, x5 => f_X3_weaveThrough_8_L11_b  (f_X3_weaveThrough_8_L11  x3 n) x3 F G x4 x5
def f_X3_weaveThrough_8 (F : Nat → Int32) (G : Nat → Nat → Int32) (x3 : Int32) : Option (Int32 × qS) :=
  qn (0 : Int32) fun v9 =>
  qn (((F 11) - (1 : Int32))) fun v10 =>
  f_X3_weaveThrough_8_L11 x3 1000 F G v9 v10
def f_X3_unweave_8_L3_b  (rec3 : (Nat → Int32) → (Nat → Nat → Int32) → Int32 → Option (qS)) (x2 : Int32) (x3 : Int32) (F : Nat → Int32) (G : Nat → Nat → Int32) (x4 : Int32) : Option (qS) :=
  if x3 ≤ x4 then
    some (F, G)
  else
    ql (G 8) 6 ((x2 + x4)) fun v1 =>
    ql (G 3) 144 v1 fun v2 =>
    qs G 3 144 v1 ((v2 - (1 : Int32))) fun G3 =>
    qn (x4 + (1 : Int32)) fun v4 =>
    rec3 F G3 v4
def f_X3_unweave_8_L3  (x2 : Int32) (x3 : Int32) : Nat → (Nat → Int32) → (Nat → Nat → Int32) → Int32 → Option (qS)
  | 0, _, _, _ => none
  | n + 1, F, G, x4 => f_X3_unweave_8_L3_b  (f_X3_unweave_8_L3  x2 x3 n) x2 x3 F G x4
def f_X3_unweave_8 (F : Nat → Int32) (G : Nat → Nat → Int32) (x2 : Int32) (x3 : Int32) : Option (qS) :=
  qn (0 : Int32) fun v5 =>
  f_X3_unweave_8_L3 x2 x3 1000 F G v5
def f_X3_join_B29  (F : Nat → Int32) (G : Nat → Nat → Int32) (x2 : Int32) : Option (Int32 × qS) :=
  qc (f_X3_unweave_8 F G (0 : Int32) x2) fun (F2, G3) =>
  some ((0 : Int32), F2, G3)
def f_X3_join (F : Nat → Int32) (G : Nat → Nat → Int32)  : Option (Int32 × qS) :=
  qc (f_X3_weaveThrough_8 F G (0 : Int32)) fun (v5, F6, G7) =>
  if v5 < (F6 18) then
    f_X3_join_B29 F6 G7 v5
  else
    if (F6 14) < (144 : Int32) then
      qn (((F6 14) * (6 : Int32))) fun v9 =>
      qc (f_X3_weaveThrough_7 F6 G7 v9) fun (v10, F11, G12) =>
      if (F11 18) ≤ v10 then
        qf F11 17 (((F11 17) + (v5 + v10))) fun F14 =>
        qf F14 14 (((F14 14) + (1 : Int32))) fun F15 =>
        qf F15 16 ((F15 36)) fun F16 =>
        some ((1 : Int32), F16, G12)
      else
        qc (f_X3_unweave_7 F11 G12 v9 v10) fun (F18, G19) =>
        qc (f_X3_unweave_8 F18 G19 (0 : Int32) v5) fun (F22, G23) =>
        some ((0 : Int32), F22, G23)
    else
      f_X3_join_B29 F6 G7 v5
def f_X3_startAnew (F : Nat → Int32) (G : Nat → Nat → Int32)  : Option (qS) :=
  qfl G 6 144 (-1 : Int32) fun G1 =>
  qf F 10 (1 : Int32) fun F2 =>
  qf F2 11 (0 : Int32) fun F3 =>
  qf F3 12 (0 : Int32) fun F4 =>
  qf F4 13 (-1 : Int32) fun F5 =>
  qf F5 14 (0 : Int32) fun F6 =>
  qf F6 15 (0 : Int32) fun F7 =>
  qf F7 16 (0 : Int32) fun F8 =>
  qf F8 17 (0 : Int32) fun F9 =>
  qf F9 18 ((F9 37)) fun F10 =>
  some (F10, G1)
def f_X3_layOut (F : Nat → Int32) (G : Nat → Nat → Int32) (x2 : Int32) (x3 : Int32) (x4 : Int32) : Option (qS) :=
  qn ((F 11)) fun v1 =>
  qs G 0 144 v1 (((x2 * (12 : Int32)) + x3)) fun G2 =>
  qc (f_X0_colourAt F G2 x2 x3) fun v3 =>
  qs G2 1 144 v1 v3 fun G5 =>
  qs G5 3 144 v1 (0 : Int32) fun G6 =>
  qc (f_X0_lowerCatch F G6 x2 x3) fun v7 =>
  qc (f_X3_pickAt F G6 x4 v7) fun v9 =>
  qs G6 4 144 v1 v9 fun G11 =>
  qc (f_X0_upperCatch F G11 x2 x3) fun v12 =>
  qc (f_X3_pickAt F G11 x4 v12) fun v14 =>
  qs G11 5 144 v1 v14 fun G16 =>
  some (F, G16)
def f_X3_faultAhead_B52  (x2 : Int32) (x3 : Int32) (F : Nat → Int32) (G : Nat → Nat → Int32) : Option (Int32 × qS) :=
  qc (f_X2_fits F G) fun v1 =>
  if v1 = 0 then
    some ((2 : Int32), F, G)
  else
    some ((0 : Int32), F, G)
def f_X3_faultAhead_B17  (x2 : Int32) (x3 : Int32) (F : Nat → Int32) (G : Nat → Nat → Int32) : Option (Int32 × qS) :=
  if x2 ≤ (F 36) then
    if (F 14) ≤ 0 then
      f_X3_faultAhead_B52 x2 x3 F G
    else
      if x2 ≤ (F 16) then
        f_X3_faultAhead_B52 x2 x3 F G
      else
        qc (f_X3_join F G) fun (v3, F4, G5) =>
        if v3 = 0 then
          some ((4 : Int32), F4, G5)
        else
          f_X3_faultAhead_B52 x2 x3 F4 G5
  else
    some ((3 : Int32), F, G)
def f_X3_faultAhead (F : Nat → Int32) (G : Nat → Nat → Int32) (x2 : Int32) (x3 : Int32) : Option (Int32 × qS) :=
  if x3 = 0 then
    qc (f_X3_caughtCount F G ((F 11))) fun v7 =>
    if v7 = 0 then
      some ((1 : Int32), F, G)
    else
      f_X3_faultAhead_B17 x2 x3 F G
  else
    f_X3_faultAhead_B17 x2 x3 F G
def f_X3_pickUp_B20  (x2 : Int32) (F : Nat → Int32) (G : Nat → Nat → Int32) : Option (qS) :=
  qs G 2 144 ((F 11)) (((F 14) - (1 : Int32))) fun G1 =>
  ql (G1 0) 144 ((F 11)) fun v2 =>
  qs G1 6 144 v2 ((F 11)) fun G3 =>
  qc (f_X2_countInto F G3) fun (F5, G6) =>
  qf F5 17 (((F5 17) + (F5 21))) fun F8 =>
  qf F8 16 (((F8 16) - x2)) fun F9 =>
  qf F9 15 (((F9 15) + x2)) fun F10 =>
  qf F10 11 (((F10 11) + (1 : Int32))) fun F11 =>
  some (F11, G6)
def f_X3_pickUp (F : Nat → Int32) (G : Nat → Nat → Int32) (x2 : Int32) : Option (qS) :=
  if (F 14) = 0 then
    qf F 14 (1 : Int32) fun F12 =>
    qf F12 16 ((F12 36)) fun F13 =>
    f_X3_pickUp_B20 x2 F13 G
  else
    f_X3_pickUp_B20 x2 F G
def f_X3_doStep (F : Nat → Int32) (G : Nat → Nat → Int32) (x2 : Int32) : Option (qS) :=
  qc (f_X2_threadNeeded F G) fun v1 =>
  qc (f_X3_faultAhead F G v1 x2) fun (v3, F4, G5) =>
  qf F4 12 v3 fun F7 =>
  if (F7 12) = 0 then
    qc (f_X3_pickUp F7 G5 v1) fun (F11, G12) =>
    some (F11, G12)
  else
    ql (G5 0) 144 ((F7 11)) fun v8 =>
    qf F7 13 v8 fun F9 =>
    some (F9, G5)
def f_X3_gatherInFirstRow (F : Nat → Int32) (G : Nat → Nat → Int32) (x1 : Int32) (x2 : Int32) : Option (qS) :=
  qn ((F 11)) fun v1 =>
  qc (f_X2_empty F G) fun (F3, G4) =>
  qc (f_X2_pass F3 G4 v1) fun (F7, G8) =>
  qc (f_X2_pass F7 G8 ((v1 - (1 : Int32)))) fun (F11, G12) =>
  if x1 = 0 then
    some (F11, G12)
  else
    if v1 = x2 then
      if x2 < (2 : Int32) then
        some (F11, G12)
      else
        qc (f_X2_pass F11 G12 (0 : Int32)) fun (F15, G16) =>
        some (F15, G16)
    else
      some (F11, G12)
def f_X3_gatherInLaterRow (F : Nat → Int32) (G : Nat → Nat → Int32) (x1 : Int32) : Option (qS) :=
  qn ((F 11)) fun v1 =>
  qc (f_X2_empty F G) fun (F3, G4) =>
  qc (f_X2_pass F3 G4 x1) fun (F7, G8) =>
  qc (f_X2_pass F7 G8 v1) fun (F11, G12) =>
  ql (G12 4) 144 v1 fun v14 =>
  qc (f_X2_pass F11 G12 v14) fun (F16, G17) =>
  ql (G17 5) 144 v1 fun v19 =>
  qc (f_X2_pass F16 G17 v19) fun (F21, G22) =>
  some (F21, G22)
def f_X3_followRow_B179 (rec34 : (Nat → Int32) → (Nat → Nat → Int32) → Int32 → Int32 → Int32 → Int32 → Option (qS)) (x2 : Int32) (x3 : Int32) (x4 : Int32) (x5 : Int32) (F : Nat → Int32) (G : Nat → Nat → Int32) (x6 : Int32) (x7 : Int32) (x8 : Int32) (x9 : Int32) : Option (qS) :=
  qn (x9 + (1 : Int32)) fun v1 =>
  rec34 F G x6 x7 x8 v1
def f_X3_followRow_B172 (rec34 : (Nat → Int32) → (Nat → Nat → Int32) → Int32 → Int32 → Int32 → Int32 → Option (qS)) (x2 : Int32) (x3 : Int32) (x4 : Int32) (x5 : Int32) (F : Nat → Int32) (G : Nat → Nat → Int32) (x6 : Int32) (x7 : Int32) (x8 : Int32) (x9 : Int32) : Option (qS) :=
  qc (f_X3_doStep F G x8) fun (F3, G4) =>
  f_X3_followRow_B179 rec34 x2 x3 x4 x5 F3 G4 x6 x7 x8 x9
def f_X3_followRow_B169 (rec34 : (Nat → Int32) → (Nat → Nat → Int32) → Int32 → Int32 → Int32 → Int32 → Option (qS)) (x2 : Int32) (x3 : Int32) (x4 : Int32) (x5 : Int32) (F : Nat → Int32) (G : Nat → Nat → Int32) (x6 : Int32) (x7 : Int32) (x8 : Int32) (x9 : Int32) (s1 : Int32) : Option (qS) :=
  qc (f_X3_gatherInLaterRow F G s1) fun (F7, G8) =>
  f_X3_followRow_B172 rec34 x2 x3 x4 x5 F7 G8 x6 x7 x8 x9
def f_X3_followRow_B155 (rec34 : (Nat → Int32) → (Nat → Nat → Int32) → Int32 → Int32 → Int32 → Int32 → Option (qS)) (x2 : Int32) (x3 : Int32) (x4 : Int32) (x5 : Int32) (F : Nat → Int32) (G : Nat → Nat → Int32) (x6 : Int32) (x7 : Int32) (x8 : Int32) (x9 : Int32) (x11 : Int32) (s0 : Int32) : Option (qS) :=
  if x11 = 0 then
    f_X3_followRow_B169 rec34 x2 x3 x4 x5 F G x6 x7 x8 x9 (-1 : Int32)
  else
    f_X3_followRow_B169 rec34 x2 x3 x4 x5 F G x6 x7 x8 x9 s0
def f_X3_followRow_B135 (rec34 : (Nat → Int32) → (Nat → Nat → Int32) → Int32 → Int32 → Int32 → Int32 → Option (qS)) (x2 : Int32) (x3 : Int32) (x4 : Int32) (x5 : Int32) (F : Nat → Int32) (G : Nat → Nat → Int32) (x6 : Int32) (x7 : Int32) (x8 : Int32) (x9 : Int32) (s0 : Int32) : Option (qS) :=
  if (F 35) = 0 then
    f_X3_followRow_B155 rec34 x2 x3 x4 x5 F G x6 x7 x8 x9 s0 (((F 11) - (1 : Int32)))
  else
    f_X3_followRow_B155 rec34 x2 x3 x4 x5 F G x6 x7 x8 x9 s0 x5
def f_X3_followRow_B113 (rec34 : (Nat → Int32) → (Nat → Nat → Int32) → Int32 → Int32 → Int32 → Int32 → Option (qS)) (x2 : Int32) (x3 : Int32) (x4 : Int32) (x5 : Int32) (F : Nat → Int32) (G : Nat → Nat → Int32) (x6 : Int32) (x7 : Int32) (x8 : Int32) (x9 : Int32) (s1 : Int32) : Option (qS) :=
  qc (f_X3_gatherInFirstRow F G s1 x7) fun (F11, G12) =>
  f_X3_followRow_B172 rec34 x2 x3 x4 x5 F11 G12 x6 x7 x8 x9
def f_X3_followRow_B73 (rec34 : (Nat → Int32) → (Nat → Nat → Int32) → Int32 → Int32 → Int32 → Int32 → Option (qS)) (x2 : Int32) (x3 : Int32) (x4 : Int32) (x5 : Int32) (F : Nat → Int32) (G : Nat → Nat → Int32) (x6 : Int32) (x7 : Int32) (x8 : Int32) (x9 : Int32) (s0 : Int32) : Option (qS) :=
  qc (f_X0_colourAt F G x2 s0) fun v14 =>
  if v14 = (-1 : Int32) then
    f_X3_followRow_B179 rec34 x2 x3 x4 x5 F G x6 x7 x8 x9
  else
    qc (f_X3_layOut F G x2 s0 x3) fun (F17, G18) =>
    if x8 = 0 then
      if (F17 11) = x6 then
        f_X3_followRow_B135 rec34 x2 x3 x4 x5 F17 G18 x6 x7 x8 x9 (1 : Int32)
      else
        f_X3_followRow_B135 rec34 x2 x3 x4 x5 F17 G18 x6 x7 x8 x9 (0 : Int32)
    else
      if (F17 35) = 0 then
        f_X3_followRow_B113 rec34 x2 x3 x4 x5 F17 G18 x6 x7 x8 x9 (0 : Int32)
      else
        f_X3_followRow_B113 rec34 x2 x3 x4 x5 F17 G18 x6 x7 x8 x9 (1 : Int32)
def f_X3_followRow_L34_b  (rec34 : (Nat → Int32) → (Nat → Nat → Int32) → Int32 → Int32 → Int32 → Int32 → Option (qS)) (x2 : Int32) (x3 : Int32) (x4 : Int32) (x5 : Int32) (F : Nat → Int32) (G : Nat → Nat → Int32) (x6 : Int32) (x7 : Int32) (x8 : Int32) (x9 : Int32) : Option (qS) :=
  if (12 : Int32) ≤ x9 then
    some (F, G)
  else
    if (F 12) = 0 then
      if (144 : Int32) ≤ (F 11) then
        some (F, G)
      else
        if x4 = 0 then
          f_X3_followRow_B73 rec34 x2 x3 x4 x5 F G x6 x7 x8 x9 (((11 : Int32) - x9))
        else
          f_X3_followRow_B73 rec34 x2 x3 x4 x5 F G x6 x7 x8 x9 x9
    else
      some (F, G)
def f_X3_followRow_L34  (x2 : Int32) (x3 : Int32) (x4 : Int32) (x5 : Int32) : Nat → (Nat → Int32) → (Nat → Nat → Int32) → Int32 → Int32 → Int32 → Int32 → Option (qS)
  | 0, _, _, _, _, _, _ => none
  | n + 1, F, G, x6, x7, x8, x9 => f_X3_followRow_L34_b  (f_X3_followRow_L34  x2 x3 x4 x5 n) x2 x3 x4 x5 F G x6 x7 x8 x9
def f_X3_followRow_B29  (x2 : Int32) (x3 : Int32) (x4 : Int32) (x5 : Int32) (F : Nat → Int32) (G : Nat → Nat → Int32) (x6 : Int32) (x7 : Int32) (s0 : Int32) : Option (qS) :=
  qn (0 : Int32) fun v20 =>
  f_X3_followRow_L34 x2 x3 x4 x5 1000 F G x6 x7 s0 v20
def f_X3_followRow (F : Nat → Int32) (G : Nat → Nat → Int32) (x2 : Int32) (x3 : Int32) (x4 : Int32) (x5 : Int32) : Option (qS) :=
  qn ((F 11)) fun v21 =>
  qc (f_X0_beadsInRow F G x2) fun v22 =>
  qn (((v21 + v22) - (1 : Int32))) fun v24 =>
  if x5 = (-1 : Int32) then
    f_X3_followRow_B29 x2 x3 x4 x5 F G v21 v24 (1 : Int32)
  else
    f_X3_followRow_B29 x2 x3 x4 x5 F G v21 v24 (0 : Int32)
def f_X3_follow_B134 (rec35 : (Nat → Int32) → (Nat → Nat → Int32) → Int32 → Int32 → Int32 → Int32 → Option (qS)) (x2 : Int32) (F : Nat → Int32) (G : Nat → Nat → Int32) (x3 : Int32) (x4 : Int32) (x5 : Int32) (x6 : Int32) : Option (qS) :=
  qn (x6 + (1 : Int32)) fun v1 =>
  rec35 F G x3 x4 x5 v1
def f_X3_follow_B132 (rec35 : (Nat → Int32) → (Nat → Nat → Int32) → Int32 → Int32 → Int32 → Int32 → Option (qS)) (x2 : Int32) (F : Nat → Int32) (G : Nat → Nat → Int32) (x3 : Int32) (x5 : Int32) (x6 : Int32) (s0 : Int32) : Option (qS) :=
  f_X3_follow_B134 rec35 x2 F G x3 s0 x5 x6
def f_X3_follow_B99 (rec35 : (Nat → Int32) → (Nat → Nat → Int32) → Int32 → Int32 → Int32 → Int32 → Option (qS)) (x2 : Int32) (F : Nat → Int32) (G : Nat → Nat → Int32) (x3 : Int32) (x4 : Int32) (x5 : Int32) (x6 : Int32) (x8 : Int32) (s2 : Int32) (s3 : Int32) : Option (qS) :=
  qc (f_X3_followRow F G s2 s3 x4 x5) fun (F3, G4) =>
  if (F3 35) = 0 then
    if x4 = 0 then
      f_X3_follow_B132 rec35 x2 F3 G4 x3 x8 x6 (1 : Int32)
    else
      f_X3_follow_B132 rec35 x2 F3 G4 x3 x8 x6 (0 : Int32)
  else
    f_X3_follow_B132 rec35 x2 F3 G4 x3 x8 x6 x4
def f_X3_follow_B63 (rec35 : (Nat → Int32) → (Nat → Nat → Int32) → Int32 → Int32 → Int32 → Int32 → Option (qS)) (x2 : Int32) (F : Nat → Int32) (G : Nat → Nat → Int32) (x3 : Int32) (x4 : Int32) (x5 : Int32) (x6 : Int32) (s0 : Int32) : Option (qS) :=
  qc (f_X0_beadsInRow F G s0) fun v6 =>
  if v6 ≤ 0 then
    f_X3_follow_B134 rec35 x2 F G x3 x4 x5 x6
  else
    qn ((F 11)) fun v8 =>
    if x3 = 0 then
      f_X3_follow_B99 rec35 x2 F G x3 x4 x5 x6 v8 s0 ((s0 + (1 : Int32)))
    else
      f_X3_follow_B99 rec35 x2 F G x3 x4 x5 x6 v8 s0 ((s0 - (1 : Int32)))
def f_X3_follow_L35_b  (rec35 : (Nat → Int32) → (Nat → Nat → Int32) → Int32 → Int32 → Int32 → Int32 → Option (qS)) (x2 : Int32) (F : Nat → Int32) (G : Nat → Nat → Int32) (x3 : Int32) (x4 : Int32) (x5 : Int32) (x6 : Int32) : Option (qS) :=
  if (12 : Int32) ≤ x6 then
    some (F, G)
  else
    if (F 12) = 0 then
      if x3 = 0 then
        f_X3_follow_B63 rec35 x2 F G x3 x4 x5 x6 (((11 : Int32) - x6))
      else
        f_X3_follow_B63 rec35 x2 F G x3 x4 x5 x6 x6
    else
      some (F, G)
def f_X3_follow_L35  (x2 : Int32) : Nat → (Nat → Int32) → (Nat → Nat → Int32) → Int32 → Int32 → Int32 → Int32 → Option (qS)
  | 0, _, _, _, _, _, _ => none
  | n + 1, F, G, x3, x4, x5, x6 => f_X3_follow_L35_b  (f_X3_follow_L35  x2 n) x2 F G x3 x4 x5 x6
def f_X3_follow_B27  (x2 : Int32) (F : Nat → Int32) (G : Nat → Nat → Int32) (x3 : Int32) (s0 : Int32) : Option (qS) :=
  qn (-1 : Int32) fun v9 =>
  qn (0 : Int32) fun v10 =>
  f_X3_follow_L35 x2 1000 F G x3 s0 v9 v10
def f_X3_follow_B15  (x2 : Int32) (F : Nat → Int32) (G : Nat → Nat → Int32) (s0 : Int32) : Option (qS) :=
  if (x2 - x2 / (2 : Int32) * (2 : Int32)) = 0 then
    f_X3_follow_B27 x2 F G s0 (1 : Int32)
  else
    f_X3_follow_B27 x2 F G s0 (0 : Int32)
def f_X3_follow (F : Nat → Int32) (G : Nat → Nat → Int32) (x2 : Int32) : Option (qS) :=
  qc (f_X3_startAnew F G) fun (F12, G13) =>
  if (2 : Int32) ≤ x2 then
    f_X3_follow_B15 x2 F12 G13 (0 : Int32)
  else
    f_X3_follow_B15 x2 F12 G13 (1 : Int32)
def f_X1_isMarked (F : Nat → Int32) (G : Nat → Nat → Int32) (x1 : Int32) : Option (Int32) :=
  if x1 = (-1 : Int32) then
    some (0 : Int32)
  else
    ql (G 40) 144 x1 fun v1 =>
    if v1 = (1 : Int32) then
      some (1 : Int32)
    else
      some (0 : Int32)
def f_X1_markOnly (F : Nat → Int32) (G : Nat → Nat → Int32) (x1 : Int32) : Option (qS) :=
  qfl G 40 144 (0 : Int32) fun G1 =>
  qs G1 40 144 x1 (1 : Int32) fun G2 =>
  some (F, G2)
def f_X1_isCaughtOnMarked_B26  (F : Nat → Int32) (G : Nat → Nat → Int32) (x2 : Int32)  : Option (Int32) :=
  some (1 : Int32)
def f_X1_isCaughtOnMarked (F : Nat → Int32) (G : Nat → Nat → Int32) (x2 : Int32) : Option (Int32) :=
  ql (G 4) 144 x2 fun v1 =>
  qc (f_X1_isMarked F G v1) fun v2 =>
  if v2 = 0 then
    ql (G 5) 144 x2 fun v4 =>
    qc (f_X1_isMarked F G v4) fun v5 =>
    if v5 = 0 then
      some (0 : Int32)
    else
      f_X1_isCaughtOnMarked_B26 F G x2
  else
    f_X1_isCaughtOnMarked_B26 F G x2
def f_X1_isBehindMarked (F : Nat → Int32) (G : Nat → Nat → Int32) (x2 : Int32) : Option (Int32) :=
  ql (G 2) 144 ((x2 - (1 : Int32))) fun v1 =>
  ql (G 2) 144 x2 fun v2 =>
  if v1 = v2 then
    qc (f_X1_isMarked F G ((x2 - (1 : Int32)))) fun v3 =>
    if v3 = 0 then
      some (0 : Int32)
    else
      some (1 : Int32)
  else
    some (0 : Int32)
def f_X1_isWovenInMarked_L2_b  (rec2 : Int32 → Option (Int32)) (F : Nat → Int32) (G : Nat → Nat → Int32) (x2 : Int32) (x3 : Int32) : Option (Int32) :=
  if (F 18) ≤ x3 then
    some (0 : Int32)
  else
    ql (G 2) 144 x2 fun v1 =>
    qc (f_X3_wovenIn F G v1 x3) fun v2 =>
    qc (f_X1_isMarked F G v2) fun v4 =>
    if v4 = 0 then
      qn (x3 + (1 : Int32)) fun v6 =>
      rec2 v6
    else
      some (1 : Int32)
def f_X1_isWovenInMarked_L2  (F : Nat → Int32) (G : Nat → Nat → Int32) (x2 : Int32) : Nat → Int32 → Option (Int32)
  | 0, _ => none
  | n + 1, x3 => f_X1_isWovenInMarked_L2_b  (f_X1_isWovenInMarked_L2  F G x2 n) F G x2 x3
def f_X1_isWovenInMarked (F : Nat → Int32) (G : Nat → Nat → Int32) (x2 : Int32) : Option (Int32) :=
  qn (0 : Int32) fun v7 =>
  f_X1_isWovenInMarked_L2 F G x2 1000 v7
def f_X1_markHanging_B42 (rec12 : (Nat → Int32) → (Nat → Nat → Int32) → Int32 → Int32 → Option (Int32 × qS)) (x2 : Int32) (F : Nat → Int32) (G : Nat → Nat → Int32) (x3 : Int32) (x4 : Int32) : Option (Int32 × qS) :=
  qn (x4 + (1 : Int32)) fun v1 =>
  rec12 F G x3 v1
def f_X1_markHanging_L12_b  (rec12 : (Nat → Int32) → (Nat → Nat → Int32) → Int32 → Int32 → Option (Int32 × qS)) (x2 : Int32) (F : Nat → Int32) (G : Nat → Nat → Int32) (x3 : Int32) (x4 : Int32) : Option (Int32 × qS) :=
  if (F 11) ≤ x4 then
    some (x3, F, G)
  else
    qc (f_X1_isCaughtOnMarked F G x4) fun v2 =>
    if v2 = 0 then
      f_X1_markHanging_B42 rec12 x2 F G x3 x4
    else
      qs G 40 144 x4 (1 : Int32) fun G4 =>
      qn (x3 + (1 : Int32)) fun v5 =>
      f_X1_markHanging_B42 rec12 x2 F G4 v5 x4
def f_X1_markHanging_L12  (x2 : Int32) : Nat → (Nat → Int32) → (Nat → Nat → Int32) → Int32 → Int32 → Option (Int32 × qS)
  | 0, _, _, _, _ => none
  | n + 1, F, G, x3, x4 => f_X1_markHanging_L12_b  (f_X1_markHanging_L12  x2 n) x2 F G x3 x4
def f_X1_markHanging (F : Nat → Int32) (G : Nat → Nat → Int32) (x2 : Int32) : Option (Int32 × qS) :=
  qn (0 : Int32) fun v6 =>
  qc (f_X1_markOnly F G x2) fun (F8, G9) =>
  qn ((x2 + (1 : Int32))) fun v11 =>
  f_X1_markHanging_L12 x2 1000 F8 G9 v6 v11
def f_X1_markPulledOut_B62 (rec12 : (Nat → Int32) → (Nat → Nat → Int32) → Int32 → Int32 → Option (Int32 × qS)) (x2 : Int32) (F : Nat → Int32) (G : Nat → Nat → Int32) (x3 : Int32) (x4 : Int32) : Option (Int32 × qS) :=
  qn (x4 + (1 : Int32)) fun v1 =>
  rec12 F G x3 v1
def f_X1_markPulledOut_B51 (rec12 : (Nat → Int32) → (Nat → Nat → Int32) → Int32 → Int32 → Option (Int32 × qS)) (x2 : Int32) (F : Nat → Int32) (G : Nat → Nat → Int32) (x3 : Int32) (x4 : Int32) : Option (Int32 × qS) :=
  qs G 40 144 x4 (1 : Int32) fun G2 =>
  qn (x3 + (1 : Int32)) fun v3 =>
  f_X1_markPulledOut_B62 rec12 x2 F G2 v3 x4
def f_X1_markPulledOut_L12_b  (rec12 : (Nat → Int32) → (Nat → Nat → Int32) → Int32 → Int32 → Option (Int32 × qS)) (x2 : Int32) (F : Nat → Int32) (G : Nat → Nat → Int32) (x3 : Int32) (x4 : Int32) : Option (Int32 × qS) :=
  if (F 11) ≤ x4 then
    some (x3, F, G)
  else
    qc (f_X1_isBehindMarked F G x4) fun v4 =>
    if v4 = 0 then
      qc (f_X1_isCaughtOnMarked F G x4) fun v6 =>
      if v6 = 0 then
        qc (f_X1_isWovenInMarked F G x4) fun v8 =>
        if v8 = 0 then
          f_X1_markPulledOut_B62 rec12 x2 F G x3 x4
        else
          f_X1_markPulledOut_B51 rec12 x2 F G x3 x4
      else
        f_X1_markPulledOut_B51 rec12 x2 F G x3 x4
    else
      f_X1_markPulledOut_B51 rec12 x2 F G x3 x4
def f_X1_markPulledOut_L12  (x2 : Int32) : Nat → (Nat → Int32) → (Nat → Nat → Int32) → Int32 → Int32 → Option (Int32 × qS)
  | 0, _, _, _, _ => none
  | n + 1, F, G, x3, x4 => f_X1_markPulledOut_L12_b  (f_X1_markPulledOut_L12  x2 n) x2 F G x3 x4
def f_X1_markPulledOut (F : Nat → Int32) (G : Nat → Nat → Int32) (x2 : Int32) : Option (Int32 × qS) :=
  qn (1 : Int32) fun v10 =>
  qc (f_X1_markOnly F G x2) fun (F12, G13) =>
  qn ((x2 + (1 : Int32))) fun v15 =>
  f_X1_markPulledOut_L12 x2 1000 F12 G13 v10 v15
def f_X3_isCheaperThan_B33  (F : Nat → Int32) (G : Nat → Nat → Int32)  : Option (Int32) :=
  some (1 : Int32)
def f_X3_isCheaperThan (F : Nat → Int32) (G : Nat → Nat → Int32)  : Option (Int32) :=
  if (F 64) < (F 14) then
    f_X3_isCheaperThan_B33 F G
  else
    if (F 64) = (F 14) then
      if (F 15) ≤ (F 65) then
        some (0 : Int32)
      else
        f_X3_isCheaperThan_B33 F G
    else
      some (0 : Int32)
def f_X4_cell (F : Nat → Int32) (G : Nat → Nat → Int32) (x1 : Int32) (x2 : Int32) : Option (Int32) :=
  qc (f_X0_colourAt F G x1 x2) fun v1 =>
  some v1
def f_X4_worked (F : Nat → Int32) (G : Nat → Nat → Int32) (x1 : Int32) : Option (Int32) :=
  if (F 10) = 0 then
    some (-1 : Int32)
  else
    if x1 = (0 : Int32) then
      some ((F 12))
    else
    if x1 = (1 : Int32) then
      qc (f_X4_rowOf ((F 13))) fun v1 =>
      some v1
    else
    if x1 = (2 : Int32) then
      qc (f_X4_columnOf ((F 13))) fun v3 =>
      some v3
    else
    if x1 = (3 : Int32) then
      some ((F 14))
    else
    if x1 = (4 : Int32) then
      some ((F 15))
    else
    if x1 = (5 : Int32) then
      some ((F 16))
    else
    if x1 = (6 : Int32) then
      some ((F 17))
    else
    some (-1 : Int32)
def f_X4_picked (F : Nat → Int32) (G : Nat → Nat → Int32) (x1 : Int32) (x2 : Int32) : Option (Int32) :=
  qc (f_X3_has F G x1) fun v1 =>
  if v1 = 0 then
    some (-1 : Int32)
  else
    if x2 = (0 : Int32) then
      ql (G 0) 144 x1 fun v3 =>
      qc (f_X4_rowOf v3) fun v4 =>
      some v4
    else
    if x2 = (1 : Int32) then
      ql (G 0) 144 x1 fun v6 =>
      qc (f_X4_columnOf v6) fun v7 =>
      some v7
    else
    if x2 = (2 : Int32) then
      ql (G 2) 144 x1 fun v9 =>
      some v9
    else
    if x2 = (3 : Int32) then
      ql (G 3) 144 x1 fun v10 =>
      some v10
    else
    if x2 = (4 : Int32) then
      qc (f_X3_caughtCount F G x1) fun v11 =>
      some v11
    else
    if x2 = (5 : Int32) then
      ql (G 1) 144 x1 fun v13 =>
      some v13
    else
    some (-1 : Int32)
def f_X4_order (F : Nat → Int32) (G : Nat → Nat → Int32) (x1 : Int32) (x2 : Int32) : Option (Int32) :=
  qc (f_X3_pickAt F G x1 x2) fun v1 =>
  some v1
def f_X4_woven (F : Nat → Int32) (G : Nat → Nat → Int32) (x1 : Int32) (x2 : Int32) : Option (Int32) :=
  qc (f_X3_wovenIn F G x1 x2) fun v1 =>
  some v1
def f_X4_bought (F : Nat → Int32) (G : Nat → Nat → Int32) (x1 : Int32) (x2 : Int32) : Option (Int32) :=
  qc (f_X4_isColour x1) fun v1 =>
  if v1 = 0 then
    some (-1 : Int32)
  else
    qc (f_X4_isWithin x2 (1 : Int32) (1000 : Int32)) fun v3 =>
    if v3 = 0 then
      some (-1 : Int32)
    else
      qc (f_X0_beadsOfColour F G x1) fun v5 =>
      ql (G 33) 6 x1 fun v7 =>
      qn ((v5 * v7)) fun v8 =>
      qn ((x2 * (1000 : Int32))) fun v9 =>
      qd (v9) <|
      some ((((v8 + v9) - (1 : Int32)) / v9))
def f_X4_count (F : Nat → Int32) (G : Nat → Nat → Int32) (x1 : Int32) : Option (Int32) :=
  qc (f_X4_isColour ((x1 - (10 : Int32)))) fun v1 =>
  if v1 = 0 then
    qc (f_X4_isColour ((x1 - (20 : Int32)))) fun v3 =>
    if v3 = 0 then
      if x1 = (0 : Int32) then
        qc (f_X0_allBeads F G) fun v5 =>
        some v5
      else
      if x1 = (1 : Int32) then
        qc (f_X0_rowsWithBeads F G) fun v7 =>
        some v7
      else
      if x1 = (2 : Int32) then
        some ((F 34))
      else
      if x1 = (3 : Int32) then
        some ((F 35))
      else
      if x1 = (4 : Int32) then
        some ((F 36))
      else
      if x1 = (5 : Int32) then
        some ((F 37))
      else
      if x1 = (6 : Int32) then
        some ((F 11))
      else
      some (-1 : Int32)
    else
      ql (G 31) 6 ((x1 - (20 : Int32))) fun v9 =>
      some v9
  else
    qc (f_X0_beadsOfColour F G ((x1 - (10 : Int32)))) fun v10 =>
    some v10
def f_X4_beads (F : Nat → Int32) (G : Nat → Nat → Int32) (x1 : Int32) (x2 : Int32) (x3 : Int32) (x4 : Int64) : Option (Int32 × qS) :=
  qc (f_X0_holdsRun F G x1 x2 x3) fun v1 =>
  if v1 = 0 then
    some ((0 : Int32), F, G)
  else
    qc (f_X0_putRun F G x1 x2 x3 x4) fun (F4, G5) =>
    qx k_ch F G F4 G5 fun F7 G8 =>
    some ((1 : Int32), F7, G8)
def f_X4_stitch_B11  (x1 : Int32) (F : Nat → Int32) (G : Nat → Nat → Int32) : Option (Int32 × qS) :=
  qn ((F 34)) fun v1 =>
  qf F 34 x1 fun F2 =>
  some (v1, F2, G)
def f_X4_stitch (F : Nat → Int32) (G : Nat → Nat → Int32) (x1 : Int32) : Option (Int32 × qS) :=
  if x1 = 0 then
    f_X4_stitch_B11 x1 F G
  else
    if x1 = (1 : Int32) then
      f_X4_stitch_B11 x1 F G
    else
      some ((-1 : Int32), F, G)
def f_X4_ring_B27  (x1 : Int32) (F : Nat → Int32) (G : Nat → Nat → Int32) : Option (Int32 × qS) :=
  qf F 35 x1 fun F1 =>
  some ((1 : Int32), F1, G)
def f_X4_ring (F : Nat → Int32) (G : Nat → Nat → Int32) (x1 : Int32) : Option (Int32 × qS) :=
  if x1 = 0 then
    f_X4_ring_B27 x1 F G
  else
    qc (f_X4_isWithin x1 (3 : Int32) (12 : Int32)) fun v2 =>
    if v2 = 0 then
      some ((0 : Int32), F, G)
    else
      qc (f_X0_hasBeadsFrom F G x1) fun v4 =>
      if v4 = 0 then
        f_X4_ring_B27 x1 F G
      else
        some ((0 : Int32), F, G)
def f_X4_colour (F : Nat → Int32) (G : Nat → Nat → Int32) (x1 : Int32) (x2 : Int32) (x3 : Int32) (x4 : Int32) : Option (Int32 × qS) :=
  qc (f_X4_isColour x1) fun v1 =>
  if v1 = 0 then
    some ((0 : Int32), F, G)
  else
    qc (f_X4_isWithin x2 (1 : Int32) (9 : Int32)) fun v3 =>
    if v3 = 0 then
      some ((0 : Int32), F, G)
    else
      qc (f_X4_isWithin x3 (1 : Int32) (20 : Int32)) fun v5 =>
      if v5 = 0 then
        some ((0 : Int32), F, G)
      else
        qc (f_X4_isWithin x4 (1 : Int32) (100 : Int32)) fun v7 =>
        if v7 = 0 then
          some ((0 : Int32), F, G)
        else
          qs G 31 6 x1 x2 fun G9 =>
          qs G9 32 6 x1 x3 fun G10 =>
          qs G10 33 6 x1 x4 fun G11 =>
          some ((1 : Int32), F, G11)
def f_X4_thread (F : Nat → Int32) (G : Nat → Nat → Int32) (x1 : Int32) (x2 : Int32) : Option (Int32 × qS) :=
  qc (f_X4_isWithin x1 (1 : Int32) (9999 : Int32)) fun v1 =>
  if v1 = 0 then
    some ((0 : Int32), F, G)
  else
    qc (f_X4_isWithin x2 (0 : Int32) (6 : Int32)) fun v3 =>
    if v3 = 0 then
      some ((0 : Int32), F, G)
    else
      qf F 36 x1 fun F5 =>
      qf F5 37 x2 fun F6 =>
      some ((1 : Int32), F6, G)
def f_X4_work (F : Nat → Int32) (G : Nat → Nat → Int32) (x1 : Int32) : Option (Int32 × qS) :=
  qc (f_X4_isWithin x1 (0 : Int32) (3 : Int32)) fun v1 =>
  if v1 = 0 then
    some ((-1 : Int32), F, G)
  else
    qc (f_X3_follow F G x1) fun (F4, G5) =>
    qx k_kw F G F4 G5 fun F7 G8 =>
    some ((F7 11), F7, G8)
def f_X4_hang (F : Nat → Int32) (G : Nat → Nat → Int32) (x1 : Int32) : Option (Int32 × qS) :=
  qc (f_X3_has F G x1) fun v1 =>
  if v1 = 0 then
    some ((-1 : Int32), F, G)
  else
    qc (f_X1_markHanging F G x1) fun (v3, F4, G5) =>
    qx k_mw F G F4 G5 fun F7 G8 =>
    some (v3, F7, G8)
def f_X4_pull (F : Nat → Int32) (G : Nat → Nat → Int32) (x1 : Int32) : Option (Int32 × qS) :=
  qc (f_X3_has F G x1) fun v1 =>
  if v1 = 0 then
    some ((-1 : Int32), F, G)
  else
    qc (f_X1_markPulledOut F G x1) fun (v3, F4, G5) =>
    qx k_mw F G F4 G5 fun F7 G8 =>
    some (v3, F7, G8)
def f_X4_pulled (F : Nat → Int32) (G : Nat → Nat → Int32) (x1 : Int32) (x2 : Int32) : Option (Int32 × qS) :=
  qc (f_X3_has F G x1) fun v1 =>
  if v1 = 0 then
    some ((-1 : Int32), F, G)
  else
    qc (f_X3_has F G x2) fun v3 =>
    if v3 = 0 then
      some ((-1 : Int32), F, G)
    else
      qc (f_X1_markPulledOut F G x1) fun (v5, F6, G7) =>
      qx k_mw F G F6 G7 fun F9 G10 =>
      ql (G10 40) 144 x2 fun v11 =>
      some (v11, F9, G10)
