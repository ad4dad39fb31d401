def f_X5_in (x0 : Int32) (x1 : Int32) (x2 : Int32) : Option (Int32) :=
  if x0 < x1 then
    some (0 : Int32)
  else
    if x2 < x0 then
      some (0 : Int32)
    else
      some (1 : Int32)
def f_X5_isColour (x0 : Int32) : Option (Int32) :=
  qc (f_X5_in x0 (0 : Int32) (5 : Int32)) fun v1 =>
  qb v1
def f_X5_columns (F : Nat → Int32) (G : Nat → Nat → Int32)  : Option (Int32) :=
  if (F 2) = 0 then
    some (12 : Int32)
  else
    some ((F 2))
def f_X5_cell (F : Nat → Int32) (G : Nat → Nat → Int32) (x1 : Int32) (x2 : Int32) : Option (Int32) :=
  qc (f_X5_in x1 (0 : Int32) (11 : Int32)) fun v1 =>
  if v1 = 0 then
    some (-1 : Int32)
  else
    qc (f_X5_in x2 (0 : Int32) (11 : Int32)) fun v3 =>
    if v3 = 0 then
      some (-1 : Int32)
    else
      ql (G 0) 144 ((((12 : Int32) * x1) + x2)) fun v5 =>
      some v5
def f_X5_columnOf (F : Nat → Int32) (G : Nat → Nat → Int32) (x1 : Int32) : Option (Int32) :=
  if (F 2) = 0 then
    some x1
  else
    qd ((F 2)) <|
    qd ((F 2)) <|
    some ((((x1 - x1 / (F 2) * (F 2)) + (F 2)) - ((x1 - x1 / (F 2) * (F 2)) + (F 2)) / (F 2) * (F 2)))
def f_X5_pickedAt (F : Nat → Int32) (G : Nat → Nat → Int32) (x1 : Int32) (x2 : Int32) : Option (Int32) :=
  qc (f_X5_columnOf F G x2) fun v1 =>
  qc (f_X5_in x1 (0 : Int32) (11 : Int32)) fun v3 =>
  if v3 = 0 then
    some (-1 : Int32)
  else
    qc (f_X5_in v1 (0 : Int32) (11 : Int32)) fun v5 =>
    if v5 = 0 then
      some (-1 : Int32)
    else
      ql (G 15) 144 ((((12 : Int32) * x1) + v1)) fun v7 =>
      some v7
def f_X5_colourAt (F : Nat → Int32) (G : Nat → Nat → Int32) (x1 : Int32) (x2 : Int32) : Option (Int32) :=
  if x1 = (F 8) then
    ql (G 0) 144 x2 fun v2 =>
    some v2
  else
    ql (G 14) 144 x1 fun v1 =>
    some v1
def f_X5_needs_L4_b  (rec4 : Int32 → Int32 → Option (Int32)) (F : Nat → Int32) (G : Nat → Nat → Int32) (x1 : Int32) (x2 : Int32) (x3 : Int32) : Option (Int32) :=
  if (F 27) ≤ x3 then
    some x2
  else
    ql (G 28) 8 x3 fun v1 =>
    qc (f_X5_colourAt F G v1 x1) fun v2 =>
    ql (G 4) 6 v2 fun v4 =>
    qn ((x2 + v4)) fun v5 =>
    qn (x3 + (1 : Int32)) fun v6 =>
    rec4 v5 v6
def f_X5_needs_L4  (F : Nat → Int32) (G : Nat → Nat → Int32) (x1 : Int32) : Nat → Int32 → Int32 → Option (Int32)
  | 0, _, _ => none
  | n + 1, x2, x3 => f_X5_needs_L4_b  (f_X5_needs_L4  F G x1 n) F G x1 x2 x3
def f_X5_needs (F : Nat → Int32) (G : Nat → Nat → Int32) (x1 : Int32) : Option (Int32) :=
  qn (0 : Int32) fun v7 =>
  qn (0 : Int32) fun v8 =>
  f_X5_needs_L4 F G x1 1000 v7 v8
def f_X5_hasRoom_B64 (rec2 : Int32 → Option (Int32)) (rec40 : Int32 → Int32 → Int32 → Int32 → Option (Int32)) (F : Nat → Int32) (G : Nat → Nat → Int32) (x1 : Int32) (x2 : Int32) (x3 : Int32) (x5 : Int32) (s0 : Int32) (s1 : Int32) : Option (Int32) :=
  qn ((s0 + s1)) fun v1 =>
  qn (x5 + (1 : Int32)) fun v2 =>
  rec40 x2 x3 v1 v2
def f_X5_hasRoom_L40_b (rec2 : Int32 → Option (Int32)) (rec40 : Int32 → Int32 → Int32 → Int32 → Option (Int32)) (F : Nat → Int32) (G : Nat → Nat → Int32) (x1 : Int32) (x2 : Int32) (x3 : Int32) (x4 : Int32) (x5 : Int32) : Option (Int32) :=
  if x2 < x5 then
    qc (f_X5_colourAt F G x3 x1) fun v3 =>
    ql (G 3) 6 v3 fun v5 =>
    if x4 ≤ v5 then
      qn (x2 + (1 : Int32)) fun v6 =>
      rec2 v6
    else
      some (0 : Int32)
  else
    ql (G 28) 8 x5 fun v7 =>
    if v7 = x3 then
      f_X5_hasRoom_B64 rec2 rec40 F G x1 x2 x3 x5 x4 (1 : Int32)
    else
      f_X5_hasRoom_B64 rec2 rec40 F G x1 x2 x3 x5 x4 (0 : Int32)
def f_X5_hasRoom_L40 (rec2 : Int32 → Option (Int32)) (F : Nat → Int32) (G : Nat → Nat → Int32) (x1 : Int32) : Nat → Int32 → Int32 → Int32 → Int32 → Option (Int32)
  | 0, _, _, _, _ => none
  | n + 1, x2, x3, x4, x5 => f_X5_hasRoom_L40_b rec2 (f_X5_hasRoom_L40 rec2 F G x1 n) F G x1 x2 x3 x4 x5
def f_X5_hasRoom_B35 (rec2 : Int32 → Option (Int32)) (F : Nat → Int32) (G : Nat → Nat → Int32) (x1 : Int32) (x2 : Int32) (x3 : Int32) (s0 : Int32) : Option (Int32) :=
  qn (0 : Int32) fun v8 =>
  f_X5_hasRoom_L40 rec2 F G x1 1000 x2 x3 s0 v8
def f_X5_hasRoom_L2_b  (rec2 : Int32 → Option (Int32)) (F : Nat → Int32) (G : Nat → Nat → Int32) (x1 : Int32) (x2 : Int32) : Option (Int32) :=
  if (F 27) ≤ x2 then
    some (1 : Int32)
  else
    ql (G 28) 8 x2 fun v9 =>
    if v9 = (F 8) then
      f_X5_hasRoom_B35 rec2 F G x1 x2 v9 (0 : Int32)
    else
      ql (G 11) 144 v9 fun v10 =>
      f_X5_hasRoom_B35 rec2 F G x1 x2 v9 v10
def f_X5_hasRoom_L2  (F : Nat → Int32) (G : Nat → Nat → Int32) (x1 : Int32) : Nat → Int32 → Option (Int32)
  | 0, _ => none
  | n + 1, x2 => f_X5_hasRoom_L2_b  (f_X5_hasRoom_L2  F G x1 n) F G x1 x2
def f_X5_hasRoom (F : Nat → Int32) (G : Nat → Nat → Int32) (x1 : Int32) : Option (Int32) :=
  qn (0 : Int32) fun v11 =>
  f_X5_hasRoom_L2 F G x1 1000 v11
def f_X5_lastColumn_B53 (rec5 : Int32 → Int32 → Option (Int32)) (F : Nat → Int32) (G : Nat → Nat → Int32) (x1 : Int32) (x2 : Int32) (x3 : Int32) (x4 : Int32) : Option (Int32) :=
  qn (x4 + (1 : Int32)) fun v1 =>
  rec5 x3 v1
def f_X5_lastColumn_B32 (rec5 : Int32 → Int32 → Option (Int32)) (F : Nat → Int32) (G : Nat → Nat → Int32) (x1 : Int32) (x2 : Int32) (x3 : Int32) (x4 : Int32) (s0 : Int32) : Option (Int32) :=
  ql (G 0) 144 ((((12 : Int32) * x1) + s0)) fun v2 =>
  if v2 = (-1 : Int32) then
    f_X5_lastColumn_B53 rec5 F G x1 x2 x3 x4
  else
    f_X5_lastColumn_B53 rec5 F G x1 x2 s0 x4
def f_X5_lastColumn_L5_b  (rec5 : Int32 → Int32 → Option (Int32)) (F : Nat → Int32) (G : Nat → Nat → Int32) (x1 : Int32) (x2 : Int32) (x3 : Int32) (x4 : Int32) : Option (Int32) :=
  qc (f_X5_columns F G) fun v3 =>
  if v3 ≤ x4 then
    some x3
  else
    if x2 = 0 then
      qc (f_X5_columns F G) fun v5 =>
      f_X5_lastColumn_B32 rec5 F G x1 x2 x3 x4 (((v5 - (1 : Int32)) - x4))
    else
      f_X5_lastColumn_B32 rec5 F G x1 x2 x3 x4 x4
def f_X5_lastColumn_L5  (F : Nat → Int32) (G : Nat → Nat → Int32) (x1 : Int32) (x2 : Int32) : Nat → Int32 → Int32 → Option (Int32)
  | 0, _, _ => none
  | n + 1, x3, x4 => f_X5_lastColumn_L5_b  (f_X5_lastColumn_L5  F G x1 x2 n) F G x1 x2 x3 x4
def f_X5_lastColumn (F : Nat → Int32) (G : Nat → Nat → Int32) (x1 : Int32) (x2 : Int32) : Option (Int32) :=
  qn (-1 : Int32) fun v7 =>
  qn (0 : Int32) fun v8 =>
  f_X5_lastColumn_L5 F G x1 x2 1000 v7 v8
def f_X5_worked_L118_b  (rec118 : Int32 → Int32 → Option (Int32)) (F : Nat → Int32) (G : Nat → Nat → Int32) (x1 : Int32) (x2 : Int32) (x3 : Int32) : Option (Int32) :=
  if (F 32) ≤ x3 then
    some x2
  else
    ql (G 40) 144 x3 fun v1 =>
    qn ((x2 + v1)) fun v2 =>
    qn (x3 + (1 : Int32)) fun v3 =>
    rec118 v2 v3
def f_X5_worked_L118  (F : Nat → Int32) (G : Nat → Nat → Int32) (x1 : Int32) : Nat → Int32 → Int32 → Option (Int32)
  | 0, _, _ => none
  | n + 1, x2, x3 => f_X5_worked_L118_b  (f_X5_worked_L118  F G x1 n) F G x1 x2 x3
def f_X5_worked (F : Nat → Int32) (G : Nat → Nat → Int32) (x1 : Int32) : Option (Int32) :=
  if (F 31) = 0 then
    some (-1 : Int32)
  else
    qn (0 : Int32) fun v4 =>
    if x1 = (0 : Int32) then
      some ((F 33))
    else
    if x1 = (1 : Int32) then
      if (F 34) = (-1 : Int32) then
        some (-1 : Int32)
      else
        some (((F 34) / (12 : Int32)))
    else
    if x1 = (2 : Int32) then
      if (F 34) = (-1 : Int32) then
        some (-1 : Int32)
      else
        some (((F 34) - (F 34) / (12 : Int32) * (12 : Int32)))
    else
    if x1 = (3 : Int32) then
      some ((F 35))
    else
    if x1 = (4 : Int32) then
      some ((F 36))
    else
    if x1 = (5 : Int32) then
      some ((F 37))
    else
    if x1 = (6 : Int32) then
      qn (0 : Int32) fun v5 =>
      f_X5_worked_L118 F G x1 1000 v4 v5
    else
    some (-1 : Int32)
def f_X5_isPicked (F : Nat → Int32) (G : Nat → Nat → Int32) (x1 : Int32) : Option (Int32) :=
  qc (f_X5_in x1 (0 : Int32) (((F 32) - (1 : Int32)))) fun v1 =>
  qb v1
def f_X5_picked_B96  (F : Nat → Int32) (G : Nat → Nat → Int32) (x1 : Int32) (x2 : Int32) (s0 : Int32) : Option (Int32) :=
  ql (G 42) 144 x1 fun v1 =>
  if v1 < 0 then
    some ((s0 + (0 : Int32)))
  else
    some ((s0 + (1 : Int32)))
def f_X5_picked (F : Nat → Int32) (G : Nat → Nat → Int32) (x1 : Int32) (x2 : Int32) : Option (Int32) :=
  qc (f_X5_isPicked F G x1) fun v2 =>
  if v2 = 0 then
    some (-1 : Int32)
  else
    if x2 = (0 : Int32) then
      ql (G 38) 144 x1 fun v4 =>
      some ((v4 / (12 : Int32)))
    else
    if x2 = (1 : Int32) then
      ql (G 38) 144 x1 fun v5 =>
      some ((v5 - v5 / (12 : Int32) * (12 : Int32)))
    else
    if x2 = (2 : Int32) then
      ql (G 39) 144 x1 fun v6 =>
      some v6
    else
    if x2 = (3 : Int32) then
      ql (G 40) 144 x1 fun v7 =>
      some v7
    else
    if x2 = (4 : Int32) then
      ql (G 41) 144 x1 fun v8 =>
      if v8 < 0 then
        f_X5_picked_B96 F G x1 x2 (0 : Int32)
      else
        f_X5_picked_B96 F G x1 x2 (1 : Int32)
    else
    if x2 = (5 : Int32) then
      ql (G 43) 144 x1 fun v9 =>
      some v9
    else
    some (-1 : Int32)
def f_X5_order (F : Nat → Int32) (G : Nat → Nat → Int32) (x1 : Int32) (x2 : Int32) : Option (Int32) :=
  qc (f_X5_in x1 (0 : Int32) (11 : Int32)) fun v1 =>
  if v1 = 0 then
    some (-1 : Int32)
  else
    qc (f_X5_in x2 (0 : Int32) (11 : Int32)) fun v3 =>
    if v3 = 0 then
      some (-1 : Int32)
    else
      ql (G 44) 144 ((((12 : Int32) * x1) + x2)) fun v5 =>
      some v5
def f_X5_isOn_B20  (F : Nat → Int32) (G : Nat → Nat → Int32) (x1 : Int32) (x2 : Int32)  : Option (Int32) :=
  some (1 : Int32)
def f_X5_isOn (F : Nat → Int32) (G : Nat → Nat → Int32) (x1 : Int32) (x2 : Int32) : Option (Int32) :=
  ql (G 41) 144 x1 fun v1 =>
  if v1 = x2 then
    f_X5_isOn_B20 F G x1 x2
  else
    ql (G 42) 144 x1 fun v2 =>
    if v2 = x2 then
      f_X5_isOn_B20 F G x1 x2
    else
      some (0 : Int32)
def f_X5_manyIn_B27 (rec4 : Int32 → Int32 → Option (Int32)) (F : Nat → Int32) (G : Nat → Nat → Int32) (x2 : Int32) (s0 : Int32) (s1 : Int32) : Option (Int32) :=
  qn ((s0 + s1)) fun v1 =>
  qn (x2 + (1 : Int32)) fun v2 =>
  rec4 v1 v2
def f_X5_manyIn_L4_b  (rec4 : Int32 → Int32 → Option (Int32)) (F : Nat → Int32) (G : Nat → Nat → Int32) (x1 : Int32) (x2 : Int32) : Option (Int32) :=
  if (F 32) ≤ x2 then
    some x1
  else
    ql (G 47) 144 x2 fun v3 =>
    if v3 = 0 then
      f_X5_manyIn_B27 rec4 F G x2 x1 (0 : Int32)
    else
      f_X5_manyIn_B27 rec4 F G x2 x1 (1 : Int32)
def f_X5_manyIn_L4  (F : Nat → Int32) (G : Nat → Nat → Int32) : Nat → Int32 → Int32 → Option (Int32)
  | 0, _, _ => none
  | n + 1, x1, x2 => f_X5_manyIn_L4_b  (f_X5_manyIn_L4  F G n) F G x1 x2
def f_X5_manyIn (F : Nat → Int32) (G : Nat → Nat → Int32)  : Option (Int32) :=
  qn (0 : Int32) fun v4 =>
  qn (0 : Int32) fun v5 =>
  f_X5_manyIn_L4 F G 1000 v4 v5
def f_X5_isWovenThrough_L2_b  (rec2 : Int32 → Option (Int32)) (F : Nat → Int32) (G : Nat → Nat → Int32) (x1 : Int32) (x2 : Int32) (x3 : Int32) : Option (Int32) :=
  ql (G 45) 150 x1 fun v1 =>
  if v1 ≤ x3 then
    some (0 : Int32)
  else
    ql (G 46) 900 ((((6 : Int32) * x1) + x3)) fun v2 =>
    if v2 = x2 then
      some (1 : Int32)
    else
      qn (x3 + (1 : Int32)) fun v3 =>
      rec2 v3
def f_X5_isWovenThrough_L2  (F : Nat → Int32) (G : Nat → Nat → Int32) (x1 : Int32) (x2 : Int32) : Nat → Int32 → Option (Int32)
  | 0, _ => none
  | n + 1, x3 => f_X5_isWovenThrough_L2_b  (f_X5_isWovenThrough_L2  F G x1 x2 n) F G x1 x2 x3
def f_X5_isWovenThrough (F : Nat → Int32) (G : Nat → Nat → Int32) (x1 : Int32) (x2 : Int32) : Option (Int32) :=
  qn (0 : Int32) fun v4 =>
  f_X5_isWovenThrough_L2 F G x1 x2 1000 v4
def f_X5_drawsOut_B43  (F : Nat → Int32) (G : Nat → Nat → Int32) (x1 : Int32) (x2 : Int32)  : Option (Int32) :=
  some (1 : Int32)
def f_X5_drawsOut_B20  (F : Nat → Int32) (G : Nat → Nat → Int32) (x1 : Int32) (x2 : Int32)  : Option (Int32) :=
  qc (f_X5_isOn F G x2 x1) fun v1 =>
  if v1 = 0 then
    ql (G 39) 144 x2 fun v3 =>
    qc (f_X5_isWovenThrough F G v3 x1) fun v4 =>
    if v4 = 0 then
      some (0 : Int32)
    else
      f_X5_drawsOut_B43 F G x1 x2
  else
    f_X5_drawsOut_B43 F G x1 x2
def f_X5_drawsOut (F : Nat → Int32) (G : Nat → Nat → Int32) (x1 : Int32) (x2 : Int32) : Option (Int32) :=
  ql (G 39) 144 x1 fun v6 =>
  ql (G 39) 144 x2 fun v7 =>
  if v6 = v7 then
    if x1 < x2 then
      f_X5_drawsOut_B43 F G x1 x2
    else
      f_X5_drawsOut_B20 F G x1 x2
  else
    f_X5_drawsOut_B20 F G x1 x2
def f_X5_woven (F : Nat → Int32) (G : Nat → Nat → Int32) (x1 : Int32) (x2 : Int32) : Option (Int32) :=
  if (F 31) = 0 then
    some (-1 : Int32)
  else
    qc (f_X5_in x1 (0 : Int32) (((F 35) - (1 : Int32)))) fun v1 =>
    if v1 = 0 then
      some (-1 : Int32)
    else
      ql (G 45) 150 x1 fun v3 =>
      qc (f_X5_in x2 (0 : Int32) ((v3 - (1 : Int32)))) fun v4 =>
      if v4 = 0 then
        some (-1 : Int32)
      else
        ql (G 46) 900 ((((6 : Int32) * x1) + x2)) fun v6 =>
        some v6
def f_X5_beadsOf_B27 (rec4 : Int32 → Int32 → Option (Int32)) (F : Nat → Int32) (G : Nat → Nat → Int32) (x1 : Int32) (x3 : Int32) (s0 : Int32) (s1 : Int32) : Option (Int32) :=
  qn ((s0 + s1)) fun v1 =>
  qn (x3 + (1 : Int32)) fun v2 =>
  rec4 v1 v2
def f_X5_beadsOf_L4_b  (rec4 : Int32 → Int32 → Option (Int32)) (F : Nat → Int32) (G : Nat → Nat → Int32) (x1 : Int32) (x2 : Int32) (x3 : Int32) : Option (Int32) :=
  if (144 : Int32) ≤ x3 then
    some x2
  else
    ql (G 0) 144 x3 fun v3 =>
    if v3 = x1 then
      f_X5_beadsOf_B27 rec4 F G x1 x3 x2 (1 : Int32)
    else
      f_X5_beadsOf_B27 rec4 F G x1 x3 x2 (0 : Int32)
def f_X5_beadsOf_L4  (F : Nat → Int32) (G : Nat → Nat → Int32) (x1 : Int32) : Nat → Int32 → Int32 → Option (Int32)
  | 0, _, _ => none
  | n + 1, x2, x3 => f_X5_beadsOf_L4_b  (f_X5_beadsOf_L4  F G x1 n) F G x1 x2 x3
def f_X5_beadsOf (F : Nat → Int32) (G : Nat → Nat → Int32) (x1 : Int32) : Option (Int32) :=
  qn (0 : Int32) fun v4 =>
  qn (0 : Int32) fun v5 =>
  f_X5_beadsOf_L4 F G x1 1000 v4 v5
def f_X5_bought (F : Nat → Int32) (G : Nat → Nat → Int32) (x1 : Int32) (x2 : Int32) : Option (Int32) :=
  qc (f_X5_isColour x1) fun v1 =>
  if v1 = 0 then
    some (-1 : Int32)
  else
    qc (f_X5_in x2 (1 : Int32) (1000 : Int32)) fun v3 =>
    if v3 = 0 then
      some (-1 : Int32)
    else
      qc (f_X5_beadsOf F G x1) fun v5 =>
      ql (G 5) 6 x1 fun v7 =>
      qd (((1000 : Int32) * x2)) <|
      some (((((v5 * v7) + ((1000 : Int32) * x2)) - (1 : Int32)) / ((1000 : Int32) * x2)))
def f_X5_count_B78 (rec56 : Int32 → Int32 → Option (Int32)) (F : Nat → Int32) (G : Nat → Nat → Int32) (x1 : Int32) (x3 : Int32) (s0 : Int32) (s1 : Int32) : Option (Int32) :=
  qn ((s0 + s1)) fun v1 =>
  qn (x3 + (1 : Int32)) fun v2 =>
  rec56 v1 v2
def f_X5_count_L56_b  (rec56 : Int32 → Int32 → Option (Int32)) (F : Nat → Int32) (G : Nat → Nat → Int32) (x1 : Int32) (x2 : Int32) (x3 : Int32) : Option (Int32) :=
  if (12 : Int32) ≤ x3 then
    some x2
  else
    qc (f_X5_lastColumn F G x3 (1 : Int32)) fun v3 =>
    if v3 = (-1 : Int32) then
      f_X5_count_B78 rec56 F G x1 x3 x2 (0 : Int32)
    else
      f_X5_count_B78 rec56 F G x1 x3 x2 (1 : Int32)
def f_X5_count_L56  (F : Nat → Int32) (G : Nat → Nat → Int32) (x1 : Int32) : Nat → Int32 → Int32 → Option (Int32)
  | 0, _, _ => none
  | n + 1, x2, x3 => f_X5_count_L56_b  (f_X5_count_L56  F G x1 n) F G x1 x2 x3
def f_X5_count (F : Nat → Int32) (G : Nat → Nat → Int32) (x1 : Int32) : Option (Int32) :=
  qn (0 : Int32) fun v5 =>
  if x1 = (0 : Int32) then
    qc (f_X5_beadsOf F G (-1 : Int32)) fun v6 =>
    some (((144 : Int32) - v6))
  else
  if x1 = (1 : Int32) then
    qn (0 : Int32) fun v8 =>
    f_X5_count_L56 F G x1 1000 v5 v8
  else
  if x1 = (2 : Int32) then
    some ((F 1))
  else
  if x1 = (3 : Int32) then
    some ((F 2))
  else
  if x1 = (4 : Int32) then
    some ((F 6))
  else
  if x1 = (5 : Int32) then
    some ((F 7))
  else
  if x1 = (6 : Int32) then
    some ((F 32))
  else
  qc (f_X5_in x1 (10 : Int32) (15 : Int32)) fun v9 =>
  if v9 = 0 then
    qc (f_X5_in x1 (20 : Int32) (25 : Int32)) fun v11 =>
    if v11 = 0 then
      some (-1 : Int32)
    else
      ql (G 3) 6 ((x1 - (20 : Int32))) fun v13 =>
      some v13
  else
    qc (f_X5_beadsOf F G ((x1 - (10 : Int32)))) fun v14 =>
    some v14
def f_X5_finds_29_B110  (x2 : Int32) (F : Nat → Int32) (G : Nat → Nat → Int32) (x3 : Int32) : Option (Int32 × qS) :=
  if x3 = (F 7) then
    some ((1 : Int32), F, G)
  else
    some ((0 : Int32), F, G)
def f_X5_finds_29_B104 (rec10 : (Nat → Int32) → (Nat → Nat → Int32) → Int32 → Int32 → Option (Int32 × qS)) (x2 : Int32) (F : Nat → Int32) (G : Nat → Nat → Int32) (x3 : Int32) (x4 : Int32) : Option (Int32 × qS) :=
  qn (x4 + (-1 : Int32)) fun v1 =>
  rec10 F G x3 v1
def f_X5_finds_29_B76 (rec10 : (Nat → Int32) → (Nat → Nat → Int32) → Int32 → Int32 → Option (Int32 × qS)) (x2 : Int32) (F : Nat → Int32) (G : Nat → Nat → Int32) (x3 : Int32) (x4 : Int32) (x5 : Int32) : Option (Int32 × qS) :=
  ql (G 14) 144 x4 fun v2 =>
  ql (G 3) 6 v2 fun v3 =>
  if x5 < v3 then
    qs G 29 6 x3 x4 fun G4 =>
    qn (x3 + (1 : Int32)) fun v5 =>
    f_X5_finds_29_B104 rec10 x2 F G4 v5 x4
  else
    f_X5_finds_29_B104 rec10 x2 F G x3 x4
def f_X5_finds_29_B67 (rec10 : (Nat → Int32) → (Nat → Nat → Int32) → Int32 → Int32 → Option (Int32 × qS)) (rec35 : (Nat → Int32) → (Nat → Nat → Int32) → Int32 → Int32 → Int32 → Int32 → Option (Int32 × qS)) (x2 : Int32) (F : Nat → Int32) (G : Nat → Nat → Int32) (x3 : Int32) (x4 : Int32) (x6 : Int32) (s0 : Int32) (s1 : Int32) : Option (Int32 × qS) :=
  qn ((s0 + s1)) fun v6 =>
  qn (x6 + (1 : Int32)) fun v7 =>
  rec35 F G x3 x4 v6 v7
def f_X5_finds_29_L35_b (rec10 : (Nat → Int32) → (Nat → Nat → Int32) → Int32 → Int32 → Option (Int32 × qS)) (rec35 : (Nat → Int32) → (Nat → Nat → Int32) → Int32 → Int32 → Int32 → Int32 → Option (Int32 × qS)) (x2 : Int32) (F : Nat → Int32) (G : Nat → Nat → Int32) (x3 : Int32) (x4 : Int32) (x5 : Int32) (x6 : Int32) : Option (Int32 × qS) :=
  if x2 = 0 then
    f_X5_finds_29_B76 rec10 x2 F G x3 x4 x5
  else
    if (F 7) ≤ x6 then
      f_X5_finds_29_B76 rec10 x2 F G x3 x4 x5
    else
      ql (G 29) 6 x6 fun v8 =>
      if v8 = x4 then
        f_X5_finds_29_B67 rec10 rec35 x2 F G x3 x4 x6 x5 (1 : Int32)
      else
        f_X5_finds_29_B67 rec10 rec35 x2 F G x3 x4 x6 x5 (0 : Int32)
def f_X5_finds_29_L35 (rec10 : (Nat → Int32) → (Nat → Nat → Int32) → Int32 → Int32 → Option (Int32 × qS)) (x2 : Int32) : Nat → (Nat → Int32) → (Nat → Nat → Int32) → Int32 → Int32 → Int32 → Int32 → Option (Int32 × qS)
  | 0, _, _, _, _, _, _ => none
  | n + 1, F, G, x3, x4, x5, x6 => f_X5_finds_29_L35_b rec10 (f_X5_finds_29_L35 rec10 x2 n) x2 F G x3 x4 x5 x6
def f_X5_finds_29_L10_b  (rec10 : (Nat → Int32) → (Nat → Nat → Int32) → Int32 → Int32 → Option (Int32 × qS)) (x2 : Int32) (F : Nat → Int32) (G : Nat → Nat → Int32) (x3 : Int32) (x4 : Int32) : Option (Int32 × qS) :=
  if x4 < 0 then
    f_X5_finds_29_B110 x2 F G x3
  else
    if (F 7) ≤ x3 then
      f_X5_finds_29_B110 x2 F G x3
    else
      ql (G 11) 144 x4 fun v9 =>
      qn (0 : Int32) fun v10 =>
      f_X5_finds_29_L35 rec10 x2 1000 F G x3 x4 v9 v10
def f_X5_finds_29_L10  (x2 : Int32) : Nat → (Nat → Int32) → (Nat → Nat → Int32) → Int32 → Int32 → Option (Int32 × qS)
  | 0, _, _, _, _ => none
  | n + 1, F, G, x3, x4 => f_X5_finds_29_L10_b  (f_X5_finds_29_L10  x2 n) x2 F G x3 x4
def f_X5_finds_29 (F : Nat → Int32) (G : Nat → Nat → Int32) (x2 : Int32) : Option (Int32 × qS) :=
  qn (0 : Int32) fun v11 =>
  qn (((F 8) - (1 : Int32))) fun v12 =>
  f_X5_finds_29_L10 x2 1000 F G v11 v12
def f_X5_finds_30_B110  (x2 : Int32) (F : Nat → Int32) (G : Nat → Nat → Int32) (x3 : Int32) : Option (Int32 × qS) :=
  if x3 = (F 7) then
    some ((1 : Int32), F, G)
  else
    some ((0 : Int32), F, G)
def f_X5_finds_30_B104 (rec10 : (Nat → Int32) → (Nat → Nat → Int32) → Int32 → Int32 → Option (Int32 × qS)) (x2 : Int32) (F : Nat → Int32) (G : Nat → Nat → Int32) (x3 : Int32) (x4 : Int32) : Option (Int32 × qS) :=
  qn (x4 + (-1 : Int32)) fun v1 =>
  rec10 F G x3 v1
def f_X5_finds_30_B76 (rec10 : (Nat → Int32) → (Nat → Nat → Int32) → Int32 → Int32 → Option (Int32 × qS)) (x2 : Int32) (F : Nat → Int32) (G : Nat → Nat → Int32) (x3 : Int32) (x4 : Int32) (x5 : Int32) : Option (Int32 × qS) :=
  ql (G 14) 144 x4 fun v2 =>
  ql (G 3) 6 v2 fun v3 =>
  if x5 < v3 then
    qs G 30 6 x3 x4 fun G4 =>
    qn (x3 + (1 : Int32)) fun v5 =>
    f_X5_finds_30_B104 rec10 x2 F G4 v5 x4
  else
    f_X5_finds_30_B104 rec10 x2 F G x3 x4
def f_X5_finds_30_B67 (rec10 : (Nat → Int32) → (Nat → Nat → Int32) → Int32 → Int32 → Option (Int32 × qS)) (rec35 : (Nat → Int32) → (Nat → Nat → Int32) → Int32 → Int32 → Int32 → Int32 → Option (Int32 × qS)) (x2 : Int32) (F : Nat → Int32) (G : Nat → Nat → Int32) (x3 : Int32) (x4 : Int32) (x6 : Int32) (s0 : Int32) (s1 : Int32) : Option (Int32 × qS) :=
  qn ((s0 + s1)) fun v6 =>
  qn (x6 + (1 : Int32)) fun v7 =>
  rec35 F G x3 x4 v6 v7
def f_X5_finds_30_L35_b (rec10 : (Nat → Int32) → (Nat → Nat → Int32) → Int32 → Int32 → Option (Int32 × qS)) (rec35 : (Nat → Int32) → (Nat → Nat → Int32) → Int32 → Int32 → Int32 → Int32 → Option (Int32 × qS)) (x2 : Int32) (F : Nat → Int32) (G : Nat → Nat → Int32) (x3 : Int32) (x4 : Int32) (x5 : Int32) (x6 : Int32) : Option (Int32 × qS) :=
  if x2 = 0 then
    f_X5_finds_30_B76 rec10 x2 F G x3 x4 x5
  else
    if (F 7) ≤ x6 then
      f_X5_finds_30_B76 rec10 x2 F G x3 x4 x5
    else
      ql (G 29) 6 x6 fun v8 =>
      if v8 = x4 then
        f_X5_finds_30_B67 rec10 rec35 x2 F G x3 x4 x6 x5 (1 : Int32)
      else
        f_X5_finds_30_B67 rec10 rec35 x2 F G x3 x4 x6 x5 (0 : Int32)
def f_X5_finds_30_L35 (rec10 : (Nat → Int32) → (Nat → Nat → Int32) → Int32 → Int32 → Option (Int32 × qS)) (x2 : Int32) : Nat → (Nat → Int32) → (Nat → Nat → Int32) → Int32 → Int32 → Int32 → Int32 → Option (Int32 × qS)
  | 0, _, _, _, _, _, _ => none
  | n + 1, F, G, x3, x4, x5, x6 => f_X5_finds_30_L35_b rec10 (f_X5_finds_30_L35 rec10 x2 n) x2 F G x3 x4 x5 x6
def f_X5_finds_30_L10_b  (rec10 : (Nat → Int32) → (Nat → Nat → Int32) → Int32 → Int32 → Option (Int32 × qS)) (x2 : Int32) (F : Nat → Int32) (G : Nat → Nat → Int32) (x3 : Int32) (x4 : Int32) : Option (Int32 × qS) :=
  if x4 < 0 then
    f_X5_finds_30_B110 x2 F G x3
  else
    if (F 7) ≤ x3 then
      f_X5_finds_30_B110 x2 F G x3
    else
      ql (G 11) 144 x4 fun v9 =>
      qn (0 : Int32) fun v10 =>
      f_X5_finds_30_L35 rec10 x2 1000 F G x3 x4 v9 v10
def f_X5_finds_30_L10  (x2 : Int32) : Nat → (Nat → Int32) → (Nat → Nat → Int32) → Int32 → Int32 → Option (Int32 × qS)
  | 0, _, _, _, _ => none
  | n + 1, F, G, x3, x4 => f_X5_finds_30_L10_b  (f_X5_finds_30_L10  x2 n) x2 F G x3 x4
def f_X5_finds_30 (F : Nat → Int32) (G : Nat → Nat → Int32) (x2 : Int32) : Option (Int32 × qS) :=
  qn (0 : Int32) fun v11 =>
  qn (((F 8) - (1 : Int32))) fun v12 =>
  f_X5_finds_30_L10 x2 1000 F G v11 v12
def f_X5_beads_B98 (rec45 : (Nat → Int32) → (Nat → Nat → Int32) → Int32 → Option (Int32 × qS)) (x1 : Int32) (x2 : Int32) (x3 : Int32) (x4 : Int64) (F : Nat → Int32) (G : Nat → Nat → Int32) (x6 : Int32) : Option (Int32 × qS) :=
  qn (x6 + (1 : Int32)) fun v1 =>
  rec45 F G v1
def f_X5_beads_B97 (rec45 : (Nat → Int32) → (Nat → Nat → Int32) → Int32 → Option (Int32 × qS)) (x1 : Int32) (x2 : Int32) (x3 : Int32) (x4 : Int64) (F : Nat → Int32) (G : Nat → Nat → Int32) (x6 : Int32) (s1 : Int32) (s2 : Int32) : Option (Int32 × qS) :=
  qs G 0 144 s1 s2 fun G2 =>
  f_X5_beads_B98 rec45 x1 x2 x3 x4 F G2 x6
def f_X5_beads_L45_b  (rec45 : (Nat → Int32) → (Nat → Nat → Int32) → Int32 → Option (Int32 × qS)) (x1 : Int32) (x2 : Int32) (x3 : Int32) (x4 : Int64) (F : Nat → Int32) (G : Nat → Nat → Int32) (x6 : Int32) : Option (Int32 × qS) :=
  if x3 ≤ x6 then
    some ((1 : Int32), F, G)
  else
    qn ((((x4 >>> (((3 : Int32) * x6).toInt64 &&& 63))).toInt32 &&& (7 : Int32))) fun v3 =>
    if (7 : Int32) ≤ v3 then
      f_X5_beads_B98 rec45 x1 x2 x3 x4 F G x6
    else
      if v3 = (6 : Int32) then
        f_X5_beads_B97 rec45 x1 x2 x3 x4 F G x6 (((((12 : Int32) * x1) + x2) + x6)) (-1 : Int32)
      else
        f_X5_beads_B97 rec45 x1 x2 x3 x4 F G x6 (((((12 : Int32) * x1) + x2) + x6)) v3
def f_X5_beads_L45  (x1 : Int32) (x2 : Int32) (x3 : Int32) (x4 : Int64) : Nat → (Nat → Int32) → (Nat → Nat → Int32) → Int32 → Option (Int32 × qS)
  | 0, _, _, _ => none
  | n + 1, F, G, x6 => f_X5_beads_L45_b  (f_X5_beads_L45  x1 x2 x3 x4 n) x1 x2 x3 x4 F G x6
def f_X5_beads (F : Nat → Int32) (G : Nat → Nat → Int32) (x1 : Int32) (x2 : Int32) (x3 : Int32) (x4 : Int64) : Option (Int32 × qS) :=
  qc (f_X5_in x1 (0 : Int32) (11 : Int32)) fun v4 =>
  if v4 = 0 then
    some ((0 : Int32), F, G)
  else
    qc (f_X5_in x2 (0 : Int32) (11 : Int32)) fun v6 =>
    if v6 = 0 then
      some ((0 : Int32), F, G)
    else
      qc (f_X5_in x3 (1 : Int32) (12 : Int32)) fun v8 =>
      if v8 = 0 then
        some ((0 : Int32), F, G)
      else
        qc (f_X5_columns F G) fun v10 =>
        if (x2 + x3) ≤ v10 then
          qn (0 : Int32) fun v12 =>
          f_X5_beads_L45 x1 x2 x3 x4 1000 F G v12
        else
          some ((0 : Int32), F, G)
def f_X5_stitch (F : Nat → Int32) (G : Nat → Nat → Int32) (x1 : Int32) : Option (Int32 × qS) :=
  qc (f_X5_in x1 (0 : Int32) (1 : Int32)) fun v1 =>
  if v1 = 0 then
    some ((-1 : Int32), F, G)
  else
    qn ((F 1)) fun v3 =>
    qf F 1 x1 fun F4 =>
    some (v3, F4, G)
def f_X5_ring_B65  (x1 : Int32) (F : Nat → Int32) (G : Nat → Nat → Int32) : Option (Int32 × qS) :=
  qf F 2 x1 fun F1 =>
  some ((1 : Int32), F1, G)
def f_X5_ring_L30_b (rec18 : (Nat → Int32) → (Nat → Nat → Int32) → Int32 → Option (Int32 × qS)) (rec30 : (Nat → Int32) → (Nat → Nat → Int32) → Int32 → Int32 → Option (Int32 × qS)) (x1 : Int32) (F : Nat → Int32) (G : Nat → Nat → Int32) (x2 : Int32) (x3 : Int32) : Option (Int32 × qS) :=
  if (12 : Int32) ≤ x3 then
    qn (x2 + (1 : Int32)) fun v2 =>
    rec18 F G v2
  else
    ql (G 0) 144 ((((12 : Int32) * x2) + x3)) fun v3 =>
    if v3 = (-1 : Int32) then
      qn (x3 + (1 : Int32)) fun v4 =>
      rec30 F G x2 v4
    else
      some ((0 : Int32), F, G)
def f_X5_ring_L30 (rec18 : (Nat → Int32) → (Nat → Nat → Int32) → Int32 → Option (Int32 × qS)) (x1 : Int32) : Nat → (Nat → Int32) → (Nat → Nat → Int32) → Int32 → Int32 → Option (Int32 × qS)
  | 0, _, _, _, _ => none
  | n + 1, F, G, x2, x3 => f_X5_ring_L30_b rec18 (f_X5_ring_L30 rec18 x1 n) x1 F G x2 x3
def f_X5_ring_L18_b  (rec18 : (Nat → Int32) → (Nat → Nat → Int32) → Int32 → Option (Int32 × qS)) (x1 : Int32) (F : Nat → Int32) (G : Nat → Nat → Int32) (x2 : Int32) : Option (Int32 × qS) :=
  if (12 : Int32) ≤ x2 then
    f_X5_ring_B65 x1 F G
  else
    if x1 ≤ 0 then
      f_X5_ring_B65 x1 F G
    else
      f_X5_ring_L30 rec18 x1 1000 F G x2 x1
def f_X5_ring_L18  (x1 : Int32) : Nat → (Nat → Int32) → (Nat → Nat → Int32) → Int32 → Option (Int32 × qS)
  | 0, _, _, _ => none
  | n + 1, F, G, x2 => f_X5_ring_L18_b  (f_X5_ring_L18  x1 n) x1 F G x2
def f_X5_ring_B16  (x1 : Int32) (F : Nat → Int32) (G : Nat → Nat → Int32) : Option (Int32 × qS) :=
  qn (0 : Int32) fun v5 =>
  f_X5_ring_L18 x1 1000 F G v5
def f_X5_ring (F : Nat → Int32) (G : Nat → Nat → Int32) (x1 : Int32) : Option (Int32 × qS) :=
  if x1 = 0 then
    f_X5_ring_B16 x1 F G
  else
    qc (f_X5_in x1 (3 : Int32) (12 : Int32)) fun v6 =>
    if v6 = 0 then
      some ((0 : Int32), F, G)
    else
      f_X5_ring_B16 x1 F G
def f_X5_colour (F : Nat → Int32) (G : Nat → Nat → Int32) (x1 : Int32) (x2 : Int32) (x3 : Int32) (x4 : Int32) : Option (Int32 × qS) :=
  qc (f_X5_isColour x1) fun v1 =>
  if v1 = 0 then
    some ((0 : Int32), F, G)
  else
    qc (f_X5_in x2 (1 : Int32) (9 : Int32)) fun v3 =>
    if v3 = 0 then
      some ((0 : Int32), F, G)
    else
      qc (f_X5_in x3 (1 : Int32) (20 : Int32)) fun v5 =>
      if v5 = 0 then
        some ((0 : Int32), F, G)
      else
        qc (f_X5_in x4 (1 : Int32) (100 : Int32)) fun v7 =>
        if v7 = 0 then
          some ((0 : Int32), F, G)
        else
          qs G 3 6 x1 x2 fun G9 =>
          qs G9 4 6 x1 x3 fun G10 =>
          qs G10 5 6 x1 x4 fun G11 =>
          some ((1 : Int32), F, G11)
def f_X5_thread (F : Nat → Int32) (G : Nat → Nat → Int32) (x1 : Int32) (x2 : Int32) : Option (Int32 × qS) :=
  qc (f_X5_in x1 (1 : Int32) (9999 : Int32)) fun v1 =>
  if v1 = 0 then
    some ((0 : Int32), F, G)
  else
    qc (f_X5_in x2 (0 : Int32) (6 : Int32)) fun v3 =>
    if v3 = 0 then
      some ((0 : Int32), F, G)
    else
      qf F 6 x1 fun F5 =>
      qf F5 7 x2 fun F6 =>
      some ((1 : Int32), F6, G)
def f_X5_catches_B102  (x1 : Int32) (x2 : Int32) (x3 : Int32) (F : Nat → Int32) (G : Nat → Nat → Int32) (x4 : Int32) (x5 : Int32) : Option (qS) :=
  qs G 12 144 ((F 8)) x4 fun G1 =>
  qs G1 13 144 ((F 8)) x5 fun G2 =>
  some (F, G2)
def f_X5_catches_B79  (x1 : Int32) (x2 : Int32) (x3 : Int32) (F : Nat → Int32) (G : Nat → Nat → Int32) (x4 : Int32) (x5 : Int32) : Option (qS) :=
  if 0 ≤ x4 then
    f_X5_catches_B102 x1 x2 x3 F G x4 x5
  else
    qn (-1 : Int32) fun v3 =>
    f_X5_catches_B102 x1 x2 x3 F G x5 v3
def f_X5_catches (F : Nat → Int32) (G : Nat → Nat → Int32) (x1 : Int32) (x2 : Int32) (x3 : Int32) : Option (qS) :=
  qn (-1 : Int32) fun v4 =>
  qn (-1 : Int32) fun v5 =>
  if (F 1) = (1 : Int32) then
    qc (f_X5_pickedAt F G x3 (((x2 - (1 : Int32)) + (x1 - x1 / (2 : Int32) * (2 : Int32))))) fun v8 =>
    qc (f_X5_pickedAt F G x3 ((x2 + (x1 - x1 / (2 : Int32) * (2 : Int32))))) fun v10 =>
    if v8 < 0 then
      f_X5_catches_B79 x1 x2 x3 F G v8 v10
    else
      if v10 < 0 then
        f_X5_catches_B79 x1 x2 x3 F G v8 v10
      else
        ql (G 9) 144 v8 fun v12 =>
        ql (G 9) 144 v10 fun v13 =>
        if v12 ≤ v13 then
          f_X5_catches_B79 x1 x2 x3 F G v8 v10
        else
          f_X5_catches_B79 x1 x2 x3 F G v10 v8
  else
    qc (f_X5_pickedAt F G x3 x2) fun v6 =>
    f_X5_catches_B102 x1 x2 x3 F G v6 v5
def f_X5_passesBy (F : Nat → Int32) (G : Nat → Nat → Int32) (x1 : Int32) : Option (qS) :=
  qs G 28 8 ((F 27)) x1 fun G1 =>
  qf F 27 (((F 27) + (1 : Int32))) fun F2 =>
  some (F2, G1)
def f_X5_joins_L28_b  (rec28 : (Nat → Int32) → (Nat → Nat → Int32) → Int32 → Option (Int32 × qS)) (F : Nat → Int32) (G : Nat → Nat → Int32) (x1 : Int32) : Option (Int32 × qS) :=
  if (F 7) ≤ x1 then
    qs G 21 150 ((F 18)) ((F 7)) fun G1 =>
    qf F 18 (((F 18) + (1 : Int32))) fun F2 =>
    qf F2 20 ((F2 6)) fun F3 =>
    some ((1 : Int32), F3, G1)
  else
    ql (G 29) 6 x1 fun v4 =>
    ql (G 11) 144 v4 fun v5 =>
    qs G 11 144 v4 ((v5 + (1 : Int32))) fun G6 =>
    ql (G6 30) 6 x1 fun v7 =>
    ql (G6 11) 144 v7 fun v8 =>
    qs G6 11 144 v7 ((v8 + (1 : Int32))) fun G9 =>
    ql (G9 30) 6 x1 fun v10 =>
    qs G9 22 900 ((((6 : Int32) * (F 18)) + x1)) v10 fun G11 =>
    qn (x1 + (1 : Int32)) fun v12 =>
    rec28 F G11 v12
def f_X5_joins_L28  : Nat → (Nat → Int32) → (Nat → Nat → Int32) → Int32 → Option (Int32 × qS)
  | 0, _, _, _ => none
  | n + 1, F, G, x1 => f_X5_joins_L28_b  (f_X5_joins_L28  n) F G x1
def f_X5_joins (F : Nat → Int32) (G : Nat → Nat → Int32)  : Option (Int32 × qS) :=
  qc (f_X5_finds_29 F G (0 : Int32)) fun (v13, F14, G15) =>
  if v13 = 0 then
    some ((0 : Int32), F14, G15)
  else
    qc (f_X5_finds_30 F14 G15 (1 : Int32)) fun (v17, F18, G19) =>
    if v17 = 0 then
      some ((0 : Int32), F18, G19)
    else
      qn (0 : Int32) fun v21 =>
      f_X5_joins_L28 1000 F18 G19 v21
def f_X5_fails (F : Nat → Int32) (G : Nat → Nat → Int32) (x1 : Int32) (x2 : Int32) : Option (Int32 × qS) :=
  qf F 16 x1 fun F1 =>
  qf F1 17 x2 fun F2 =>
  some ((0 : Int32), F2, G)
def f_X5_picks_B419  (x1 : Int32) (x2 : Int32) (x3 : Int32) (x4 : Int32) (F : Nat → Int32) (G : Nat → Nat → Int32) (x6 : Int32) : Option (Int32 × qS) :=
  qf F 25 (((F 25) + (1 : Int32))) fun F1 =>
  qf F1 8 (((F1 8) + (1 : Int32))) fun F2 =>
  qf F2 20 (((F2 20) - x6)) fun F3 =>
  qf F3 19 (((F3 19) + x6)) fun F4 =>
  some ((1 : Int32), F4, G)
def f_X5_picks_L362_b  (rec362 : (Nat → Int32) → (Nat → Nat → Int32) → Int32 → Int32 → Int32 → Option (Int32 × qS)) (x1 : Int32) (x2 : Int32) (x3 : Int32) (x4 : Int32) (F : Nat → Int32) (G : Nat → Nat → Int32) (x5 : Int32) (x6 : Int32) (x7 : Int32) : Option (Int32 × qS) :=
  if (F 27) ≤ x7 then
    qs G 15 144 x5 ((F 8)) fun G5 =>
    if (F 25) = 0 then
      qf F 23 ((F 8)) fun F6 =>
      f_X5_picks_B419 x1 x2 x3 x4 F6 G5 x6
    else
      f_X5_picks_B419 x1 x2 x3 x4 F G5 x6
  else
    ql (G 28) 8 x7 fun v7 =>
    ql (G 11) 144 v7 fun v8 =>
    qs G 11 144 v7 ((v8 + (1 : Int32))) fun G9 =>
    qn (x7 + (1 : Int32)) fun v10 =>
    rec362 F G9 x5 x6 v10
def f_X5_picks_L362  (x1 : Int32) (x2 : Int32) (x3 : Int32) (x4 : Int32) : Nat → (Nat → Int32) → (Nat → Nat → Int32) → Int32 → Int32 → Int32 → Option (Int32 × qS)
  | 0, _, _, _, _, _ => none
  | n + 1, F, G, x5, x6, x7 => f_X5_picks_L362_b  (f_X5_picks_L362  x1 x2 x3 x4 n) x1 x2 x3 x4 F G x5 x6 x7
def f_X5_picks_B290  (x1 : Int32) (x2 : Int32) (x3 : Int32) (x4 : Int32) (F : Nat → Int32) (G : Nat → Nat → Int32) (x5 : Int32) (x6 : Int32) : Option (Int32 × qS) :=
  qc (f_X5_hasRoom F G x5) fun v11 =>
  if v11 = 0 then
    qc (f_X5_fails F G (2 : Int32) x5) fun (v19, F20, G21) =>
    qc (qb v19) fun zz => some (zz, F20, G21)
  else
    qs G 11 144 ((F 8)) (0 : Int32) fun G13 =>
    ql (G13 0) 144 x5 fun v14 =>
    qs G13 14 144 ((F 8)) v14 fun G15 =>
    qs G15 9 144 ((F 8)) x5 fun G16 =>
    qs G16 10 144 ((F 8)) (((F 18) - (1 : Int32))) fun G17 =>
    qn (0 : Int32) fun v18 =>
    f_X5_picks_L362 x1 x2 x3 x4 1000 F G17 x5 x6 v18
def f_X5_picks_B266  (x1 : Int32) (x2 : Int32) (x3 : Int32) (x4 : Int32) (F : Nat → Int32) (G : Nat → Nat → Int32) (x5 : Int32) (x6 : Int32) : Option (Int32 × qS) :=
  if x6 ≤ (F 20) then
    f_X5_picks_B290 x1 x2 x3 x4 F G x5 x6
  else
    qc (f_X5_joins F G) fun (v23, F24, G25) =>
    if v23 = 0 then
      qc (f_X5_fails F24 G25 (4 : Int32) x5) fun (v27, F28, G29) =>
      qc (qb v27) fun zz => some (zz, F28, G29)
    else
      f_X5_picks_B290 x1 x2 x3 x4 F24 G25 x5 x6
def f_X5_picks_B214  (x1 : Int32) (x2 : Int32) (x3 : Int32) (x4 : Int32) (F : Nat → Int32) (G : Nat → Nat → Int32) (x5 : Int32) : Option (Int32 × qS) :=
  qc (f_X5_needs F G x5) fun v31 =>
  if v31 ≤ (F 6) then
    if (F 18) = 0 then
      qf F 20 ((F 6)) fun F33 =>
      qf F33 18 (1 : Int32) fun F34 =>
      qs G 21 150 (0 : Int32) (0 : Int32) fun G35 =>
      f_X5_picks_B266 x1 x2 x3 x4 F34 G35 x5 v31
    else
      f_X5_picks_B266 x1 x2 x3 x4 F G x5 v31
  else
    qc (f_X5_fails F G (3 : Int32) x5) fun (v36, F37, G38) =>
    qc (qb v36) fun zz => some (zz, F37, G38)
def f_X5_picks_B182  (x1 : Int32) (x2 : Int32) (x3 : Int32) (x4 : Int32) (F : Nat → Int32) (G : Nat → Nat → Int32) (x5 : Int32) : Option (Int32 × qS) :=
  if (F 26) = 0 then
    f_X5_picks_B214 x1 x2 x3 x4 F G x5
  else
    if (F 2) ≤ 0 then
      f_X5_picks_B214 x1 x2 x3 x4 F G x5
    else
      if x4 = 0 then
        f_X5_picks_B214 x1 x2 x3 x4 F G x5
      else
        if (F 8) < (2 : Int32) then
          f_X5_picks_B214 x1 x2 x3 x4 F G x5
        else
          qc (f_X5_passesBy F G (0 : Int32)) fun (F41, G42) =>
          f_X5_picks_B214 x1 x2 x3 x4 F41 G42 x5
def f_X5_picks_B150  (x1 : Int32) (x2 : Int32) (x3 : Int32) (x4 : Int32) (F : Nat → Int32) (G : Nat → Nat → Int32) (x5 : Int32) : Option (Int32 × qS) :=
  if (F 26) = 0 then
    ql (G 13) 144 ((F 8)) fun v44 =>
    if v44 < 0 then
      f_X5_picks_B182 x1 x2 x3 x4 F G x5
    else
      ql (G 13) 144 ((F 8)) fun v45 =>
      qc (f_X5_passesBy F G v45) fun (F47, G48) =>
      f_X5_picks_B182 x1 x2 x3 x4 F47 G48 x5
  else
    f_X5_picks_B182 x1 x2 x3 x4 F G x5
def f_X5_picks_B130  (x1 : Int32) (x2 : Int32) (x3 : Int32) (x4 : Int32) (F : Nat → Int32) (G : Nat → Nat → Int32) (x5 : Int32) : Option (Int32 × qS) :=
  if (F 26) = 0 then
    ql (G 12) 144 ((F 8)) fun v50 =>
    qc (f_X5_passesBy F G v50) fun (F52, G53) =>
    f_X5_picks_B150 x1 x2 x3 x4 F52 G53 x5
  else
    f_X5_picks_B150 x1 x2 x3 x4 F G x5
def f_X5_picks_B98  (x1 : Int32) (x2 : Int32) (x3 : Int32) (x4 : Int32) (F : Nat → Int32) (G : Nat → Nat → Int32) (x5 : Int32) : Option (Int32 × qS) :=
  qc (f_X5_passesBy F G ((F 8))) fun (F56, G57) =>
  if (F56 26) = 0 then
    f_X5_picks_B130 x1 x2 x3 x4 F56 G57 x5
  else
    if (F56 8) ≤ 0 then
      f_X5_picks_B130 x1 x2 x3 x4 F56 G57 x5
    else
      qc (f_X5_passesBy F56 G57 (((F56 8) - (1 : Int32)))) fun (F60, G61) =>
      f_X5_picks_B130 x1 x2 x3 x4 F60 G61 x5
def f_X5_picks_B95  (x1 : Int32) (x2 : Int32) (x3 : Int32) (x4 : Int32) (F : Nat → Int32) (G : Nat → Nat → Int32) (x5 : Int32) (s1 : Int32) : Option (Int32 × qS) :=
  qc (f_X5_passesBy F G s1) fun (F64, G65) =>
  f_X5_picks_B98 x1 x2 x3 x4 F64 G65 x5
def f_X5_picks (F : Nat → Int32) (G : Nat → Nat → Int32) (x1 : Int32) (x2 : Int32) (x3 : Int32) (x4 : Int32) : Option (Int32 × qS) :=
  qn ((((12 : Int32) * x1) + x2)) fun v67 =>
  qf F 27 (0 : Int32) fun F68 =>
  qs G 12 144 ((F68 8)) (-1 : Int32) fun G69 =>
  qs G69 13 144 ((F68 8)) (-1 : Int32) fun G70 =>
  if (F68 26) = 0 then
    qc (f_X5_catches F68 G70 x1 x2 x3) fun (F72, G73) =>
    ql (G73 12) 144 ((F72 8)) fun v75 =>
    if 0 ≤ v75 then
      if (F72 25) = 0 then
        if (F72 2) = 0 then
          f_X5_picks_B95 x1 x2 x3 x4 F72 G73 v67 (((F72 8) - (1 : Int32)))
        else
          f_X5_picks_B95 x1 x2 x3 x4 F72 G73 v67 ((F72 24))
      else
        f_X5_picks_B98 x1 x2 x3 x4 F72 G73 v67
    else
      qc (f_X5_fails F72 G73 (1 : Int32) v67) fun (v76, F77, G78) =>
      qc (qb v76) fun zz => some (zz, F77, G78)
  else
    f_X5_picks_B98 x1 x2 x3 x4 F68 G70 v67
def f_X5_worksRow_B86 (rec16 : (Nat → Int32) → (Nat → Nat → Int32) → Int32 → Int32 → Option (Int32 × qS)) (x1 : Int32) (x2 : Int32) (x3 : Int32) (F : Nat → Int32) (G : Nat → Nat → Int32) (x4 : Int32) (x5 : Int32) : Option (Int32 × qS) :=
  qn (x5 + (1 : Int32)) fun v1 =>
  rec16 F G x4 v1
def f_X5_worksRow_B78 (rec16 : (Nat → Int32) → (Nat → Nat → Int32) → Int32 → Int32 → Option (Int32 × qS)) (x1 : Int32) (x2 : Int32) (x3 : Int32) (F : Nat → Int32) (G : Nat → Nat → Int32) (x4 : Int32) (x5 : Int32) (s1 : Int32) (s2 : Int32) (s3 : Int32) (s4 : Int32) : Option (Int32 × qS) :=
  qc (f_X5_picks F G s1 s2 s3 s4) fun (v2, F3, G4) =>
  if v2 = 0 then
    some ((0 : Int32), F3, G4)
  else
    f_X5_worksRow_B86 rec16 x1 x2 x3 F3 G4 x4 x5
def f_X5_worksRow_B43 (rec16 : (Nat → Int32) → (Nat → Nat → Int32) → Int32 → Int32 → Option (Int32 × qS)) (x1 : Int32) (x2 : Int32) (x3 : Int32) (F : Nat → Int32) (G : Nat → Nat → Int32) (x4 : Int32) (x5 : Int32) (s0 : Int32) : Option (Int32 × qS) :=
  ql (G 0) 144 ((((12 : Int32) * x1) + s0)) fun v6 =>
  if v6 = (-1 : Int32) then
    f_X5_worksRow_B86 rec16 x1 x2 x3 F G x4 x5
  else
    if s0 = x4 then
      f_X5_worksRow_B78 rec16 x1 x2 x3 F G x4 x5 x1 s0 x2 (1 : Int32)
    else
      f_X5_worksRow_B78 rec16 x1 x2 x3 F G x4 x5 x1 s0 x2 (0 : Int32)
def f_X5_worksRow_L16_b  (rec16 : (Nat → Int32) → (Nat → Nat → Int32) → Int32 → Int32 → Option (Int32 × qS)) (x1 : Int32) (x2 : Int32) (x3 : Int32) (F : Nat → Int32) (G : Nat → Nat → Int32) (x4 : Int32) (x5 : Int32) : Option (Int32 × qS) :=
  qc (f_X5_columns F G) fun v7 =>
  if v7 ≤ x5 then
    some ((1 : Int32), F, G)
  else
    if x3 = 0 then
      qc (f_X5_columns F G) fun v9 =>
      f_X5_worksRow_B43 rec16 x1 x2 x3 F G x4 x5 (((v9 - (1 : Int32)) - x5))
    else
      f_X5_worksRow_B43 rec16 x1 x2 x3 F G x4 x5 x5
def f_X5_worksRow_L16  (x1 : Int32) (x2 : Int32) (x3 : Int32) : Nat → (Nat → Int32) → (Nat → Nat → Int32) → Int32 → Int32 → Option (Int32 × qS)
  | 0, _, _, _, _ => none
  | n + 1, F, G, x4, x5 => f_X5_worksRow_L16_b  (f_X5_worksRow_L16  x1 x2 x3 n) x1 x2 x3 F G x4 x5
def f_X5_worksRow (F : Nat → Int32) (G : Nat → Nat → Int32) (x1 : Int32) (x2 : Int32) (x3 : Int32) : Option (Int32 × qS) :=
  qc (f_X5_lastColumn F G x1 x3) fun v11 =>
  qf F 25 (0 : Int32) fun F13 =>
  qn (0 : Int32) fun v14 =>
  f_X5_worksRow_L16 x1 x2 x3 1000 F13 G v11 v14
def f_X5_tries_B182 (rec86 : (Nat → Int32) → (Nat → Nat → Int32) → Int32 → Int32 → Int32 → Int32 → Option (qS)) (x1 : Int32) (F : Nat → Int32) (G : Nat → Nat → Int32) (x2 : Int32) (x3 : Int32) (x4 : Int32) (x5 : Int32) : Option (qS) :=
  qn (x5 + (1 : Int32)) fun v1 =>
  rec86 F G x2 x3 x4 v1
def f_X5_tries_B181 (rec86 : (Nat → Int32) → (Nat → Nat → Int32) → Int32 → Int32 → Int32 → Int32 → Option (qS)) (x1 : Int32) (F : Nat → Int32) (G : Nat → Nat → Int32) (x2 : Int32) (x4 : Int32) (x5 : Int32) (s0 : Int32) : Option (qS) :=
  f_X5_tries_B182 rec86 x1 F G x2 s0 x4 x5
def f_X5_tries_B146 (rec86 : (Nat → Int32) → (Nat → Nat → Int32) → Int32 → Int32 → Int32 → Int32 → Option (qS)) (x1 : Int32) (F : Nat → Int32) (G : Nat → Nat → Int32) (x2 : Int32) (x3 : Int32) (x5 : Int32) (s1 : Int32) (s2 : Int32) : Option (qS) :=
  qc (f_X5_worksRow F G s1 s2 x3) fun (v2, F3, G4) =>
  qf F3 24 ((F3 23)) fun F6 =>
  qf F6 26 (0 : Int32) fun F7 =>
  if (F7 2) = 0 then
    if x3 = 0 then
      f_X5_tries_B181 rec86 x1 F7 G4 x2 v2 x5 (1 : Int32)
    else
      f_X5_tries_B181 rec86 x1 F7 G4 x2 v2 x5 (0 : Int32)
  else
    f_X5_tries_B182 rec86 x1 F7 G4 x2 x3 v2 x5
def f_X5_tries_B112 (rec86 : (Nat → Int32) → (Nat → Nat → Int32) → Int32 → Int32 → Int32 → Int32 → Option (qS)) (x1 : Int32) (F : Nat → Int32) (G : Nat → Nat → Int32) (x2 : Int32) (x3 : Int32) (x4 : Int32) (x5 : Int32) (s0 : Int32) : Option (qS) :=
  qc (f_X5_lastColumn F G s0 (1 : Int32)) fun v8 =>
  if v8 = (-1 : Int32) then
    f_X5_tries_B182 rec86 x1 F G x2 x3 x4 x5
  else
    if x2 = 0 then
      f_X5_tries_B146 rec86 x1 F G x2 x3 x5 s0 ((s0 + (1 : Int32)))
    else
      f_X5_tries_B146 rec86 x1 F G x2 x3 x5 s0 ((s0 - (1 : Int32)))
def f_X5_tries_L86_b  (rec86 : (Nat → Int32) → (Nat → Nat → Int32) → Int32 → Int32 → Int32 → Int32 → Option (qS)) (x1 : Int32) (F : Nat → Int32) (G : Nat → Nat → Int32) (x2 : Int32) (x3 : Int32) (x4 : Int32) (x5 : Int32) : Option (qS) :=
  if (12 : Int32) ≤ x5 then
    some (F, G)
  else
    if x4 = 0 then
      some (F, G)
    else
      if x2 = 0 then
        f_X5_tries_B112 rec86 x1 F G x2 x3 x4 x5 (((11 : Int32) - x5))
      else
        f_X5_tries_B112 rec86 x1 F G x2 x3 x4 x5 x5
def f_X5_tries_L86  (x1 : Int32) : Nat → (Nat → Int32) → (Nat → Nat → Int32) → Int32 → Int32 → Int32 → Int32 → Option (qS)
  | 0, _, _, _, _, _, _ => none
  | n + 1, F, G, x2, x3, x4, x5 => f_X5_tries_L86_b  (f_X5_tries_L86  x1 n) x1 F G x2 x3 x4 x5
def f_X5_tries_B74  (x1 : Int32) (F : Nat → Int32) (G : Nat → Nat → Int32) (x2 : Int32) (s0 : Int32) : Option (qS) :=
  qf F 26 (1 : Int32) fun F10 =>
  qn (1 : Int32) fun v11 =>
  qn (0 : Int32) fun v12 =>
  f_X5_tries_L86 x1 1000 F10 G x2 s0 v11 v12
def f_X5_tries_B62  (x1 : Int32) (F : Nat → Int32) (G : Nat → Nat → Int32) (s0 : Int32) : Option (qS) :=
  if (x1 - x1 / (2 : Int32) * (2 : Int32)) = 0 then
    f_X5_tries_B74 x1 F G s0 (1 : Int32)
  else
    f_X5_tries_B74 x1 F G s0 (0 : Int32)
def f_X5_tries_L32_b  (rec32 : (Nat → Int32) → (Nat → Nat → Int32) → Int32 → Option (qS)) (x1 : Int32) (F : Nat → Int32) (G : Nat → Nat → Int32) (x2 : Int32) : Option (qS) :=
  if (144 : Int32) ≤ x2 then
    if (2 : Int32) ≤ x1 then
      f_X5_tries_B62 x1 F G (0 : Int32)
    else
      f_X5_tries_B62 x1 F G (1 : Int32)
  else
    qs G 15 144 x2 (-1 : Int32) fun G13 =>
    qn (x2 + (1 : Int32)) fun v14 =>
    rec32 F G13 v14
def f_X5_tries_L32  (x1 : Int32) : Nat → (Nat → Int32) → (Nat → Nat → Int32) → Int32 → Option (qS)
  | 0, _, _, _ => none
  | n + 1, F, G, x2 => f_X5_tries_L32_b  (f_X5_tries_L32  x1 n) x1 F G x2
def f_X5_tries (F : Nat → Int32) (G : Nat → Nat → Int32) (x1 : Int32) : Option (qS) :=
  qf F 8 (0 : Int32) fun F15 =>
  qf F15 16 (0 : Int32) fun F16 =>
  qf F16 17 (-1 : Int32) fun F17 =>
  qf F17 18 (0 : Int32) fun F18 =>
  qf F18 19 (0 : Int32) fun F19 =>
  qf F19 20 (0 : Int32) fun F20 =>
  qn (0 : Int32) fun v21 =>
  f_X5_tries_L32 x1 1000 F20 G v21
def f_X5_keeps_L181_b  (rec181 : (Nat → Int32) → (Nat → Nat → Int32) → Int32 → Option (qS)) (F : Nat → Int32) (G : Nat → Nat → Int32) (x1 : Int32) : Option (qS) :=
  if (900 : Int32) ≤ x1 then
    some (F, G)
  else
    ql (G 22) 900 x1 fun v1 =>
    qs G 46 900 x1 v1 fun G2 =>
    qn (x1 + (1 : Int32)) fun v3 =>
    rec181 F G2 v3
def f_X5_keeps_L181  : Nat → (Nat → Int32) → (Nat → Nat → Int32) → Int32 → Option (qS)
  | 0, _, _, _ => none
  | n + 1, F, G, x1 => f_X5_keeps_L181_b  (f_X5_keeps_L181  n) F G x1
def f_X5_keeps_L154_b  (rec154 : (Nat → Int32) → (Nat → Nat → Int32) → Int32 → Option (qS)) (F : Nat → Int32) (G : Nat → Nat → Int32) (x1 : Int32) : Option (qS) :=
  if (150 : Int32) ≤ x1 then
    qn (0 : Int32) fun v4 =>
    f_X5_keeps_L181 1000 F G v4
  else
    ql (G 21) 150 x1 fun v5 =>
    qs G 45 150 x1 v5 fun G6 =>
    qn (x1 + (1 : Int32)) fun v7 =>
    rec154 F G6 v7
def f_X5_keeps_L154  : Nat → (Nat → Int32) → (Nat → Nat → Int32) → Int32 → Option (qS)
  | 0, _, _, _ => none
  | n + 1, F, G, x1 => f_X5_keeps_L154_b  (f_X5_keeps_L154  n) F G x1
def f_X5_keeps_L55_b  (rec55 : (Nat → Int32) → (Nat → Nat → Int32) → Int32 → Option (qS)) (F : Nat → Int32) (G : Nat → Nat → Int32) (x1 : Int32) : Option (qS) :=
  if (144 : Int32) ≤ x1 then
    qn (0 : Int32) fun v8 =>
    f_X5_keeps_L154 1000 F G v8
  else
    ql (G 15) 144 x1 fun v9 =>
    qs G 44 144 x1 v9 fun G10 =>
    ql (G10 9) 144 x1 fun v11 =>
    qs G10 38 144 x1 v11 fun G12 =>
    ql (G12 10) 144 x1 fun v13 =>
    qs G12 39 144 x1 v13 fun G14 =>
    ql (G14 11) 144 x1 fun v15 =>
    qs G14 40 144 x1 v15 fun G16 =>
    ql (G16 12) 144 x1 fun v17 =>
    qs G16 41 144 x1 v17 fun G18 =>
    ql (G18 13) 144 x1 fun v19 =>
    qs G18 42 144 x1 v19 fun G20 =>
    ql (G20 14) 144 x1 fun v21 =>
    qs G20 43 144 x1 v21 fun G22 =>
    qn (x1 + (1 : Int32)) fun v23 =>
    rec55 F G22 v23
def f_X5_keeps_L55  : Nat → (Nat → Int32) → (Nat → Nat → Int32) → Int32 → Option (qS)
  | 0, _, _, _ => none
  | n + 1, F, G, x1 => f_X5_keeps_L55_b  (f_X5_keeps_L55  n) F G x1
def f_X5_keeps (F : Nat → Int32) (G : Nat → Nat → Int32)  : Option (qS) :=
  qf F 31 (1 : Int32) fun F24 =>
  qf F24 32 ((F24 8)) fun F25 =>
  qf F25 33 ((F25 16)) fun F26 =>
  qf F26 34 ((F26 17)) fun F27 =>
  qf F27 35 ((F27 18)) fun F28 =>
  qf F28 36 ((F28 19)) fun F29 =>
  qf F29 37 ((F29 20)) fun F30 =>
  qn (0 : Int32) fun v31 =>
  f_X5_keeps_L55 1000 F30 G v31
def f_X5_work (F : Nat → Int32) (G : Nat → Nat → Int32) (x1 : Int32) : Option (Int32 × qS) :=
  qc (f_X5_in x1 (0 : Int32) (3 : Int32)) fun v1 =>
  if v1 = 0 then
    some ((-1 : Int32), F, G)
  else
    qc (f_X5_tries F G x1) fun (F4, G5) =>
    qc (f_X5_keeps F4 G5) fun (F8, G9) =>
    some ((F8 32), F8, G9)
def f_X5_hang_B106 (rec36 : (Nat → Int32) → (Nat → Nat → Int32) → Int32 → Option (Int32 × qS)) (x1 : Int32) (F : Nat → Int32) (G : Nat → Nat → Int32) (x2 : Int32) (s1 : Int32) (s2 : Int32) : Option (Int32 × qS) :=
  qz G 47 144 s1 s2 fun G1 =>
  qn (x2 + (1 : Int32)) fun v2 =>
  rec36 F G1 v2
def f_X5_hang_B105 (rec36 : (Nat → Int32) → (Nat → Nat → Int32) → Int32 → Option (Int32 × qS)) (x1 : Int32) (F : Nat → Int32) (G : Nat → Nat → Int32) (x2 : Int32) (s1 : Int32) : Option (Int32 × qS) :=
  f_X5_hang_B106 rec36 x1 F G x2 s1 (0 : Int32)
def f_X5_hang_B101 (rec36 : (Nat → Int32) → (Nat → Nat → Int32) → Int32 → Option (Int32 × qS)) (x1 : Int32) (F : Nat → Int32) (G : Nat → Nat → Int32) (x2 : Int32) (s1 : Int32) : Option (Int32 × qS) :=
  f_X5_hang_B106 rec36 x1 F G x2 s1 (1 : Int32)
def f_X5_hang_B86 (rec36 : (Nat → Int32) → (Nat → Nat → Int32) → Int32 → Option (Int32 × qS)) (x1 : Int32) (F : Nat → Int32) (G : Nat → Nat → Int32) (x2 : Int32) (x4 : Int32) (s1 : Int32) : Option (Int32 × qS) :=
  if x4 < 0 then
    f_X5_hang_B105 rec36 x1 F G x2 s1
  else
    ql (G 47) 144 x4 fun v3 =>
    if v3 = 0 then
      f_X5_hang_B105 rec36 x1 F G x2 s1
    else
      f_X5_hang_B101 rec36 x1 F G x2 s1
def f_X5_hang_L36_b  (rec36 : (Nat → Int32) → (Nat → Nat → Int32) → Int32 → Option (Int32 × qS)) (x1 : Int32) (F : Nat → Int32) (G : Nat → Nat → Int32) (x2 : Int32) : Option (Int32 × qS) :=
  if (F 32) ≤ x2 then
    qc (f_X5_manyIn F G) fun v4 =>
    some (v4, F, G)
  else
    ql (G 41) 144 x2 fun v6 =>
    ql (G 42) 144 x2 fun v7 =>
    qc (f_X5_isOn F G x2 x1) fun v8 =>
    if v8 = 0 then
      if v6 < 0 then
        f_X5_hang_B86 rec36 x1 F G x2 v7 x2
      else
        ql (G 47) 144 v6 fun v10 =>
        if v10 = 0 then
          f_X5_hang_B86 rec36 x1 F G x2 v7 x2
        else
          f_X5_hang_B101 rec36 x1 F G x2 x2
    else
      f_X5_hang_B101 rec36 x1 F G x2 x2
def f_X5_hang_L36  (x1 : Int32) : Nat → (Nat → Int32) → (Nat → Nat → Int32) → Int32 → Option (Int32 × qS)
  | 0, _, _, _ => none
  | n + 1, F, G, x2 => f_X5_hang_L36_b  (f_X5_hang_L36  x1 n) x1 F G x2
def f_X5_hang_L12_b  (rec12 : (Nat → Int32) → (Nat → Nat → Int32) → Int32 → Option (Int32 × qS)) (x1 : Int32) (F : Nat → Int32) (G : Nat → Nat → Int32) (x2 : Int32) : Option (Int32 × qS) :=
  if (144 : Int32) ≤ x2 then
    qn ((x1 + (1 : Int32))) fun v11 =>
    f_X5_hang_L36 x1 1000 F G v11
  else
    qz G 47 144 x2 (0 : Int32) fun G12 =>
    qn (x2 + (1 : Int32)) fun v13 =>
    rec12 F G12 v13
def f_X5_hang_L12  (x1 : Int32) : Nat → (Nat → Int32) → (Nat → Nat → Int32) → Int32 → Option (Int32 × qS)
  | 0, _, _, _ => none
  | n + 1, F, G, x2 => f_X5_hang_L12_b  (f_X5_hang_L12  x1 n) x1 F G x2
def f_X5_hang (F : Nat → Int32) (G : Nat → Nat → Int32) (x1 : Int32) : Option (Int32 × qS) :=
  qc (f_X5_isPicked F G x1) fun v14 =>
  if v14 = 0 then
    some ((-1 : Int32), F, G)
  else
    qn (0 : Int32) fun v16 =>
    f_X5_hang_L12 x1 1000 F G v16
def f_X5_pulls_B109 (rec33 : (Nat → Int32) → (Nat → Nat → Int32) → Int32 → Option (qS)) (rec41 : (Nat → Int32) → (Nat → Nat → Int32) → Int32 → Int32 → Option (qS)) (x1 : Int32) (F : Nat → Int32) (G : Nat → Nat → Int32) (x2 : Int32) (x3 : Int32) : Option (qS) :=
  qn (x3 + (1 : Int32)) fun v1 =>
  rec41 F G x2 v1
def f_X5_pulls_B103 (rec33 : (Nat → Int32) → (Nat → Nat → Int32) → Int32 → Option (qS)) (rec41 : (Nat → Int32) → (Nat → Nat → Int32) → Int32 → Int32 → Option (qS)) (rec52 : (Nat → Int32) → (Nat → Nat → Int32) → Int32 → Int32 → Int32 → Option (qS)) (x1 : Int32) (F : Nat → Int32) (G : Nat → Nat → Int32) (x2 : Int32) (x3 : Int32) (x4 : Int32) : Option (qS) :=
  qn (x4 + (1 : Int32)) fun v2 =>
  rec52 F G x2 x3 v2
def f_X5_pulls_L52_b (rec33 : (Nat → Int32) → (Nat → Nat → Int32) → Int32 → Option (qS)) (rec41 : (Nat → Int32) → (Nat → Nat → Int32) → Int32 → Int32 → Option (qS)) (rec52 : (Nat → Int32) → (Nat → Nat → Int32) → Int32 → Int32 → Int32 → Option (qS)) (x1 : Int32) (F : Nat → Int32) (G : Nat → Nat → Int32) (x2 : Int32) (x3 : Int32) (x4 : Int32) : Option (qS) :=
  if (F 32) ≤ x4 then
    f_X5_pulls_B109 rec33 rec41 x1 F G x2 x3
  else
    ql (G 47) 144 x3 fun v3 =>
    if v3 = 0 then
      f_X5_pulls_B109 rec33 rec41 x1 F G x2 x3
    else
      ql (G 47) 144 x4 fun v4 =>
      if v4 = 0 then
        qc (f_X5_drawsOut F G x3 x4) fun v5 =>
        if v5 = 0 then
          f_X5_pulls_B103 rec33 rec41 rec52 x1 F G x2 x3 x4
        else
          qz G 47 144 x4 (1 : Int32) fun G7 =>
          qn (1 : Int32) fun v8 =>
          f_X5_pulls_B103 rec33 rec41 rec52 x1 F G7 v8 x3 x4
      else
        f_X5_pulls_B103 rec33 rec41 rec52 x1 F G x2 x3 x4
def f_X5_pulls_L52 (rec33 : (Nat → Int32) → (Nat → Nat → Int32) → Int32 → Option (qS)) (rec41 : (Nat → Int32) → (Nat → Nat → Int32) → Int32 → Int32 → Option (qS)) (x1 : Int32) : Nat → (Nat → Int32) → (Nat → Nat → Int32) → Int32 → Int32 → Int32 → Option (qS)
  | 0, _, _, _, _, _ => none
  | n + 1, F, G, x2, x3, x4 => f_X5_pulls_L52_b rec33 rec41 (f_X5_pulls_L52 rec33 rec41 x1 n) x1 F G x2 x3 x4
def f_X5_pulls_L41_b (rec33 : (Nat → Int32) → (Nat → Nat → Int32) → Int32 → Option (qS)) (rec41 : (Nat → Int32) → (Nat → Nat → Int32) → Int32 → Int32 → Option (qS)) (x1 : Int32) (F : Nat → Int32) (G : Nat → Nat → Int32) (x2 : Int32) (x3 : Int32) : Option (qS) :=
  if (F 32) ≤ x3 then
    rec33 F G x2
  else
    qn (0 : Int32) fun v9 =>
    f_X5_pulls_L52 rec33 rec41 x1 1000 F G x2 x3 v9
def f_X5_pulls_L41 (rec33 : (Nat → Int32) → (Nat → Nat → Int32) → Int32 → Option (qS)) (x1 : Int32) : Nat → (Nat → Int32) → (Nat → Nat → Int32) → Int32 → Int32 → Option (qS)
  | 0, _, _, _, _ => none
  | n + 1, F, G, x2, x3 => f_X5_pulls_L41_b rec33 (f_X5_pulls_L41 rec33 x1 n) x1 F G x2 x3
def f_X5_pulls_L33_b  (rec33 : (Nat → Int32) → (Nat → Nat → Int32) → Int32 → Option (qS)) (x1 : Int32) (F : Nat → Int32) (G : Nat → Nat → Int32) (x2 : Int32) : Option (qS) :=
  if x2 = 0 then
    some (F, G)
  else
    qn (0 : Int32) fun v10 =>
    qn (0 : Int32) fun v11 =>
    f_X5_pulls_L41 rec33 x1 1000 F G v10 v11
def f_X5_pulls_L33  (x1 : Int32) : Nat → (Nat → Int32) → (Nat → Nat → Int32) → Int32 → Option (qS)
  | 0, _, _, _ => none
  | n + 1, F, G, x2 => f_X5_pulls_L33_b  (f_X5_pulls_L33  x1 n) x1 F G x2
def f_X5_pulls_B24 (rec2 : (Nat → Int32) → (Nat → Nat → Int32) → Int32 → Option (qS)) (x1 : Int32) (F : Nat → Int32) (G : Nat → Nat → Int32) (x2 : Int32) (s1 : Int32) (s2 : Int32) : Option (qS) :=
  qz G 47 144 s1 s2 fun G12 =>
  qn (x2 + (1 : Int32)) fun v13 =>
  rec2 F G12 v13
def f_X5_pulls_L2_b  (rec2 : (Nat → Int32) → (Nat → Nat → Int32) → Int32 → Option (qS)) (x1 : Int32) (F : Nat → Int32) (G : Nat → Nat → Int32) (x2 : Int32) : Option (qS) :=
  if (144 : Int32) ≤ x2 then
    qn (1 : Int32) fun v14 =>
    f_X5_pulls_L33 x1 1000 F G v14
  else
    if x2 = x1 then
      f_X5_pulls_B24 rec2 x1 F G x2 x2 (1 : Int32)
    else
      f_X5_pulls_B24 rec2 x1 F G x2 x2 (0 : Int32)
def f_X5_pulls_L2  (x1 : Int32) : Nat → (Nat → Int32) → (Nat → Nat → Int32) → Int32 → Option (qS)
  | 0, _, _, _ => none
  | n + 1, F, G, x2 => f_X5_pulls_L2_b  (f_X5_pulls_L2  x1 n) x1 F G x2
def f_X5_pulls (F : Nat → Int32) (G : Nat → Nat → Int32) (x1 : Int32) : Option (qS) :=
  qn (0 : Int32) fun v15 =>
  f_X5_pulls_L2 x1 1000 F G v15
def f_X5_pull (F : Nat → Int32) (G : Nat → Nat → Int32) (x1 : Int32) : Option (Int32 × qS) :=
  qc (f_X5_isPicked F G x1) fun v1 =>
  if v1 = 0 then
    some ((-1 : Int32), F, G)
  else
    qc (f_X5_pulls F G x1) fun (F4, G5) =>
    qc (f_X5_manyIn F4 G5) fun v7 =>
    some (v7, F4, G5)
def f_X5_pulled (F : Nat → Int32) (G : Nat → Nat → Int32) (x1 : Int32) (x2 : Int32) : Option (Int32 × qS) :=
  qc (f_X5_isPicked F G x1) fun v1 =>
  if v1 = 0 then
    some ((-1 : Int32), F, G)
  else
    qc (f_X5_isPicked F G x2) fun v3 =>
    if v3 = 0 then
      some ((-1 : Int32), F, G)
    else
      qc (f_X5_pulls F G x1) fun (F6, G7) =>
      ql (G7 47) 144 x2 fun v9 =>
      if v9 = 0 then
        some ((0 : Int32), F6, G7)
      else
        some ((1 : Int32), F6, G7)
def f_X5_best_B75 (rec9 : (Nat → Int32) → (Nat → Nat → Int32) → Int32 → Int32 → Int32 → Int32 → Option (Int32 × qS)) (F : Nat → Int32) (G : Nat → Nat → Int32) (x1 : Int32) (x2 : Int32) (x3 : Int32) (x4 : Int32) : Option (Int32 × qS) :=
  qn (x4 + (1 : Int32)) fun v1 =>
  rec9 F G x1 x2 x3 v1
def f_X5_best_B62 (rec9 : (Nat → Int32) → (Nat → Nat → Int32) → Int32 → Int32 → Int32 → Int32 → Option (Int32 × qS)) (F : Nat → Int32) (G : Nat → Nat → Int32) (x4 : Int32) : Option (Int32 × qS) :=
  qn ((F 18)) fun v2 =>
  qn ((F 19)) fun v3 =>
  f_X5_best_B75 rec9 F G x4 v2 v3 x4
def f_X5_best_L9_b  (rec9 : (Nat → Int32) → (Nat → Nat → Int32) → Int32 → Int32 → Int32 → Int32 → Option (Int32 × qS)) (F : Nat → Int32) (G : Nat → Nat → Int32) (x1 : Int32) (x2 : Int32) (x3 : Int32) (x4 : Int32) : Option (Int32 × qS) :=
  if (4 : Int32) ≤ x4 then
    if 0 ≤ x1 then
      qc (f_X5_tries F G x1) fun (F5, G6) =>
      qc (f_X5_keeps F5 G6) fun (F9, G10) =>
      some (x1, F9, G10)
    else
      some ((-1 : Int32), F, G)
  else
    qc (f_X5_tries F G x4) fun (F13, G14) =>
    if (F13 16) = 0 then
      if x1 < 0 then
        f_X5_best_B62 rec9 F13 G14 x4
      else
        if x2 < (F13 18) then
          f_X5_best_B75 rec9 F13 G14 x1 x2 x3 x4
        else
          if (F13 18) = x2 then
            if (F13 19) < x3 then
              f_X5_best_B62 rec9 F13 G14 x4
            else
              f_X5_best_B75 rec9 F13 G14 x1 x2 x3 x4
          else
            f_X5_best_B62 rec9 F13 G14 x4
    else
      f_X5_best_B75 rec9 F13 G14 x1 x2 x3 x4
def f_X5_best_L9  : Nat → (Nat → Int32) → (Nat → Nat → Int32) → Int32 → Int32 → Int32 → Int32 → Option (Int32 × qS)
  | 0, _, _, _, _, _, _ => none
  | n + 1, F, G, x1, x2, x3, x4 => f_X5_best_L9_b  (f_X5_best_L9  n) F G x1 x2 x3 x4
def f_X5_best (F : Nat → Int32) (G : Nat → Nat → Int32)  : Option (Int32 × qS) :=
  qn (-1 : Int32) fun v16 =>
  qn (0 : Int32) fun v17 =>
  qn (0 : Int32) fun v18 =>
  qn (0 : Int32) fun v19 =>
  f_X5_best_L9 1000 F G v16 v17 v18 v19
