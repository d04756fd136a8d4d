def f_X9_crowd (M : gs_M) : Option (Int32) :=
  some (M 3 2)
def f_X11_isPerson (M : gs_M) (x1 : Int32) : Option (Int32) :=
  gs_b1 (if x1 < (0 : Int32) then
  some ((0 : Int32))
  else
  gs_b1 (f_X9_crowd M) fun v5 =>
  if v5 ≤ x1 then
  some ((0 : Int32))
  else
  some ((1 : Int32))) fun y1 =>
  gs_b1 (gs_ckZ y1) fun z8 =>
  some z8
def f_X9_hours (M : gs_M) : Option (Int32) :=
  gs_b1 (gs_rd M 4 3 (0 : Int32)) fun v1 =>
  some v1
def f_X6_of (M : gs_M) (x1 : Int32) (x2 : Int32) : Option (Int32) :=
  gs_b1 (gs_rd M 10 173 ((x1 * (6 : Int32)) + x2)) fun v1 =>
  some v1
def f_X9_told (M : gs_M) (x1 : Int32) (x2 : Int32) : Option (Int32) :=
  gs_b1 (gs_rd M 5 40 ((x1 * (5 : Int32)) + x2)) fun v1 =>
  some v1
def f_X4_has (M : gs_M) (x1 : Int32) : Option (Int32) :=
  gs_b1 (gs_ckZ (if x1 < (0 : Int32) then (0 : Int32) else if (M 105 4) ≤ x1 then (0 : Int32) else (1 : Int32) : Int32)) fun z1 =>
  some z1
def f_X4_spell (M : gs_M) (x1 : Int32) (x2 : Int32) (x3 : Int32) (x4 : Int32) (x5 : Int32) (x6 : Int32) : Option (gs_M) :=
  gs_b1 (gs_wr M 107 6 (0 : Int32) x1) fun M2 =>
  gs_b1 (gs_wr M2 107 6 (1 : Int32) x2) fun M4 =>
  gs_b1 (gs_wr M4 107 6 (2 : Int32) x3) fun M6 =>
  gs_b1 (gs_wr M6 107 6 (3 : Int32) x4) fun M8 =>
  gs_b1 (gs_wr M8 107 6 (4 : Int32) x5) fun M10 =>
  gs_b1 (gs_wr M10 107 6 (5 : Int32) x6) fun M12 =>
  some M12
def f_X2_reckon (x0 : Int32) (x1 : Int32) (x2 : Int32) : Option (Int32) :=
  if x0 = (38 : Int32) then
  some (x1 &&& x2)
  else
  if x0 = (42 : Int32) then
  if (lg_cmp ((Int32.toInt64 x1) * (Int32.toInt64 x2)) (1000000 : Int64)) ≤ (0 : Int32) then
  some (if (0 : Int32) ≤ (lg_cmp ((Int32.toInt64 x1) * (Int32.toInt64 x2)) (-1000000 : Int64)) then (Int64.toInt32 ((Int32.toInt64 x1) * (Int32.toInt64 x2))) else (-1000000 : Int32) : Int32)
  else
  some (1000000 : Int32)
  else
  if x0 = (43 : Int32) then
  if (lg_cmp ((Int32.toInt64 x1) + (Int32.toInt64 x2)) (1000000 : Int64)) ≤ (0 : Int32) then
  some (if (0 : Int32) ≤ (lg_cmp ((Int32.toInt64 x1) + (Int32.toInt64 x2)) (-1000000 : Int64)) then (Int64.toInt32 ((Int32.toInt64 x1) + (Int32.toInt64 x2))) else (-1000000 : Int32) : Int32)
  else
  some (1000000 : Int32)
  else
  if x0 = (45 : Int32) then
  if (lg_cmp ((Int32.toInt64 x1) - (Int32.toInt64 x2)) (1000000 : Int64)) ≤ (0 : Int32) then
  some (if (0 : Int32) ≤ (lg_cmp ((Int32.toInt64 x1) - (Int32.toInt64 x2)) (-1000000 : Int64)) then (Int64.toInt32 ((Int32.toInt64 x1) - (Int32.toInt64 x2))) else (-1000000 : Int32) : Int32)
  else
  some (1000000 : Int32)
  else
  if x0 = (47 : Int32) then
  gs_b1 (if x2 = (0 : Int32) then
  some ((0 : Int64))
  else
  gs_b1 (gs_dv x1 x2) fun v19 =>
  some (Int32.toInt64 v19)) fun y15 =>
  if (lg_cmp y15 (1000000 : Int64)) ≤ (0 : Int32) then
  some (if (0 : Int32) ≤ (lg_cmp y15 (-1000000 : Int64)) then (Int64.toInt32 y15) else (-1000000 : Int32) : Int32)
  else
  some (1000000 : Int32)
  else
  if x0 = (60 : Int32) then
  some (if x2 ≤ x1 then (0 : Int32) else (1 : Int32) : Int32)
  else
  if x0 = (61 : Int32) then
  some (if x1 = x2 then (1 : Int32) else (0 : Int32) : Int32)
  else
  if x0 = (62 : Int32) then
  some (if x1 ≤ x2 then (0 : Int32) else (1 : Int32) : Int32)
  else
  some (x1 ||| x2)
def l_X2_run_6 (r0 : Nat) (x1 : Int32) (x2 : Int32) : Nat → Int32 → Int32 → gs_M → Option (Int32 × Int32 × gs_M)
  | 0, _, _, _ => none
  | f + 1, x4, x5, M =>
    if x2 ≤ x5 then
    some (x4, x5, M)
    else
    gs_b1 (gs_rd M (r0 + 1) 240 x5) fun v2 =>
    gs_b2 (if v2 < (0 : Int32) then
    if v2 = (-33 : Int32) then
    if x4 ≤ (0 : Int32) then
    some (x4, M)
    else
    gs_b1 (gs_rd M (r0 + 5) 32 (x4 - (1 : Int32))) fun v20 =>
    gs_b1 (gs_wr M (r0 + 5) 32 (x4 - (1 : Int32)) ((1 : Int32) - v20)) fun M23 =>
    some (x4, M23)
    else
    if x4 ≤ (1 : Int32) then
    some (x4, M)
    else
    gs_b1 (gs_rd M (r0 + 5) 32 ((x4 + (-1 : Int32)) - (1 : Int32))) fun v11 =>
    gs_b1 (gs_rd M (r0 + 5) 32 (x4 + (-1 : Int32))) fun v13 =>
    gs_b1 (f_X2_reckon (-v2) v11 v13) fun v15 =>
    gs_b1 (gs_wr M (r0 + 5) 32 ((x4 + (-1 : Int32)) - (1 : Int32)) v15) fun M18 =>
    some (x4 + (-1 : Int32), M18)
    else
    if (32 : Int32) ≤ x4 then
    some (x4, M)
    else
    gs_b1 (if (10000 : Int32) ≤ v2 then
    gs_b1 (gs_rd M 107 6 (v2 - (10000 : Int32))) fun v29 =>
    some (v29)
    else
    some (v2)) fun y25 =>
    gs_b1 (gs_wr M (r0 + 5) 32 x4 y25) fun M32 =>
    some (x4 + (1 : Int32), M32)) fun y4 M5 =>
    l_X2_run_6 r0 x1 x2 f y4 (x5 + (1 : Int32)) M5
def f_X2_run (M : gs_M) (r0 : Nat) (x1 : Int32) (x2 : Int32) : Option (Int32 × gs_M) :=
  gs_b3 (l_X2_run_6 r0 x1 x2 gs_FU (0 : Int32) x1 M) fun y1 y2 M3 =>
  gs_b1 (if y1 ≤ (0 : Int32) then
  some ((0 : Int32))
  else
  gs_b1 (gs_rd M3 (r0 + 5) 32 (0 : Int32)) fun v9 =>
  some (v9)) fun y5 =>
  some (y5, M3)
def l_X2_worth_2 (r0 : Nat) (x1 : Int32) : Nat → Int32 → gs_M → Option (Int32 × gs_M)
  | 0, _, _ => none
  | f + 1, x3, M =>
    if (M r0 6) ≤ x3 then
    some ((0 : Int32), M)
    else
    gs_b1 (gs_rd M (r0 + 4) 61 x3) fun v2 =>
    if v2 = x1 then
    gs_b1 (gs_rd M (r0 + 3) 61 x3) fun v5 =>
    gs_b1 (gs_rd M (r0 + 2) 61 x3) fun v7 =>
    gs_b2 (if v5 = v7 then
    some ((1 : Int32), M)
    else
    gs_b1 (gs_rd M (r0 + 2) 61 x3) fun v14 =>
    gs_b1 (gs_rd M (r0 + 3) 61 x3) fun v16 =>
    gs_b2 (f_X2_run M r0 v14 v16) fun v18 M19 =>
    if v18 = (0 : Int32) then
    some ((0 : Int32), M19)
    else
    some ((1 : Int32), M19)) fun y9 M10 =>
    if y9 = (0 : Int32) then
    l_X2_worth_2 r0 x1 f (x3 + (1 : Int32)) M10
    else
    gs_b1 (gs_rd M10 (r0 + 3) 61 x3) fun v23 =>
    gs_b1 (if (M10 r0 6) ≤ (x3 + (1 : Int32)) then
    some (M10 r0 5)
    else
    gs_b1 (gs_rd M10 (r0 + 2) 61 (x3 + (1 : Int32))) fun v29 =>
    some (v29)) fun y25 =>
    gs_b2 (f_X2_run M10 r0 v23 y25) fun v31 M32 =>
    some (v31, M32)
    else
    l_X2_worth_2 r0 x1 f (x3 + (1 : Int32)) M
def f_X2_worth (M : gs_M) (r0 : Nat) (x1 : Int32) : Option (Int32 × gs_M) :=
  l_X2_worth_2 r0 x1 gs_FU (0 : Int32) M
def f_X9_ruled (M : gs_M) (x1 : Int32) : Option (Int32) :=
  gs_b1 (gs_rd M 4 3 x1) fun v1 =>
  some v1
def f_X4_wakesIf (M : gs_M) (x1 : Int32) (x2 : Int32) (x3 : Int32) (x4 : Int32) : Option (Int32 × gs_M) :=
  gs_b1 (f_X9_told M x1 (1 : Int32)) fun v1 =>
  gs_b1 (f_X6_of M x1 (2 : Int32)) fun v3 =>
  gs_b1 (f_X4_has M (M 105 5)) fun v5 =>
  gs_b2 (if v5 = (0 : Int32) then
  some (((v1 + x4) - x3) - v3, M)
  else
  gs_b1 (f_X4_spell M x3 v1 x4 v3 x2 (0 : Int32)) fun M12 =>
  gs_b1 (gs_rdq 106 4 (M12 105 5)) fun r14 =>
  gs_b2 (f_X2_worth M12 r14 (121 : Int32)) fun v16 M17 =>
  some (v16, M17)) fun y7 M8 =>
  gs_b1 (f_X6_of M8 x1 (3 : Int32)) fun v19 =>
  gs_b1 (if v19 = (0 : Int32) then
  some (y7)
  else
  gs_b1 (f_X9_ruled M8 (2 : Int32)) fun v25 =>
  some (y7 + v25)) fun y21 =>
  some ((if (0 : Int32) < (if (10 : Int32) < y21 then (10 : Int32) else y21 : Int32) then (if (10 : Int32) < y21 then (10 : Int32) else y21 : Int32) else (0 : Int32) : Int32), M8)
def f_X4_wakesNow (M : gs_M) (x1 : Int32) (x2 : Int32) : Option (Int32 × gs_M) :=
  gs_b1 (f_X6_of M x1 (0 : Int32)) fun v1 =>
  gs_b1 (f_X6_of M x1 (1 : Int32)) fun v3 =>
  gs_b2 (f_X4_wakesIf M x1 x2 v1 v3) fun v5 M6 =>
  some (v5, M6)
def l_X11_sharePartsOf_2 (x1 : Int32) : Nat → Int32 → gs_M → Option (Int32 × gs_M)
  | 0, _, _ => none
  | f + 1, x2, M =>
    if (9 : Int32) < x2 then
    some (x2, M)
    else
    gs_b1 (gs_wr M 146 10 x2 (0 : Int32)) fun M3 =>
    l_X11_sharePartsOf_2 x1 f (x2 + (1 : Int32)) M3
def l_X11_sharePartsOf_56 (x1 : Int32) (x2 : Int32) (x3 : Int32) : Nat → Int32 → gs_M → Option (Int32 × gs_M)
  | 0, _, _ => none
  | f + 1, x4, M =>
    if x4 < (0 : Int32) then
    some (x4, M)
    else
    gs_b1 (gs_rd M 146 10 x4) fun v2 =>
    gs_b1 (gs_dvl ((Int32.toInt64 v2) * (Int32.toInt64 x3)) (10 : Int64)) fun v4 =>
    gs_b1 (gs_rd M 146 10 x4) fun v6 =>
    gs_b1 (gs_wr M 146 10 x4 (v6 - (Int64.toInt32 v4))) fun M9 =>
    gs_b1 (gs_rd M9 146 10 (x4 + (1 : Int32))) fun v10 =>
    gs_b1 (gs_wr M9 146 10 (x4 + (1 : Int32)) (v10 + (Int64.toInt32 v4))) fun M13 =>
    l_X11_sharePartsOf_56 x1 x2 x3 f (x4 + (-1 : Int32)) M13
def l_X11_sharePartsOf_32 (x1 : Int32) : Nat → Int32 → gs_M → Option (Int32 × gs_M)
  | 0, _, _ => none
  | f + 1, x2, M =>
    gs_b1 (f_X9_hours M) fun v1 =>
    if v1 ≤ x2 then
    some (x2, M)
    else
    gs_b2 (f_X4_wakesNow M x1 x2) fun v4 M5 =>
    gs_b2 (l_X11_sharePartsOf_56 x1 x2 v4 gs_FU x2 M5) fun y7 M8 =>
    l_X11_sharePartsOf_32 x1 f (x2 + (1 : Int32)) M8
def f_X11_sharePartsOf (M : gs_M) (x1 : Int32) : Option (gs_M) :=
  gs_b2 (l_X11_sharePartsOf_2 x1 gs_FU (0 : Int32) M) fun y1 M2 =>
  gs_b1 (gs_wr M2 146 10 (0 : Int32) (1000000000 : Int32)) fun M5 =>
  gs_b2 (l_X11_sharePartsOf_32 x1 gs_FU (0 : Int32) M5) fun y6 M7 =>
  some M7
def l_X11_awake_30 (M : gs_M) (x1 : Int32) (x2 : Int32) : Nat → Int32 → Int32 → Option (Int32 × Int32)
  | 0, _, _ => none
  | f + 1, x3, x4 =>
    if (9 : Int32) < x4 then
    some (x3, x4)
    else
    gs_b1 (gs_rd M 146 10 x4) fun v2 =>
    l_X11_awake_30 M x1 x2 f (x3 + v2) (x4 + (1 : Int32))
def f_X11_awake (M : gs_M) (x1 : Int32) (x2 : Int32) : Option (Int32 × gs_M) :=
  gs_b1 (f_X11_isPerson M x1) fun v1 =>
  if v1 = (0 : Int32) then
  some ((-1 : Int32), M)
  else
  if x2 < (0 : Int32) then
  some ((-1 : Int32), M)
  else
  if x2 ≤ (9 : Int32) then
  gs_b1 (f_X11_sharePartsOf M x1) fun M6 =>
  gs_b2 (l_X11_awake_30 M6 x1 x2 gs_FU (0 : Int32) x2) fun y8 y9 =>
  some (y8, M6)
  else
  some ((-1 : Int32), M)
def f_X6_copyFrom (M : gs_M) (r0 : Nat) (r1 : Nat) : Option (gs_M) :=
  gs_b1 (gs_cpy M (r1 + 1) 173 (0 : Int32) (r0 + 1) 173 (0 : Int32) (173 : Int32)) fun M2 =>
  some M2
def f_X0_forget (M : gs_M) : Option (gs_M) :=
  gs_b1 (some (gs_up M 13 2 (0 : Int32))) fun M2 =>
  some M2
def f_X6_now (M : gs_M) : Option (Int32) :=
  gs_b1 (gs_rd M 10 173 (48 : Int32)) fun v1 =>
  some v1
def f_X11_back (M : gs_M) : Option (Int32 × gs_M) :=
  if (M 0 14) = (0 : Int32) then
  some ((-1 : Int32), M)
  else
  gs_b1 (f_X6_copyFrom M 9 11) fun M2 =>
  gs_b1 (f_X0_forget M2) fun M4 =>
  gs_b1 (f_X6_now M4) fun v6 =>
  some (v6, M4)
def f_X11_hasTown (M : gs_M) : Option (Int32) :=
  gs_b1 (f_X9_crowd M) fun v1 =>
  gs_b1 (gs_ckZ (if v1 ≤ (0 : Int32) then (0 : Int32) else (1 : Int32) : Int32)) fun z3 =>
  some z3
def f_X4_laws (M : gs_M) : Option (Int32) :=
  some (M 105 4)
def f_X6_books (M : gs_M) : Option (Int32) :=
  gs_b1 (gs_rd M 10 173 (51 : Int32)) fun v1 =>
  some v1
def f_X6_bookAt (M : gs_M) (x1 : Int32) : Option (Int32) :=
  gs_b1 (gs_rd M 10 173 ((53 : Int32) + x1)) fun v1 =>
  some v1
def f_X6_personOf (x0 : Int32) : Option (Int32) :=
  some ((x0 >>> ((14 : Int32) &&& 31)) &&& (7 : Int32))
def l_X6_booksOf_4 (M : gs_M) (x1 : Int32) : Nat → Int32 → Int32 → Option (Int32 × Int32)
  | 0, _, _ => none
  | f + 1, x2, x3 =>
    gs_b1 (f_X6_books M) fun v1 =>
    if v1 ≤ x3 then
    some (x2, x3)
    else
    gs_b1 (f_X6_bookAt M x3) fun v4 =>
    gs_b1 (f_X6_personOf v4) fun v6 =>
    l_X6_booksOf_4 M x1 f (x2 + (if v6 = x1 then (1 : Int32) else (0 : Int32) : Int32)) (x3 + (1 : Int32))
def f_X6_booksOf (M : gs_M) (x1 : Int32) : Option (Int32) :=
  gs_b2 (l_X6_booksOf_4 M x1 gs_FU (0 : Int32) (0 : Int32)) fun y1 y2 =>
  some y1
def f_X6_hourOf (x0 : Int32) : Option (Int32) :=
  some ((x0 >>> ((10 : Int32) &&& 31)) &&& (15 : Int32))
def f_X6_lampOf (x0 : Int32) : Option (Int32) :=
  some ((x0 >>> ((17 : Int32) &&& 31)) &&& (1 : Int32))
def f_X6_tiredOf (x0 : Int32) : Option (Int32) :=
  some ((x0 >>> ((18 : Int32) &&& 31)) &&& (15 : Int32))
def f_X4_pointsBy (M : gs_M) (x1 : Int32) (x2 : Int32) (x3 : Int32) (x4 : Int32) (x5 : Int32) : Option (Int32 × gs_M) :=
  gs_b1 (f_X4_has M x1) fun v1 =>
  if v1 = (0 : Int32) then
  some ((if x4 = (0 : Int32) then (1 : Int32) else (-1 : Int32) : Int32), M)
  else
  gs_b1 (f_X6_of M x2 (0 : Int32)) fun v4 =>
  gs_b1 (f_X9_told M x2 (1 : Int32)) fun v6 =>
  gs_b1 (f_X6_of M x2 (1 : Int32)) fun v8 =>
  gs_b1 (f_X4_spell M v4 v6 v8 x5 x3 x4) fun M10 =>
  gs_b1 (gs_rdq 106 4 x1) fun r12 =>
  gs_b2 (f_X2_worth M10 r12 (118 : Int32)) fun v14 M15 =>
  some ((if (-9 : Int32) < (if (9 : Int32) < v14 then (9 : Int32) else v14 : Int32) then (if (9 : Int32) < v14 then (9 : Int32) else v14 : Int32) else (-9 : Int32) : Int32), M15)
def l_X4_caseOf_5 (x1 : Int32) (x2 : Int32) : Nat → Int32 → Int32 → gs_M → Option (Int32 × Int32 × gs_M)
  | 0, _, _, _ => none
  | f + 1, x3, x4, M =>
    gs_b1 (f_X6_books M) fun v1 =>
    if v1 ≤ x4 then
    some (x3, x4, M)
    else
    gs_b1 (f_X6_bookAt M x4) fun v4 =>
    gs_b1 (f_X6_personOf v4) fun v6 =>
    gs_b2 (if v6 = x1 then
    gs_b1 (f_X6_hourOf v4) fun v13 =>
    gs_b1 (f_X6_lampOf v4) fun v15 =>
    gs_b1 (f_X6_tiredOf v4) fun v17 =>
    gs_b2 (f_X4_pointsBy M x2 x1 v13 v15 v17) fun v19 M20 =>
    some (x3 + v19, M20)
    else
    some (x3, M)) fun y8 M9 =>
    l_X4_caseOf_5 x1 x2 f y8 (x4 + (1 : Int32)) M9
def f_X4_caseOf (M : gs_M) (x1 : Int32) (x2 : Int32) : Option (Int32 × gs_M) :=
  gs_b3 (l_X4_caseOf_5 x1 x2 gs_FU (0 : Int32) (0 : Int32) M) fun y1 y2 M3 =>
  some (y1, M3)
def f_X11_wouldBeGuilty (M : gs_M) (x1 : Int32) (x2 : Int32) : Option (Int32 × gs_M) :=
  gs_b2 (f_X4_caseOf M x1 x2) fun v1 M2 =>
  gs_b1 (f_X9_ruled M2 (1 : Int32)) fun v4 =>
  gs_b1 (gs_ckZ (if v1 < v4 then (0 : Int32) else (1 : Int32) : Int32)) fun z6 =>
  some (z6, M2)
def l_X11_wrongedBy_4 (x1 : Int32) : Nat → Int32 → Int32 → gs_M → Option (Int32 × Int32 × gs_M)
  | 0, _, _, _ => none
  | f + 1, x2, x3, M =>
    gs_b1 (f_X9_crowd M) fun v1 =>
    if v1 ≤ x3 then
    some (x2, x3, M)
    else
    gs_b1 (f_X6_of M x3 (0 : Int32)) fun v4 =>
    gs_b1 (f_X6_booksOf M x3) fun v6 =>
    gs_b2 (if v6 ≤ (0 : Int32) then
    some (x2, M)
    else
    gs_b2 (f_X11_wouldBeGuilty M x3 x1) fun v13 M14 =>
    if (if v4 ≤ (0 : Int32) then (0 : Int32) else (1 : Int32) : Int32) = v13 then
    some (x2, M14)
    else
    some (x2 + (1 : Int32), M14)) fun y8 M9 =>
    l_X11_wrongedBy_4 x1 f y8 (x3 + (1 : Int32)) M9
def f_X11_wrongedBy (M : gs_M) (x1 : Int32) : Option (Int32 × gs_M) :=
  gs_b3 (l_X11_wrongedBy_4 x1 gs_FU (0 : Int32) (0 : Int32) M) fun y1 y2 M3 =>
  some (y1, M3)
def l_X11_better_15  : Nat → Int32 → Int32 → Int32 → gs_M → Option (Int32 × Int32 × Int32 × gs_M)
  | 0, _, _, _, _ => none
  | f + 1, x1, x2, x3, M =>
    gs_b1 (f_X4_laws M) fun v1 =>
    if v1 ≤ x3 then
    some (x1, x2, x3, M)
    else
    gs_b2 (f_X11_wrongedBy M x3) fun v4 M5 =>
    l_X11_better_15  f (if x1 = (-1 : Int32) then x3 else if x2 ≤ v4 then x1 else x3 : Int32) (if x1 = (-1 : Int32) then v4 else if x2 ≤ v4 then x2 else v4 : Int32) (x3 + (1 : Int32)) M5
def f_X11_better (M : gs_M) : Option (Int32 × gs_M) :=
  gs_b1 (f_X11_hasTown M) fun v1 =>
  if v1 = (0 : Int32) then
  some ((-1 : Int32), M)
  else
  gs_b4 (l_X11_better_15 gs_FU (-1 : Int32) (0 : Int32) (0 : Int32) M) fun y4 y5 y6 M7 =>
  some (y4, M7)
def f_X6_nightOf (x0 : Int32) : Option (Int32) :=
  some (x0 &&& (1023 : Int32))
def f_X11_book (M : gs_M) (x1 : Int32) (x2 : Int32) : Option (Int32) :=
  if x1 < (0 : Int32) then
  some (-1 : Int32)
  else
  gs_b1 (f_X6_books M) fun v2 =>
  if x1 < v2 then
  gs_b1 (f_X6_books M) fun v5 =>
  gs_b1 (f_X6_bookAt M ((v5 - (1 : Int32)) - x1)) fun v7 =>
  if x2 = (0 : Int32) then
  gs_b1 (f_X6_nightOf v7) fun v10 =>
  some v10
  else
  if x2 = (1 : Int32) then
  gs_b1 (f_X6_hourOf v7) fun v13 =>
  some v13
  else
  if x2 = (2 : Int32) then
  gs_b1 (f_X6_personOf v7) fun v16 =>
  some v16
  else
  if x2 = (3 : Int32) then
  gs_b1 (f_X6_lampOf v7) fun v19 =>
  some v19
  else
  if x2 = (4 : Int32) then
  gs_b1 (f_X6_tiredOf v7) fun v22 =>
  some v22
  else
  some (-1 : Int32)
  else
  some (-1 : Int32)
def f_X4_holding (M : gs_M) : Option (Int32) :=
  some (M 105 5)
def f_X4_pointsNow (M : gs_M) (x1 : Int32) (x2 : Int32) (x3 : Int32) : Option (Int32 × gs_M) :=
  gs_b1 (f_X6_of M x1 (2 : Int32)) fun v1 =>
  gs_b2 (f_X4_pointsBy M (M 105 5) x1 x2 x3 v1) fun v3 M4 =>
  some (v3, M4)
def l_X11_lacking_30 (M : gs_M) (x1 : Int32) (x2 : Int32) (x3 : Int32) : Nat → Int32 → Option (Int32 × gs_M)
  | 0, _ => none
  | f + 1, x4 =>
    if (99 : Int32) < x4 then
    some ((-1 : Int32), M)
    else
    gs_b1 (f_X9_ruled M (1 : Int32)) fun v2 =>
    if (x2 + (x4 * x3)) < v2 then
    l_X11_lacking_30 M x1 x2 x3 f (x4 + (1 : Int32))
    else
    some (x4, M)
def f_X11_lacking (M : gs_M) (x1 : Int32) : Option (Int32 × gs_M) :=
  gs_b1 (f_X4_holding M) fun v1 =>
  gs_b2 (f_X4_caseOf M x1 v1) fun v3 M4 =>
  gs_b2 (f_X4_pointsNow M4 x1 (0 : Int32) (0 : Int32)) fun v6 M7 =>
  l_X11_lacking_30 M7 x1 v3 v6 gs_FU (0 : Int32)
def f_X11_booked (M : gs_M) (x1 : Int32) (x2 : Int32) : Option (Int32 × gs_M) :=
  gs_b1 (f_X11_isPerson M x1) fun v1 =>
  if v1 = (0 : Int32) then
  some ((-1 : Int32), M)
  else
  if x2 < (0 : Int32) then
  some ((-1 : Int32), M)
  else
  if x2 ≤ (1 : Int32) then
  gs_b2 (if x2 = (0 : Int32) then
  gs_b1 (f_X6_booksOf M x1) fun v14 =>
  some (v14, M)
  else
  gs_b2 (f_X11_lacking M x1) fun v11 M12 =>
  some (v11, M12)) fun y6 M7 =>
  some (y6, M7)
  else
  some ((-1 : Int32), M)
def l_X1_light_12 (x1 : Int32) : Nat → Int32 → gs_M → Option (Int32 × gs_M)
  | 0, _, _ => none
  | f + 1, x2, M =>
    gs_b1 (f_X9_hours M) fun v1 =>
    if v1 ≤ x2 then
    some (x2, M)
    else
    gs_b2 (f_X4_wakesNow M x1 x2) fun v4 M5 =>
    gs_b1 (gs_wr M5 139 9 x2 v4) fun M8 =>
    gs_b1 (gs_rd M8 139 9 x2) fun v9 =>
    gs_b1 (some (gs_up M8 134 8 ((M8 134 8) ||| (if v9 = (10 : Int32) then ((1 : Int32) <<< (x2 &&& 31)) else (0 : Int32) : Int32)))) fun M12 =>
    gs_b1 (gs_rd M12 139 9 x2) fun v13 =>
    gs_b1 (some (gs_up M12 134 9 ((M12 134 9) ||| (if v13 = (0 : Int32) then ((1 : Int32) <<< (x2 &&& 31)) else (0 : Int32) : Int32)))) fun M16 =>
    l_X1_light_12 x1 f (x2 + (1 : Int32)) M16
def l_X1_light_98 (x1 : Int32) : Nat → Int32 → gs_M → Option (Int32 × gs_M)
  | 0, _, _ => none
  | f + 1, x2, M =>
    if (M 134 7) ≤ x2 then
    some (x2, M)
    else
    gs_b1 (gs_rd M 135 12 x2) fun v2 =>
    gs_b1 (if v2 = x1 then
    gs_b1 (gs_rd M 137 12 x2) fun v8 =>
    gs_b1 (if v8 = (0 : Int32) then
    some ((0 : Int32))
    else
    gs_b1 (gs_rd M 136 12 x2) fun v14 =>
    some ((1 : Int32) <<< (v14 &&& 31))) fun y10 =>
    gs_b1 (some (gs_up M 134 8 ((M 134 8) ||| y10))) fun M17 =>
    gs_b1 (gs_rd M17 137 12 x2) fun v18 =>
    gs_b1 (if v18 = (0 : Int32) then
    gs_b1 (gs_rd M17 136 12 x2) fun v24 =>
    some ((1 : Int32) <<< (v24 &&& 31))
    else
    some ((0 : Int32))) fun y20 =>
    gs_b1 (some (gs_up M17 134 9 ((M17 134 9) ||| y20))) fun M27 =>
    some (M27)
    else
    some (M)) fun M4 =>
    l_X1_light_98 x1 f (x2 + (1 : Int32)) M4
def f_X1_light (M : gs_M) (x1 : Int32) : Option (gs_M) :=
  gs_b1 (some (gs_up M 134 8 (0 : Int32))) fun M2 =>
  gs_b1 (some (gs_up M2 134 9 (0 : Int32))) fun M4 =>
  gs_b2 (l_X1_light_12 x1 gs_FU (0 : Int32) M4) fun y5 M6 =>
  gs_b2 (l_X1_light_98 x1 gs_FU (0 : Int32) M6) fun y8 M9 =>
  some M9
def f_J6_bitCount_0f7a4 (x0 : Int32) : Option (Int32) :=
  some ((((((((x0 - (((Int32.toUInt32 x0 >>> (Int32.toUInt32 (1 : Int32) &&& Int32.toUInt32 31)).toInt32) &&& (1431655765 : Int32))) &&& (858993459 : Int32)) + (((Int32.toUInt32 (x0 - (((Int32.toUInt32 x0 >>> (Int32.toUInt32 (1 : Int32) &&& Int32.toUInt32 31)).toInt32) &&& (1431655765 : Int32))) >>> (Int32.toUInt32 (2 : Int32) &&& Int32.toUInt32 31)).toInt32) &&& (858993459 : Int32))) + ((Int32.toUInt32 (((x0 - (((Int32.toUInt32 x0 >>> (Int32.toUInt32 (1 : Int32) &&& Int32.toUInt32 31)).toInt32) &&& (1431655765 : Int32))) &&& (858993459 : Int32)) + (((Int32.toUInt32 (x0 - (((Int32.toUInt32 x0 >>> (Int32.toUInt32 (1 : Int32) &&& Int32.toUInt32 31)).toInt32) &&& (1431655765 : Int32))) >>> (Int32.toUInt32 (2 : Int32) &&& Int32.toUInt32 31)).toInt32) &&& (858993459 : Int32))) >>> (Int32.toUInt32 (4 : Int32) &&& Int32.toUInt32 31)).toInt32)) &&& (252645135 : Int32)) + ((Int32.toUInt32 (((((x0 - (((Int32.toUInt32 x0 >>> (Int32.toUInt32 (1 : Int32) &&& Int32.toUInt32 31)).toInt32) &&& (1431655765 : Int32))) &&& (858993459 : Int32)) + (((Int32.toUInt32 (x0 - (((Int32.toUInt32 x0 >>> (Int32.toUInt32 (1 : Int32) &&& Int32.toUInt32 31)).toInt32) &&& (1431655765 : Int32))) >>> (Int32.toUInt32 (2 : Int32) &&& Int32.toUInt32 31)).toInt32) &&& (858993459 : Int32))) + ((Int32.toUInt32 (((x0 - (((Int32.toUInt32 x0 >>> (Int32.toUInt32 (1 : Int32) &&& Int32.toUInt32 31)).toInt32) &&& (1431655765 : Int32))) &&& (858993459 : Int32)) + (((Int32.toUInt32 (x0 - (((Int32.toUInt32 x0 >>> (Int32.toUInt32 (1 : Int32) &&& Int32.toUInt32 31)).toInt32) &&& (1431655765 : Int32))) >>> (Int32.toUInt32 (2 : Int32) &&& Int32.toUInt32 31)).toInt32) &&& (858993459 : Int32))) >>> (Int32.toUInt32 (4 : Int32) &&& Int32.toUInt32 31)).toInt32)) &&& (252645135 : Int32)) >>> (Int32.toUInt32 (8 : Int32) &&& Int32.toUInt32 31)).toInt32)) + ((Int32.toUInt32 ((((((x0 - (((Int32.toUInt32 x0 >>> (Int32.toUInt32 (1 : Int32) &&& Int32.toUInt32 31)).toInt32) &&& (1431655765 : Int32))) &&& (858993459 : Int32)) + (((Int32.toUInt32 (x0 - (((Int32.toUInt32 x0 >>> (Int32.toUInt32 (1 : Int32) &&& Int32.toUInt32 31)).toInt32) &&& (1431655765 : Int32))) >>> (Int32.toUInt32 (2 : Int32) &&& Int32.toUInt32 31)).toInt32) &&& (858993459 : Int32))) + ((Int32.toUInt32 (((x0 - (((Int32.toUInt32 x0 >>> (Int32.toUInt32 (1 : Int32) &&& Int32.toUInt32 31)).toInt32) &&& (1431655765 : Int32))) &&& (858993459 : Int32)) + (((Int32.toUInt32 (x0 - (((Int32.toUInt32 x0 >>> (Int32.toUInt32 (1 : Int32) &&& Int32.toUInt32 31)).toInt32) &&& (1431655765 : Int32))) >>> (Int32.toUInt32 (2 : Int32) &&& Int32.toUInt32 31)).toInt32) &&& (858993459 : Int32))) >>> (Int32.toUInt32 (4 : Int32) &&& Int32.toUInt32 31)).toInt32)) &&& (252645135 : Int32)) + ((Int32.toUInt32 (((((x0 - (((Int32.toUInt32 x0 >>> (Int32.toUInt32 (1 : Int32) &&& Int32.toUInt32 31)).toInt32) &&& (1431655765 : Int32))) &&& (858993459 : Int32)) + (((Int32.toUInt32 (x0 - (((Int32.toUInt32 x0 >>> (Int32.toUInt32 (1 : Int32) &&& Int32.toUInt32 31)).toInt32) &&& (1431655765 : Int32))) >>> (Int32.toUInt32 (2 : Int32) &&& Int32.toUInt32 31)).toInt32) &&& (858993459 : Int32))) + ((Int32.toUInt32 (((x0 - (((Int32.toUInt32 x0 >>> (Int32.toUInt32 (1 : Int32) &&& Int32.toUInt32 31)).toInt32) &&& (1431655765 : Int32))) &&& (858993459 : Int32)) + (((Int32.toUInt32 (x0 - (((Int32.toUInt32 x0 >>> (Int32.toUInt32 (1 : Int32) &&& Int32.toUInt32 31)).toInt32) &&& (1431655765 : Int32))) >>> (Int32.toUInt32 (2 : Int32) &&& Int32.toUInt32 31)).toInt32) &&& (858993459 : Int32))) >>> (Int32.toUInt32 (4 : Int32) &&& Int32.toUInt32 31)).toInt32)) &&& (252645135 : Int32)) >>> (Int32.toUInt32 (8 : Int32) &&& Int32.toUInt32 31)).toInt32)) >>> (Int32.toUInt32 (16 : Int32) &&& Int32.toUInt32 31)).toInt32)) &&& (63 : Int32))
def f_X1_canBurn (M : gs_M) (x1 : Int32) (x2 : Int32) : Option (Int32) :=
  gs_b1 (f_J6_bitCount_0f7a4 x1) fun v1 =>
  gs_b1 (gs_ckZ (if v1 = x2 then if (x1 &&& (M 134 8)) = (M 134 8) then if (x1 &&& (M 134 9)) = (0 : Int32) then (1 : Int32) else (0 : Int32) else (0 : Int32) else (0 : Int32) : Int32)) fun z3 =>
  some z3
def l_X11_candle_39 (M : gs_M) (x1 : Int32) (x2 : Int32) (x3 : Int32) : Nat → Int32 → Int32 → Option (Int32 × gs_M)
  | 0, _, _ => none
  | f + 1, x4, x5 =>
    gs_b1 (f_X9_hours M) fun v1 =>
    if ((1 : Int32) <<< (v1 &&& 31)) ≤ x5 then
    some ((if x3 = (-1 : Int32) then x4 else (-1 : Int32) : Int32), M)
    else
    gs_b1 (f_X1_canBurn M x5 x2) fun v6 =>
    if v6 = (0 : Int32) then
    l_X11_candle_39 M x1 x2 x3 f x4 (x5 + (1 : Int32))
    else
    if x4 = x3 then
    some (x5, M)
    else
    l_X11_candle_39 M x1 x2 x3 f (x4 + (1 : Int32)) (x5 + (1 : Int32))
def f_X11_candle (M : gs_M) (x1 : Int32) (x2 : Int32) (x3 : Int32) : Option (Int32 × gs_M) :=
  gs_b1 (f_X11_isPerson M x1) fun v1 =>
  if v1 = (0 : Int32) then
  some ((-1 : Int32), M)
  else
  if x2 < (0 : Int32) then
  some ((-1 : Int32), M)
  else
  if (9 : Int32) < x2 then
  some ((-1 : Int32), M)
  else
  if (-1 : Int32) ≤ x3 then
  gs_b1 (f_X1_light M x1) fun M7 =>
  l_X11_candle_39 M7 x1 x2 x3 gs_FU (0 : Int32) (0 : Int32)
  else
  some ((-1 : Int32), M)
def f_X0_keep (M : gs_M) : Option (gs_M) :=
  gs_b1 (gs_rdq 14 40 (M 13 1)) fun r1 =>
  gs_b1 (f_X6_copyFrom M r1 9) fun M3 =>
  gs_b1 (gs_rm9 ((M3 13 1) + (1 : Int32)) (40 : Int32)) fun v5 =>
  gs_b1 (some (gs_up M3 13 1 v5)) fun M8 =>
  gs_b1 (some (gs_up M8 13 2 (if (40 : Int32) < ((M8 13 2) + (1 : Int32)) then (40 : Int32) else ((M8 13 2) + (1 : Int32)) : Int32))) fun M10 =>
  some M10
def f_X6_set (M : gs_M) (x1 : Int32) (x2 : Int32) (x3 : Int32) : Option (gs_M) :=
  gs_b1 (gs_wr M 10 173 ((x1 * (6 : Int32)) + x2) x3) fun M2 =>
  some M2
def f_X11_onceAhead (M : gs_M) (x1 : Int32) (x2 : Int32) : Option (Int32 × gs_M) :=
  gs_b1 (f_X11_isPerson M x1) fun v1 =>
  if v1 = (0 : Int32) then
  some ((0 : Int32), M)
  else
  gs_b1 (f_X6_of M x1 x2) fun v4 =>
  if v4 = (0 : Int32) then
  gs_b1 (f_X0_keep M) fun M7 =>
  gs_b1 (f_X6_set M7 x1 x2 (1 : Int32)) fun M9 =>
  some ((1 : Int32), M9)
  else
  some ((0 : Int32), M)
def f_X11_coffee (M : gs_M) (x1 : Int32) : Option (Int32 × gs_M) :=
  gs_b2 (f_X11_onceAhead M x1 (3 : Int32)) fun v1 M2 =>
  gs_b1 (gs_ckZ v1) fun z4 =>
  some (z4, M2)
def f_X10_many (M : gs_M) : Option (Int32) :=
  some (M 95 2)
def f_X7_size (M : gs_M) : Option (Int32) :=
  some (M 1 1)
def f_X10_holding (M : gs_M) : Option (Int32) :=
  some (M 95 3)
def f_X6_rights (M : gs_M) : Option (Int32) :=
  gs_b1 (gs_rd M 10 173 (49 : Int32)) fun v1 =>
  some v1
def f_X6_wrongs (M : gs_M) : Option (Int32) :=
  gs_b1 (gs_rd M 10 173 (50 : Int32)) fun v1 =>
  some v1
def f_X1_many (M : gs_M) : Option (Int32) :=
  some (M 134 7)
def f_X6_logs (M : gs_M) : Option (Int32) :=
  gs_b1 (gs_rd M 10 173 (52 : Int32)) fun v1 =>
  some v1
def f_X0_many (M : gs_M) : Option (Int32) :=
  some (M 13 2)
def f_X11_count (M : gs_M) (x1 : Int32) : Option (Int32) :=
  if x1 = (0 : Int32) then
  gs_b1 (f_X9_crowd M) fun v2 =>
  some v2
  else
  if x1 = (1 : Int32) then
  gs_b1 (f_X4_laws M) fun v5 =>
  some v5
  else
  if x1 = (2 : Int32) then
  gs_b1 (f_X10_many M) fun v8 =>
  some v8
  else
  if x1 = (3 : Int32) then
  gs_b1 (f_X7_size M) fun v11 =>
  some v11
  else
  if x1 = (4 : Int32) then
  gs_b1 (f_X4_holding M) fun v14 =>
  some v14
  else
  if x1 = (5 : Int32) then
  gs_b1 (f_X10_holding M) fun v17 =>
  some v17
  else
  if x1 = (6 : Int32) then
  gs_b1 (f_X6_now M) fun v20 =>
  some v20
  else
  if x1 = (7 : Int32) then
  gs_b1 (f_X6_rights M) fun v23 =>
  some v23
  else
  if x1 = (8 : Int32) then
  gs_b1 (f_X6_wrongs M) fun v26 =>
  some v26
  else
  if x1 = (9 : Int32) then
  some (M 0 15)
  else
  if x1 = (10 : Int32) then
  gs_b1 (f_X1_many M) fun v30 =>
  some v30
  else
  if x1 = (11 : Int32) then
  gs_b1 (f_X6_books M) fun v33 =>
  some v33
  else
  if x1 = (12 : Int32) then
  gs_b1 (f_X6_logs M) fun v36 =>
  some v36
  else
  if x1 = (13 : Int32) then
  gs_b1 (f_X0_many M) fun v39 =>
  some v39
  else
  some (-1000000 : Int32)
def f_X9_spouse (M : gs_M) (x1 : Int32) : Option (Int32) :=
  gs_b1 (gs_rd M 5 40 ((x1 * (5 : Int32)) + (4 : Int32))) fun v1 =>
  some (if (M 3 2) ≤ v1 then (-1 : Int32) else v1 : Int32)
def f_X11_isMarried (M : gs_M) (x1 : Int32) : Option (Int32) :=
  gs_b1 (f_X11_isPerson M x1) fun v1 =>
  gs_b1 (if v1 = (0 : Int32) then
  some ((0 : Int32))
  else
  gs_b1 (f_X9_spouse M x1) fun v7 =>
  if v7 = (-1 : Int32) then
  some ((0 : Int32))
  else
  some ((1 : Int32))) fun y3 =>
  gs_b1 (gs_ckZ y3) fun z10 =>
  some z10
def f_X11_isBit (x0 : Int32) : Option (Int32) :=
  gs_b1 (gs_ckZ (if x0 = (0 : Int32) then (1 : Int32) else if x0 = (1 : Int32) then (1 : Int32) else (0 : Int32) : Int32)) fun z1 =>
  some z1
def f_X11_share (x0 : Int32) (x1 : Int32) (x2 : Int32) : Option (Int32) :=
  gs_b1 (gs_dv (if x0 < (0 : Int32) then (0 : Int32) else x0 : Int32) (2 : Int32)) fun v1 =>
  if x2 = (1 : Int32) then
  some ((-v1) - (4 : Int32))
  else
  some (if x1 = (1 : Int32) then ((-v1) + (2 : Int32)) else ((-v1) + (1 : Int32)) : Int32)
def f_X11_couple (M : gs_M) (x1 : Int32) (x2 : Int32) (x3 : Int32) (x4 : Int32) : Option (Int32 × gs_M) :=
  gs_b1 (f_X11_isMarried M x1) fun v1 =>
  if v1 = (0 : Int32) then
  some ((-1000000 : Int32), M)
  else
  gs_b1 (f_X11_isBit x2) fun v4 =>
  if v4 = (0 : Int32) then
  some ((-1000000 : Int32), M)
  else
  gs_b1 (f_X11_isBit x3) fun v7 =>
  if v7 = (0 : Int32) then
  some ((-1000000 : Int32), M)
  else
  gs_b1 (f_X11_isBit x4) fun v10 =>
  if v10 = (0 : Int32) then
  some ((-1000000 : Int32), M)
  else
  gs_b1 (if x4 = (0 : Int32) then
  some (x1)
  else
  gs_b1 (f_X9_spouse M x1) fun v17 =>
  some (v17)) fun y13 =>
  gs_b1 (f_X4_holding M) fun v19 =>
  gs_b2 (f_X4_caseOf M y13 v19) fun v21 M22 =>
  gs_b1 (if x4 = (0 : Int32) then
  gs_b1 (f_X11_share v21 x2 x3) fun v30 =>
  some (v30)
  else
  gs_b1 (f_X11_share v21 x3 x2) fun v28 =>
  some (v28)) fun y24 =>
  some (y24, M22)
def f_X11_isHour (M : gs_M) (x1 : Int32) : Option (Int32) :=
  gs_b1 (if x1 < (0 : Int32) then
  some ((0 : Int32))
  else
  gs_b1 (f_X9_hours M) fun v5 =>
  if v5 ≤ x1 then
  some ((0 : Int32))
  else
  some ((1 : Int32))) fun y1 =>
  gs_b1 (gs_ckZ y1) fun z8 =>
  some z8
def l_X11_cries_21 (x1 : Int32) : Nat → Int32 → Int32 → gs_M → Option (Int32 × Int32 × gs_M)
  | 0, _, _, _ => none
  | f + 1, x2, x3, M =>
    gs_b1 (f_X9_crowd M) fun v1 =>
    if v1 ≤ x3 then
    some (x2, x3, M)
    else
    gs_b2 (f_X4_wakesNow M x3 x1) fun v4 M5 =>
    l_X11_cries_21 x1 f (x2 + v4) (x3 + (1 : Int32)) M5
def f_X11_cries (M : gs_M) (x1 : Int32) : Option (Int32 × gs_M) :=
  gs_b1 (f_X11_hasTown M) fun v1 =>
  if v1 = (0 : Int32) then
  some ((-1 : Int32), M)
  else
  gs_b1 (f_X11_isHour M x1) fun v4 =>
  if v4 = (0 : Int32) then
  some ((-1 : Int32), M)
  else
  gs_b3 (l_X11_cries_21 x1 gs_FU (0 : Int32) (0 : Int32) M) fun y7 y8 M9 =>
  some (y7, M9)
def f_X11_crimes (M : gs_M) (x1 : Int32) : Option (Int32 × gs_M) :=
  if x1 < (0 : Int32) then
  some ((0 : Int32), M)
  else
  if (9 : Int32) < x1 then
  some ((0 : Int32), M)
  else
  if x1 = (M 0 15) then
  some ((0 : Int32), M)
  else
  gs_b1 (some (gs_up M 0 15 x1)) fun M5 =>
  some ((1 : Int32), M5)
def f_X11_deed (M : gs_M) (x1 : Int32) (x2 : Int32) : Option (Int32 × gs_M) :=
  gs_b1 (f_X11_isPerson M x1) fun v1 =>
  if v1 = (0 : Int32) then
  some ((-1 : Int32), M)
  else
  if x2 < (-9 : Int32) then
  some ((-1 : Int32), M)
  else
  if (9 : Int32) < x2 then
  some ((-1 : Int32), M)
  else
  if x2 = (0 : Int32) then
  some ((-1 : Int32), M)
  else
  gs_b1 (f_X6_of M x1 (0 : Int32)) fun v7 =>
  if (v7 + x2) < (0 : Int32) then
  some ((-1 : Int32), M)
  else
  if (v7 + x2) ≤ (9 : Int32) then
  gs_b1 (f_X0_keep M) fun M11 =>
  gs_b1 (f_X6_set M11 x1 (0 : Int32) (v7 + x2)) fun M13 =>
  some (v7 + x2, M13)
  else
  some ((-1 : Int32), M)
def f_X7_keep (M : gs_M) (x1 : Int32) : Option (Int32 × gs_M) :=
  if x1 < (0 : Int32) then
  some ((0 : Int32), M)
  else
  if x1 ≤ (M 1 1) then
  gs_b1 (some (gs_up M 1 1 x1)) fun M4 =>
  some ((1 : Int32), M4)
  else
  some ((0 : Int32), M)
def f_X11_end (M : gs_M) (x1 : Int32) : Option (Int32 × gs_M) :=
  gs_b2 (f_X7_keep M x1) fun v1 M2 =>
  gs_b1 (gs_ckZ v1) fun z4 =>
  some (z4, M2)
def f_X7_rewind (M : gs_M) : Option (gs_M) :=
  gs_b1 (some (gs_up M 1 2 (0 : Int32))) fun M2 =>
  gs_b1 (some (gs_up M2 1 3 (-1 : Int32))) fun M4 =>
  some M4
def l_X7_look_0  : Nat → gs_M → Option (gs_M)
  | 0, _ => none
  | f + 1, M =>
    if (M 1 1) ≤ (M 1 2) then
    some (M)
    else
    gs_b1 (gs_rd M 2 240 (M 1 2)) fun v2 =>
    if v2 = (32 : Int32) then
    gs_b1 (some (gs_up M 1 2 ((M 1 2) + (1 : Int32)))) fun M6 =>
    l_X7_look_0  f M6
    else
    some (M)
def f_X7_look (M : gs_M) : Option (Int32 × gs_M) :=
  gs_b1 (l_X7_look_0 gs_FU M) fun M1 =>
  gs_b1 (if (M1 1 1) ≤ (M1 1 2) then
  some ((-1 : Int32))
  else
  gs_b1 (gs_rd M1 2 240 (M1 1 2)) fun v7 =>
  some (v7)) fun y3 =>
  some (y3, M1)
def f_X7_fail (M : gs_M) : Option (Int32 × gs_M) :=
  gs_b1 (if (M 1 3) = (-1 : Int32) then
  gs_b1 (some (gs_up M 1 3 (M 1 2))) fun M6 =>
  some (M6)
  else
  some (M)) fun M1 =>
  some ((0 : Int32), M1)
def f_X7_step (M : gs_M) : Option (gs_M) :=
  gs_b1 (if (M 1 1) ≤ (M 1 2) then
  some (M)
  else
  gs_b1 (some (gs_up M 1 2 ((M 1 2) + (1 : Int32)))) fun M6 =>
  some (M6)) fun M1 =>
  some M1
def f_X9_endsClause (M : gs_M) : Option (Int32 × gs_M) :=
  gs_b2 (f_X7_look M) fun v1 M2 =>
  gs_b2 (if v1 = (59 : Int32) then
  some ((1 : Int32), M2)
  else
  if v1 = (-1 : Int32) then
  some ((1 : Int32), M2)
  else
  gs_b2 (f_X7_fail M2) fun v10 M11 =>
  if v10 = (0 : Int32) then
  some ((0 : Int32), M11)
  else
  some ((1 : Int32), M11)) fun y4 M5 =>
  gs_b1 (gs_ckZ y4) fun z14 =>
  some (z14, M5)
def f_X9_letterAt (M : gs_M) : Option (Int32 × gs_M) :=
  gs_b2 (f_X7_look M) fun v1 M2 =>
  some ((if v1 = (-1 : Int32) then (-1 : Int32) else (gs_spot 1 ((Int32.toUInt32 v1 % 65536).toInt32)) : Int32), M2)
def f_X7_isDigit (x0 : Int32) : Option (Int32) :=
  gs_b1 (gs_ckZ (if x0 < (48 : Int32) then (0 : Int32) else if (57 : Int32) < x0 then (0 : Int32) else (1 : Int32) : Int32)) fun z1 =>
  some z1
def l_X7_number_21 (x1 : Int32) : Nat → Int32 → Int32 → gs_M → Option (Int32 × Int32 × gs_M)
  | 0, _, _, _ => none
  | f + 1, x2, x3, M =>
    if x1 ≤ x3 then
    some (x2, x3, M)
    else
    if (M 1 1) ≤ (M 1 2) then
    some (x2, x3, M)
    else
    gs_b1 (gs_rd M 2 240 (M 1 2)) fun v3 =>
    gs_b1 (f_X7_isDigit v3) fun v5 =>
    if v5 = (0 : Int32) then
    some (x2, x3, M)
    else
    gs_b1 (gs_rd M 2 240 (M 1 2)) fun v8 =>
    gs_b1 (some (gs_up M 1 2 ((M 1 2) + (1 : Int32)))) fun M11 =>
    l_X7_number_21 x1 f (((x2 * (10 : Int32)) + v8) - (48 : Int32)) (x3 + (1 : Int32)) M11
def f_X7_number (M : gs_M) (x1 : Int32) : Option (Int32 × gs_M) :=
  gs_b2 (f_X7_look M) fun v1 M2 =>
  gs_b1 (f_X7_isDigit v1) fun v4 =>
  if v4 = (0 : Int32) then
  gs_b2 (f_X7_fail M2) fun v20 M21 =>
  some ((-1 : Int32), M21)
  else
  gs_b3 (l_X7_number_21 x1 gs_FU (0 : Int32) (0 : Int32) M2) fun y7 y8 M9 =>
  if (M9 1 1) ≤ (M9 1 2) then
  some (y7, M9)
  else
  gs_b1 (gs_rd M9 2 240 (M9 1 2)) fun v12 =>
  gs_b1 (f_X7_isDigit v12) fun v14 =>
  if v14 = (0 : Int32) then
  some (y7, M9)
  else
  gs_b2 (f_X7_fail M9) fun v17 M18 =>
  some ((-1 : Int32), M18)
def f_X7_failAtDigit (M : gs_M) : Option (gs_M) :=
  gs_b1 (if (M 1 3) = (-1 : Int32) then
  gs_b1 (some (gs_up M 1 3 (if ((M 1 2) - (1 : Int32)) < (0 : Int32) then (0 : Int32) else ((M 1 2) - (1 : Int32)) : Int32))) fun M6 =>
  some (M6)
  else
  some (M)) fun M1 =>
  some M1
def f_X9_readItem (M : gs_M) (x1 : Int32) (x2 : Int32) : Option (Int32 × gs_M) :=
  gs_b1 (f_X7_step M) fun M1 =>
  gs_b2 (f_X7_number M1 (2 : Int32)) fun v3 M4 =>
  if v3 = (-1 : Int32) then
  some (v3, M4)
  else
  if v3 < x1 then
  gs_b1 (f_X7_failAtDigit M4) fun M8 =>
  some ((-1 : Int32), M8)
  else
  if v3 ≤ x2 then
  some (v3, M4)
  else
  gs_b1 (f_X7_failAtDigit M4) fun M11 =>
  some ((-1 : Int32), M11)
def l_X9_readItems_6 (x5 : Int32) : Nat → Int32 → Int32 → gs_M → Option (Int32 × gs_M)
  | 0, _, _, _ => none
  | f + 1, x6, x7, M =>
    if (gs_ln 1) ≤ x7 then
    gs_b2 (f_X9_endsClause M) fun v2 M3 =>
    gs_b1 (gs_ckZ v2) fun z1 =>
    some (z1, M3)
    else
    gs_b2 (f_X9_letterAt M) fun v5 M6 =>
    if v5 = (-1 : Int32) then
    gs_b2 (f_X9_endsClause M6) fun v9 M10 =>
    gs_b1 (gs_ckZ v9) fun z3 =>
    some (z3, M10)
    else
    if ((x6 >>> (v5 &&& 31)) &&& (1 : Int32)) = (1 : Int32) then
    gs_b2 (f_X9_endsClause M6) fun v23 M24 =>
    gs_b1 (gs_ckZ v23) fun z5 =>
    some (z5, M24)
    else
    gs_b1 (gs_rd (fun _ => gs_sv 3) 0 (gs_sn 3) v5) fun v13 =>
    gs_b1 (gs_rd (fun _ => gs_sv 4) 0 (gs_sn 4) v5) fun v15 =>
    gs_b2 (f_X9_readItem M6 v13 v15) fun v17 M18 =>
    if v17 = (-1 : Int32) then
    some ((0 : Int32), M18)
    else
    gs_b1 (gs_wr M18 8 40 (x5 + v5) v17) fun M22 =>
    l_X9_readItems_6 x5 f (x6 ||| ((1 : Int32) <<< (v5 &&& 31))) (x7 + (1 : Int32)) M22
def f_X9_readItems (M : gs_M) (x5 : Int32) : Option (Int32 × gs_M) :=
  l_X9_readItems_6 x5 gs_FU (0 : Int32) (0 : Int32) M
def f_X9_letterAt_2 (M : gs_M) : Option (Int32 × gs_M) :=
  gs_b2 (f_X7_look M) fun v1 M2 =>
  some ((if v1 = (-1 : Int32) then (-1 : Int32) else (gs_spot 0 ((Int32.toUInt32 v1 % 65536).toInt32)) : Int32), M2)
def l_X9_readItems_2_6 (x5 : Int32) : Nat → Int32 → Int32 → gs_M → Option (Int32 × gs_M)
  | 0, _, _, _ => none
  | f + 1, x6, x7, M =>
    if (gs_ln 0) ≤ x7 then
    gs_b2 (f_X9_endsClause M) fun v2 M3 =>
    gs_b1 (gs_ckZ v2) fun z1 =>
    some (z1, M3)
    else
    gs_b2 (f_X9_letterAt_2 M) fun v5 M6 =>
    if v5 = (-1 : Int32) then
    gs_b2 (f_X9_endsClause M6) fun v9 M10 =>
    gs_b1 (gs_ckZ v9) fun z3 =>
    some (z3, M10)
    else
    if ((x6 >>> (v5 &&& 31)) &&& (1 : Int32)) = (1 : Int32) then
    gs_b2 (f_X9_endsClause M6) fun v23 M24 =>
    gs_b1 (gs_ckZ v23) fun z5 =>
    some (z5, M24)
    else
    gs_b1 (gs_rd (fun _ => gs_sv 0) 0 (gs_sn 0) v5) fun v13 =>
    gs_b1 (gs_rd (fun _ => gs_sv 1) 0 (gs_sn 1) v5) fun v15 =>
    gs_b2 (f_X9_readItem M6 v13 v15) fun v17 M18 =>
    if v17 = (-1 : Int32) then
    some ((0 : Int32), M18)
    else
    gs_b1 (gs_wr M18 7 3 (x5 + v5) v17) fun M22 =>
    l_X9_readItems_2_6 x5 f (x6 ||| ((1 : Int32) <<< (v5 &&& 31))) (x7 + (1 : Int32)) M22
def f_X9_readItems_2 (M : gs_M) (x5 : Int32) : Option (Int32 × gs_M) :=
  l_X9_readItems_2_6 x5 gs_FU (0 : Int32) (0 : Int32) M
def f_X9_readClause (M : gs_M) : Option (Int32 × gs_M) :=
  gs_b2 (f_X7_look M) fun v1 M2 =>
  if v1 = (115 : Int32) then
  if (M2 6 3) = (0 : Int32) then
  gs_b1 (f_X7_step M2) fun M52 =>
  gs_b1 (some (gs_up M52 6 3 (1 : Int32))) fun M55 =>
  gs_b2 (f_X9_readItems_2 M55 (0 : Int32)) fun v56 M57 =>
  gs_b1 (gs_ckZ v56) fun z59 =>
  some (z59, M57)
  else
  if v1 = (112 : Int32) then
  if (8 : Int32) ≤ (M2 6 2) then
  gs_b2 (f_X7_fail M2) fun v36 M37 =>
  gs_b1 (gs_ckZ v36) fun z39 =>
  some (z39, M37)
  else
  gs_b1 (f_X7_step M2) fun M41 =>
  gs_b1 (some (gs_up M41 6 2 ((M41 6 2) + (1 : Int32)))) fun M44 =>
  gs_b1 (gs_cpyX M44 5 (0 : Int32) 8 40 ((M41 6 2) * (5 : Int32)) (5 : Int32)) fun M46 =>
  gs_b2 (f_X9_readItems M46 ((M41 6 2) * (5 : Int32))) fun v47 M48 =>
  gs_b1 (gs_ckZ v47) fun z50 =>
  some (z50, M48)
  else
  gs_b2 (f_X7_fail M2) fun v30 M31 =>
  gs_b1 (gs_ckZ v30) fun z33 =>
  some (z33, M31)
  else
  if v1 = (112 : Int32) then
  if (8 : Int32) ≤ (M2 6 2) then
  gs_b2 (f_X7_fail M2) fun v12 M13 =>
  gs_b1 (gs_ckZ v12) fun z15 =>
  some (z15, M13)
  else
  gs_b1 (f_X7_step M2) fun M17 =>
  gs_b1 (some (gs_up M17 6 2 ((M17 6 2) + (1 : Int32)))) fun M20 =>
  gs_b1 (gs_cpyX M20 5 (0 : Int32) 8 40 ((M17 6 2) * (5 : Int32)) (5 : Int32)) fun M22 =>
  gs_b2 (f_X9_readItems M22 ((M17 6 2) * (5 : Int32))) fun v23 M24 =>
  gs_b1 (gs_ckZ v23) fun z26 =>
  some (z26, M24)
  else
  gs_b2 (f_X7_fail M2) fun v6 M7 =>
  gs_b1 (gs_ckZ v6) fun z9 =>
  some (z9, M7)
def l_X9_couplesAgree_2 (M : gs_M) : Nat → Int32 → Option (Int32)
  | 0, _ => none
  | f + 1, x1 =>
    if (M 6 2) ≤ x1 then
    some (1 : Int32)
    else
    gs_b1 (gs_rd M 8 40 ((x1 * (5 : Int32)) + (4 : Int32))) fun v2 =>
    if v2 = (8 : Int32) then
    l_X9_couplesAgree_2 M f (x1 + (1 : Int32))
    else
    if v2 = x1 then
    some (0 : Int32)
    else
    if (M 6 2) ≤ v2 then
    some (0 : Int32)
    else
    gs_b1 (gs_rd M 8 40 ((v2 * (5 : Int32)) + (4 : Int32))) fun v7 =>
    if v7 = x1 then
    l_X9_couplesAgree_2 M f (x1 + (1 : Int32))
    else
    some (0 : Int32)
def f_X9_couplesAgree (M : gs_M) : Option (Int32) :=
  l_X9_couplesAgree_2 M gs_FU (0 : Int32)
def f_X7_firstFault (M : gs_M) : Option (Int32) :=
  some (M 1 3)
def l_X9_read_35  : Nat → Int32 → Int32 → gs_M → Option (Int32 × Int32 × gs_M)
  | 0, _, _, _ => none
  | f + 1, x2, x3, M =>
    if (240 : Int32) ≤ x3 then
    some (x2, x3, M)
    else
    if x2 = (0 : Int32) then
    some (x2, x3, M)
    else
    gs_b2 (f_X7_look M) fun v3 M4 =>
    if v3 = (59 : Int32) then
    gs_b1 (f_X7_step M4) fun M7 =>
    gs_b2 (f_X9_readClause M7) fun v9 M10 =>
    l_X9_read_35  f v9 (x3 + (1 : Int32)) M10
    else
    some (x2, x3, M4)
def f_X9_read (M : gs_M) : Option (Int32 × gs_M) :=
  gs_b1 (f_X7_rewind M) fun M1 =>
  gs_b1 (some (gs_up M1 6 2 (0 : Int32))) fun M4 =>
  gs_b1 (some (gs_up M4 6 3 (0 : Int32))) fun M6 =>
  gs_b1 (gs_cpyX M6 2 (0 : Int32) 7 3 (0 : Int32) (3 : Int32)) fun M8 =>
  gs_b2 (f_X9_readClause M8) fun v9 M10 =>
  gs_b3 (l_X9_read_35 gs_FU v9 (0 : Int32) M10) fun y12 y13 M14 =>
  gs_b1 (if y12 = (0 : Int32) then
  some (M14)
  else
  gs_b2 (f_X7_look M14) fun v20 M21 =>
  if v20 = (-1 : Int32) then
  if (M21 6 2) = (0 : Int32) then
  gs_b2 (f_X7_fail M21) fun v28 M29 =>
  some (M29)
  else
  gs_b1 (f_X9_couplesAgree M21) fun v31 =>
  if v31 = (0 : Int32) then
  gs_b2 (f_X7_fail M21) fun v34 M35 =>
  some (M35)
  else
  some (M21)
  else
  gs_b2 (f_X7_fail M21) fun v24 M25 =>
  some (M25)) fun M16 =>
  gs_b1 (f_X7_firstFault M16) fun v37 =>
  some (v37, M16)
def f_X2_clear (M : gs_M) (r0 : Nat) : Option (gs_M) :=
  gs_b1 (some (gs_up M r0 5 (0 : Int32))) fun M2 =>
  gs_b1 (some (gs_up M2 r0 6 (0 : Int32))) fun M4 =>
  some M4
def f_X7_take (M : gs_M) (x1 : Int32) : Option (Int32 × gs_M) :=
  gs_b2 (f_X7_look M) fun v1 M2 =>
  if v1 = x1 then
  gs_b1 (f_X7_step M2) fun M5 =>
  some ((1 : Int32), M5)
  else
  gs_b2 (f_X7_fail M2) fun v7 M8 =>
  gs_b1 (gs_ckZ v7) fun z10 =>
  some (z10, M8)
def f_X2_open (M : gs_M) (r0 : Nat) (x1 : Int32) : Option (gs_M) :=
  gs_b1 (if (61 : Int32) ≤ (M r0 6) then
  some (M)
  else
  gs_b1 (gs_wr M (r0 + 4) 61 (M r0 6) x1) fun M6 =>
  gs_b1 (gs_wr M6 (r0 + 2) 61 (M6 r0 6) (M6 r0 5)) fun M8 =>
  gs_b1 (gs_wr M8 (r0 + 3) 61 (M8 r0 6) (M8 r0 5)) fun M10 =>
  gs_b1 (some (gs_up M10 r0 6 ((M10 r0 6) + (1 : Int32)))) fun M12 =>
  some (M12)) fun M1 =>
  some M1
def f_X2_put (M : gs_M) (r0 : Nat) (x1 : Int32) : Option (gs_M) :=
  gs_b1 (if (240 : Int32) ≤ (M r0 5) then
  some (M)
  else
  gs_b1 (gs_wr M (r0 + 1) 240 (M r0 5) x1) fun M6 =>
  gs_b1 (some (gs_up M6 r0 5 ((M6 r0 5) + (1 : Int32)))) fun M8 =>
  some (M8)) fun M1 =>
  some M1
def l_X3_readSum_8 (G : Nat → Int32 → gs_M → Option (Int32 × gs_M)) (x1 : Int32) : Nat → Int32 → Int32 → gs_M → Option (Int32 × gs_M)
  | 0, _, _, _ => none
  | f + 1, x2, x3, M =>
    if (240 : Int32) ≤ x3 then
    gs_b1 (gs_ckZ x2) fun z4 =>
    some (z4, M)
    else
    if x2 = (0 : Int32) then
    gs_b1 (gs_ckZ x2) fun z6 =>
    some (z6, M)
    else
    gs_b2 (f_X7_look M) fun v3 M4 =>
    if v3 = (43 : Int32) then
    gs_b1 (f_X7_step M4) fun M7 =>
    gs_b2 (G 1 x1 M7) fun v9 M10 =>
    gs_b1 (gs_ckW (M10 104 1).toNatClampNeg) fun r12 =>
    gs_b1 (f_X2_put M10 r12 (-v3)) fun M14 =>
    l_X3_readSum_8 G x1 f v9 (x3 + (1 : Int32)) M14
    else
    if v3 = (45 : Int32) then
    gs_b1 (f_X7_step M4) fun M17 =>
    gs_b2 (G 1 x1 M17) fun v19 M20 =>
    gs_b1 (gs_ckW (M20 104 1).toNatClampNeg) fun r22 =>
    gs_b1 (f_X2_put M20 r22 (-v3)) fun M24 =>
    l_X3_readSum_8 G x1 f v19 (x3 + (1 : Int32)) M24
    else
    some ((1 : Int32), M4)
def f_X3_readSum (G : Nat → Int32 → gs_M → Option (Int32 × gs_M)) (M : gs_M) (x1 : Int32) : Option (Int32 × gs_M) :=
  gs_b2 (G 1 x1 M) fun v1 M2 =>
  l_X3_readSum_8 G x1 gs_FU v1 (0 : Int32) M2
def l_X3_readTerm_8 (G : Nat → Int32 → gs_M → Option (Int32 × gs_M)) (x1 : Int32) : Nat → Int32 → Int32 → gs_M → Option (Int32 × gs_M)
  | 0, _, _, _ => none
  | f + 1, x2, x3, M =>
    if (240 : Int32) ≤ x3 then
    gs_b1 (gs_ckZ x2) fun z4 =>
    some (z4, M)
    else
    if x2 = (0 : Int32) then
    gs_b1 (gs_ckZ x2) fun z6 =>
    some (z6, M)
    else
    gs_b2 (f_X7_look M) fun v3 M4 =>
    if v3 = (42 : Int32) then
    gs_b1 (f_X7_step M4) fun M7 =>
    gs_b2 (G 2 x1 M7) fun v9 M10 =>
    gs_b1 (gs_ckW (M10 104 1).toNatClampNeg) fun r12 =>
    gs_b1 (f_X2_put M10 r12 (-v3)) fun M14 =>
    l_X3_readTerm_8 G x1 f v9 (x3 + (1 : Int32)) M14
    else
    if v3 = (47 : Int32) then
    gs_b1 (f_X7_step M4) fun M17 =>
    gs_b2 (G 2 x1 M17) fun v19 M20 =>
    gs_b1 (gs_ckW (M20 104 1).toNatClampNeg) fun r22 =>
    gs_b1 (f_X2_put M20 r22 (-v3)) fun M24 =>
    l_X3_readTerm_8 G x1 f v19 (x3 + (1 : Int32)) M24
    else
    some ((1 : Int32), M4)
def f_X3_readTerm (G : Nat → Int32 → gs_M → Option (Int32 × gs_M)) (M : gs_M) (x1 : Int32) : Option (Int32 × gs_M) :=
  gs_b2 (G 2 x1 M) fun v1 M2 =>
  l_X3_readTerm_8 G x1 gs_FU v1 (0 : Int32) M2
def f_X3_readAtom (G : Nat → Int32 → gs_M → Option (Int32 × gs_M)) (M : gs_M) (x1 : Int32) : Option (Int32 × gs_M) :=
  gs_b2 (f_X7_look M) fun v1 M2 =>
  if v1 = (-1 : Int32) then
  gs_b2 (f_X7_fail M2) fun v43 M44 =>
  gs_b1 (gs_ckZ v43) fun z46 =>
  some (z46, M44)
  else
  if v1 = (91 : Int32) then
  if x1 < (6 : Int32) then
  gs_b1 (f_X7_step M2) fun M22 =>
  gs_b2 (G 0 (x1 + (1 : Int32)) M22) fun v24 M25 =>
  gs_b2 (if v24 = (0 : Int32) then
  some ((0 : Int32), M25)
  else
  gs_b2 (f_X7_take M25 (93 : Int32)) fun v32 M33 =>
  if v32 = (0 : Int32) then
  some ((0 : Int32), M33)
  else
  some ((1 : Int32), M33)) fun y27 M28 =>
  gs_b1 (gs_ckZ y27) fun z36 =>
  some (z36, M28)
  else
  gs_b2 (f_X7_fail M2) fun v38 M39 =>
  gs_b1 (gs_ckZ v38) fun z41 =>
  some (z41, M39)
  else
  if (gs_spot 2 ((Int32.toUInt32 v1 % 65536).toInt32)) < (0 : Int32) then
  gs_b2 (f_X7_number M2 (4 : Int32)) fun v7 M8 =>
  if v7 = (-1 : Int32) then
  some ((0 : Int32), M8)
  else
  gs_b1 (gs_ckW (M8 104 1).toNatClampNeg) fun r11 =>
  gs_b1 (f_X2_put M8 r11 v7) fun M13 =>
  some ((1 : Int32), M13)
  else
  gs_b1 (f_X7_step M2) fun M15 =>
  gs_b1 (gs_ckW (M15 104 1).toNatClampNeg) fun r17 =>
  gs_b1 (f_X2_put M15 r17 ((10000 : Int32) + (gs_spot 2 ((Int32.toUInt32 v1 % 65536).toInt32)))) fun M19 =>
  some ((1 : Int32), M19)
def f_X3_readCondition (G : Nat → Int32 → gs_M → Option (Int32 × gs_M)) (M : gs_M) (x1 : Int32) : Option (Int32 × gs_M) :=
  gs_b2 (G 6 x1 M) fun v1 M2 =>
  gs_b2 (if v1 = (0 : Int32) then
  some ((0 : Int32), M2)
  else
  gs_b2 (G 4 x1 M2) fun v9 M10 =>
  if v9 = (0 : Int32) then
  some ((0 : Int32), M10)
  else
  some ((1 : Int32), M10)) fun y4 M5 =>
  gs_b1 (gs_ckZ y4) fun z13 =>
  some (z13, M5)
def l_X3_readTail_8 (G : Nat → Int32 → gs_M → Option (Int32 × gs_M)) (x1 : Int32) : Nat → Int32 → Int32 → gs_M → Option (Int32 × Int32 × gs_M)
  | 0, _, _, _ => none
  | f + 1, x2, x3, M =>
    if (240 : Int32) ≤ x3 then
    some (x2, x3, M)
    else
    if x2 = (0 : Int32) then
    some (x2, x3, M)
    else
    gs_b2 (f_X7_look M) fun v3 M4 =>
    if v3 = (124 : Int32) then
    gs_b1 (f_X7_step M4) fun M7 =>
    gs_b2 (G 6 x1 M7) fun v9 M10 =>
    gs_b2 (if v9 = (0 : Int32) then
    some ((0 : Int32), M10)
    else
    gs_b2 (G 5 x1 M10) fun v17 M18 =>
    if v17 = (0 : Int32) then
    some ((0 : Int32), M18)
    else
    some ((1 : Int32), M18)) fun y12 M13 =>
    gs_b1 (gs_ckW (M13 104 1).toNatClampNeg) fun r21 =>
    gs_b1 (f_X2_put M13 r21 (-124 : Int32)) fun M23 =>
    l_X3_readTail_8 G x1 f y12 (x3 + (1 : Int32)) M23
    else
    some (x2, x3, M4)
def f_X3_readTail (G : Nat → Int32 → gs_M → Option (Int32 × gs_M)) (M : gs_M) (x1 : Int32) : Option (Int32 × gs_M) :=
  gs_b2 (G 5 x1 M) fun v1 M2 =>
  gs_b3 (l_X3_readTail_8 G x1 gs_FU v1 (0 : Int32) M2) fun y4 y5 M6 =>
  gs_b1 (gs_ckZ y4) fun z8 =>
  some (z8, M6)
def l_X3_readTruthTail_4 (G : Nat → Int32 → gs_M → Option (Int32 × gs_M)) (x1 : Int32) : Nat → Int32 → Int32 → gs_M → Option (Int32 × Int32 × gs_M)
  | 0, _, _, _ => none
  | f + 1, x2, x3, M =>
    if (240 : Int32) ≤ x3 then
    some (x2, x3, M)
    else
    if x2 = (0 : Int32) then
    some (x2, x3, M)
    else
    gs_b2 (f_X7_look M) fun v3 M4 =>
    if v3 = (38 : Int32) then
    gs_b1 (f_X7_step M4) fun M7 =>
    gs_b2 (G 6 x1 M7) fun v9 M10 =>
    gs_b1 (gs_ckW (M10 104 1).toNatClampNeg) fun r12 =>
    gs_b1 (f_X2_put M10 r12 (-38 : Int32)) fun M14 =>
    l_X3_readTruthTail_4 G x1 f v9 (x3 + (1 : Int32)) M14
    else
    some (x2, x3, M4)
def f_X3_readTruthTail (G : Nat → Int32 → gs_M → Option (Int32 × gs_M)) (M : gs_M) (x1 : Int32) : Option (Int32 × gs_M) :=
  gs_b3 (l_X3_readTruthTail_4 G x1 gs_FU (1 : Int32) (0 : Int32) M) fun y1 y2 M3 =>
  gs_b1 (gs_ckZ y1) fun z5 =>
  some (z5, M3)
def f_X3_readUnit (G : Nat → Int32 → gs_M → Option (Int32 × gs_M)) (M : gs_M) (x1 : Int32) : Option (Int32 × gs_M) :=
  gs_b2 (f_X7_look M) fun v1 M2 =>
  if v1 = (33 : Int32) then
  if x1 < (6 : Int32) then
  gs_b1 (f_X7_step M2) fun M6 =>
  if v1 = (40 : Int32) then
  gs_b2 (G 3 (x1 + (1 : Int32)) M6) fun v18 M19 =>
  gs_b2 (if v18 = (0 : Int32) then
  some ((0 : Int32), M19)
  else
  gs_b2 (f_X7_take M19 (41 : Int32)) fun v26 M27 =>
  if v26 = (0 : Int32) then
  some ((0 : Int32), M27)
  else
  some ((1 : Int32), M27)) fun y21 M22 =>
  gs_b1 (gs_ckZ y21) fun z30 =>
  some (z30, M22)
  else
  gs_b2 (G 6 (x1 + (1 : Int32)) M6) fun v9 M10 =>
  gs_b1 (gs_ckW (M10 104 1).toNatClampNeg) fun r12 =>
  gs_b1 (f_X2_put M10 r12 (-33 : Int32)) fun M14 =>
  gs_b1 (gs_ckZ v9) fun z16 =>
  some (z16, M14)
  else
  gs_b2 (f_X7_fail M2) fun v32 M33 =>
  gs_b1 (gs_ckZ v32) fun z35 =>
  some (z35, M33)
  else
  if v1 = (40 : Int32) then
  if x1 < (6 : Int32) then
  gs_b1 (f_X7_step M2) fun M39 =>
  if v1 = (40 : Int32) then
  gs_b2 (G 3 (x1 + (1 : Int32)) M39) fun v51 M52 =>
  gs_b2 (if v51 = (0 : Int32) then
  some ((0 : Int32), M52)
  else
  gs_b2 (f_X7_take M52 (41 : Int32)) fun v59 M60 =>
  if v59 = (0 : Int32) then
  some ((0 : Int32), M60)
  else
  some ((1 : Int32), M60)) fun y54 M55 =>
  gs_b1 (gs_ckZ y54) fun z63 =>
  some (z63, M55)
  else
  gs_b2 (G 6 (x1 + (1 : Int32)) M39) fun v42 M43 =>
  gs_b1 (gs_ckW (M43 104 1).toNatClampNeg) fun r45 =>
  gs_b1 (f_X2_put M43 r45 (-33 : Int32)) fun M47 =>
  gs_b1 (gs_ckZ v42) fun z49 =>
  some (z49, M47)
  else
  gs_b2 (f_X7_fail M2) fun v65 M66 =>
  gs_b1 (gs_ckZ v65) fun z68 =>
  some (z68, M66)
  else
  gs_b2 (G 0 x1 M2) fun v70 M71 =>
  gs_b2 (if v70 = (0 : Int32) then
  some ((0 : Int32), M71)
  else
  gs_b2 (G 7 x1 M71) fun v78 M79 =>
  if v78 = (0 : Int32) then
  some ((0 : Int32), M79)
  else
  some ((1 : Int32), M79)) fun y73 M74 =>
  gs_b1 (gs_ckZ y73) fun z82 =>
  some (z82, M74)
def f_X3_compares (x0 : Int32) : Option (Int32) :=
  gs_b1 (gs_ckZ (if x0 = (61 : Int32) then (1 : Int32) else if x0 = (60 : Int32) then (1 : Int32) else if x0 = (62 : Int32) then (1 : Int32) else (0 : Int32) : Int32)) fun z1 =>
  some z1
def f_X3_readComparison (G : Nat → Int32 → gs_M → Option (Int32 × gs_M)) (M : gs_M) (x1 : Int32) : Option (Int32 × gs_M) :=
  gs_b2 (f_X7_look M) fun v1 M2 =>
  gs_b1 (f_X3_compares v1) fun v4 =>
  if v4 = (0 : Int32) then
  gs_b2 (f_X7_fail M2) fun v18 M19 =>
  gs_b1 (gs_ckZ v18) fun z21 =>
  some (z21, M19)
  else
  gs_b1 (f_X7_step M2) fun M7 =>
  gs_b2 (G 0 x1 M7) fun v9 M10 =>
  gs_b1 (gs_ckW (M10 104 1).toNatClampNeg) fun r12 =>
  gs_b1 (f_X2_put M10 r12 (-v1)) fun M14 =>
  gs_b1 (gs_ckZ v9) fun z16 =>
  some (z16, M14)
def g_0 : Nat → Nat → Int32 → gs_M → Option (Int32 × gs_M)
  | 0, _, _, _ => none
  | d + 1, i, x, M => match i with
    | 0 => f_X3_readSum (g_0 d) M x
    | 1 => f_X3_readTerm (g_0 d) M x
    | 2 => f_X3_readAtom (g_0 d) M x
    | 3 => f_X3_readCondition (g_0 d) M x
    | 4 => f_X3_readTail (g_0 d) M x
    | 5 => f_X3_readTruthTail (g_0 d) M x
    | 6 => f_X3_readUnit (g_0 d) M x
    | 7 => f_X3_readComparison (g_0 d) M x
    | _ => none
def f_X2_endCondition (M : gs_M) (r0 : Nat) : Option (gs_M) :=
  gs_b1 (if (M r0 6) ≤ (0 : Int32) then
  some (M)
  else
  gs_b1 (gs_wr M (r0 + 3) 61 ((M r0 6) - (1 : Int32)) (M r0 5)) fun M6 =>
  some (M6)) fun M1 =>
  some M1
def f_X3_readRuling (M : gs_M) : Option (Int32 × gs_M) :=
  gs_b2 (f_X7_take M (63 : Int32)) fun v1 M2 =>
  if v1 = (0 : Int32) then
  some ((0 : Int32), M2)
  else
  gs_b1 (gs_ckW (M2 104 1).toNatClampNeg) fun r5 =>
  gs_b1 (f_X2_endCondition M2 r5) fun M7 =>
  gs_b2 ((g_0 64) 0 (0 : Int32) M7) fun v9 M10 =>
  gs_b1 (gs_ckZ v9) fun z12 =>
  some (z12, M10)
def f_X3_readClause (M : gs_M) : Option (Int32 × gs_M) :=
  gs_b2 (f_X7_look M) fun v1 M2 =>
  if v1 = (121 : Int32) then
  gs_b1 (f_X7_step M2) fun M5 =>
  gs_b2 (f_X7_take M5 (58 : Int32)) fun v7 M8 =>
  if v7 = (0 : Int32) then
  some ((0 : Int32), M8)
  else
  gs_b1 (gs_ckW (M8 104 1).toNatClampNeg) fun r11 =>
  gs_b1 (f_X2_open M8 r11 v1) fun M13 =>
  gs_b2 (f_X7_look M13) fun v15 M16 =>
  if v15 = (33 : Int32) then
  gs_b2 ((g_0 64) 3 (0 : Int32) M16) fun v19 M20 =>
  gs_b2 (if v19 = (0 : Int32) then
  some ((0 : Int32), M20)
  else
  gs_b2 (f_X3_readRuling M20) fun v27 M28 =>
  if v27 = (0 : Int32) then
  some ((0 : Int32), M28)
  else
  some ((1 : Int32), M28)) fun y22 M23 =>
  gs_b1 (gs_ckZ y22) fun z31 =>
  some (z31, M23)
  else
  if v15 = (40 : Int32) then
  gs_b2 ((g_0 64) 3 (0 : Int32) M16) fun v62 M63 =>
  gs_b2 (if v62 = (0 : Int32) then
  some ((0 : Int32), M63)
  else
  gs_b2 (f_X3_readRuling M63) fun v70 M71 =>
  if v70 = (0 : Int32) then
  some ((0 : Int32), M71)
  else
  some ((1 : Int32), M71)) fun y65 M66 =>
  gs_b1 (gs_ckZ y65) fun z74 =>
  some (z74, M66)
  else
  gs_b2 ((g_0 64) 0 (0 : Int32) M16) fun v34 M35 =>
  if v34 = (0 : Int32) then
  some ((0 : Int32), M35)
  else
  gs_b2 (f_X7_look M35) fun v38 M39 =>
  gs_b1 (f_X3_compares v38) fun v41 =>
  gs_b2 (if v41 = (0 : Int32) then
  some ((1 : Int32), M39)
  else
  gs_b2 ((g_0 64) 7 (0 : Int32) M39) fun v48 M49 =>
  if v48 = (0 : Int32) then
  some ((0 : Int32), M49)
  else
  gs_b2 ((g_0 64) 4 (0 : Int32) M49) fun v52 M53 =>
  if v52 = (0 : Int32) then
  some ((0 : Int32), M53)
  else
  gs_b2 (f_X3_readRuling M53) fun v56 M57 =>
  if v56 = (0 : Int32) then
  some ((0 : Int32), M57)
  else
  some ((1 : Int32), M57)) fun y43 M44 =>
  gs_b1 (gs_ckZ y43) fun z60 =>
  some (z60, M44)
  else
  if v1 = (118 : Int32) then
  gs_b1 (f_X7_step M2) fun M77 =>
  gs_b2 (f_X7_take M77 (58 : Int32)) fun v79 M80 =>
  if v79 = (0 : Int32) then
  some ((0 : Int32), M80)
  else
  gs_b1 (gs_ckW (M80 104 1).toNatClampNeg) fun r83 =>
  gs_b1 (f_X2_open M80 r83 v1) fun M85 =>
  gs_b2 (f_X7_look M85) fun v87 M88 =>
  if v87 = (33 : Int32) then
  gs_b2 ((g_0 64) 3 (0 : Int32) M88) fun v91 M92 =>
  gs_b2 (if v91 = (0 : Int32) then
  some ((0 : Int32), M92)
  else
  gs_b2 (f_X3_readRuling M92) fun v99 M100 =>
  if v99 = (0 : Int32) then
  some ((0 : Int32), M100)
  else
  some ((1 : Int32), M100)) fun y94 M95 =>
  gs_b1 (gs_ckZ y94) fun z103 =>
  some (z103, M95)
  else
  if v87 = (40 : Int32) then
  gs_b2 ((g_0 64) 3 (0 : Int32) M88) fun v134 M135 =>
  gs_b2 (if v134 = (0 : Int32) then
  some ((0 : Int32), M135)
  else
  gs_b2 (f_X3_readRuling M135) fun v142 M143 =>
  if v142 = (0 : Int32) then
  some ((0 : Int32), M143)
  else
  some ((1 : Int32), M143)) fun y137 M138 =>
  gs_b1 (gs_ckZ y137) fun z146 =>
  some (z146, M138)
  else
  gs_b2 ((g_0 64) 0 (0 : Int32) M88) fun v106 M107 =>
  if v106 = (0 : Int32) then
  some ((0 : Int32), M107)
  else
  gs_b2 (f_X7_look M107) fun v110 M111 =>
  gs_b1 (f_X3_compares v110) fun v113 =>
  gs_b2 (if v113 = (0 : Int32) then
  some ((1 : Int32), M111)
  else
  gs_b2 ((g_0 64) 7 (0 : Int32) M111) fun v120 M121 =>
  if v120 = (0 : Int32) then
  some ((0 : Int32), M121)
  else
  gs_b2 ((g_0 64) 4 (0 : Int32) M121) fun v124 M125 =>
  if v124 = (0 : Int32) then
  some ((0 : Int32), M125)
  else
  gs_b2 (f_X3_readRuling M125) fun v128 M129 =>
  if v128 = (0 : Int32) then
  some ((0 : Int32), M129)
  else
  some ((1 : Int32), M129)) fun y115 M116 =>
  gs_b1 (gs_ckZ y115) fun z132 =>
  some (z132, M116)
  else
  gs_b2 (f_X7_fail M2) fun v148 M149 =>
  gs_b1 (gs_ckZ v148) fun z151 =>
  some (z151, M149)
def l_X3_read_26 (r1 : Nat) : Nat → Int32 → Int32 → gs_M → Option (Int32 × Int32 × gs_M)
  | 0, _, _, _ => none
  | f + 1, x2, x3, M =>
    if (240 : Int32) ≤ x3 then
    some (x2, x3, M)
    else
    if x2 = (0 : Int32) then
    some (x2, x3, M)
    else
    gs_b2 (f_X7_look M) fun v3 M4 =>
    if v3 = (59 : Int32) then
    gs_b1 (f_X7_step M4) fun M7 =>
    gs_b2 (f_X3_readClause M7) fun v9 M10 =>
    l_X3_read_26 r1 f v9 (x3 + (1 : Int32)) M10
    else
    some (x2, x3, M4)
def f_X3_read (M : gs_M) (r1 : Nat) : Option (Int32 × gs_M) :=
  gs_b1 (some (gs_up M 104 1 (nI r1))) fun M2 =>
  gs_b1 (gs_ckW (M2 104 1).toNatClampNeg) fun r3 =>
  gs_b1 (f_X2_clear M2 r3) fun M5 =>
  gs_b1 (f_X7_rewind M5) fun M7 =>
  gs_b2 (f_X3_readClause M7) fun v9 M10 =>
  gs_b3 (l_X3_read_26 r1 gs_FU v9 (0 : Int32) M10) fun y12 y13 M14 =>
  gs_b1 (if y12 = (0 : Int32) then
  some (M14)
  else
  gs_b2 (f_X7_look M14) fun v20 M21 =>
  if v20 = (-1 : Int32) then
  some (M21)
  else
  gs_b2 (f_X7_fail M21) fun v24 M25 =>
  some (M25)) fun M16 =>
  gs_b1 (f_X7_firstFault M16) fun v27 =>
  some (v27, M16)
def l_X10_read_6  : Nat → Int32 → gs_M → Option (Int32 × gs_M)
  | 0, _, _ => none
  | f + 1, x2, M =>
    if (9 : Int32) ≤ x2 then
    some (x2, M)
    else
    gs_b1 (gs_wr M 97 9 x2 (-1 : Int32)) fun M3 =>
    l_X10_read_6  f (x2 + (1 : Int32)) M3
def l_X10_read_27  : Nat → Int32 → gs_M → Option (Int32 × gs_M)
  | 0, _, _ => none
  | f + 1, x2, M =>
    if (9 : Int32) ≤ x2 then
    some (x2, M)
    else
    gs_b2 (f_X7_look M) fun v2 M3 =>
    gs_b1 (f_X7_isDigit v2) fun v5 =>
    if v5 = (0 : Int32) then
    some (x2, M3)
    else
    gs_b2 (f_X7_look M3) fun v8 M9 =>
    gs_b1 (gs_wr M9 97 9 x2 (if (v8 - (48 : Int32)) = (9 : Int32) then (-1 : Int32) else (v8 - (48 : Int32)) : Int32)) fun M12 =>
    gs_b1 (f_X7_step M12) fun M13 =>
    l_X10_read_27  f (x2 + (1 : Int32)) M13
def f_X10_read (M : gs_M) : Option (Int32 × gs_M) :=
  gs_b1 (f_X7_rewind M) fun M1 =>
  gs_b2 (l_X10_read_6 gs_FU (0 : Int32) M1) fun y3 M4 =>
  gs_b2 (l_X10_read_27 gs_FU (0 : Int32) M4) fun y6 M7 =>
  gs_b1 (if y6 = (0 : Int32) then
  gs_b2 (f_X7_fail M7) fun v13 M14 =>
  some (M14)
  else
  gs_b2 (f_X7_look M7) fun v16 M17 =>
  if v16 = (-1 : Int32) then
  some (M17)
  else
  gs_b2 (f_X7_fail M17) fun v20 M21 =>
  some (M21)) fun M9 =>
  gs_b1 (f_X7_firstFault M9) fun v23 =>
  some (v23, M9)
def f_X11_fault (M : gs_M) (x1 : Int32) : Option (Int32 × gs_M) :=
  if x1 = (0 : Int32) then
  gs_b2 (f_X9_read M) fun v2 M3 =>
  some (v2, M3)
  else
  if x1 = (1 : Int32) then
  gs_b2 (f_X3_read M 98) fun v6 M7 =>
  some (v6, M7)
  else
  if x1 = (2 : Int32) then
  gs_b2 (f_X10_read M) fun v10 M11 =>
  some (v10, M11)
  else
  some ((-2 : Int32), M)
def l_X7_told_5 (x0 : Int32) : Nat → Int32 → Int32 → Option (Int32 × Int32)
  | 0, _, _ => none
  | f + 1, x1, x2 =>
    if x2 < (0 : Int32) then
    some (x1, x2)
    else
    l_X7_told_5 x0 f (x1 + (if (((Int32.toUInt32 x0 >>> (Int32.toUInt32 x2 &&& Int32.toUInt32 31)).toInt32) &&& (255 : Int32)) = (0 : Int32) then (0 : Int32) else (1 : Int32) : Int32)) (x2 + (-8 : Int32))
def f_X7_told (x0 : Int32) : Option (Int32) :=
  gs_b2 (l_X7_told_5 x0 gs_FU (0 : Int32) (24 : Int32)) fun y1 y2 =>
  some y1
def l_X7_put_3 (x1 : Int32) : Nat → Int32 → gs_M → Option (Int32 × gs_M)
  | 0, _, _ => none
  | f + 1, x2, M =>
    if x2 < (0 : Int32) then
    some (x2, M)
    else
    gs_b1 (if (((Int32.toUInt32 x1 >>> (Int32.toUInt32 x2 &&& Int32.toUInt32 31)).toInt32) &&& (255 : Int32)) = (0 : Int32) then
    some (M)
    else
    if (240 : Int32) ≤ (M 1 1) then
    some (M)
    else
    gs_b1 (gs_wr M 2 240 (M 1 1) (((Int32.toUInt32 x1 >>> (Int32.toUInt32 x2 &&& Int32.toUInt32 31)).toInt32) &&& (255 : Int32))) fun M8 =>
    gs_b1 (some (gs_up M8 1 1 ((M8 1 1) + (1 : Int32)))) fun M10 =>
    some (M10)) fun M2 =>
    l_X7_put_3 x1 f (x2 + (-8 : Int32)) M2
def f_X7_put (M : gs_M) (x1 : Int32) : Option (gs_M) :=
  gs_b2 (l_X7_put_3 x1 gs_FU (24 : Int32) M) fun y1 M2 =>
  some M2
def f_X11_feed (M : gs_M) (x1 : Int32) (x2 : Int32) (x3 : Int32) (x4 : Int32) (x5 : Int32) : Option (Int32 × gs_M) :=
  gs_b1 (f_X7_told x1) fun v1 =>
  gs_b1 (f_X7_told x2) fun v3 =>
  gs_b1 (f_X7_told x3) fun v5 =>
  gs_b1 (f_X7_told x4) fun v7 =>
  gs_b1 (f_X7_told x5) fun v9 =>
  gs_b1 (f_X7_size M) fun v11 =>
  if (v11 + ((((v1 + v3) + v5) + v7) + v9)) ≤ (240 : Int32) then
  gs_b1 (f_X7_put M x1) fun M14 =>
  gs_b1 (f_X7_put M14 x2) fun M16 =>
  gs_b1 (f_X7_put M16 x3) fun M18 =>
  gs_b1 (f_X7_put M18 x4) fun M20 =>
  gs_b1 (f_X7_put M20 x5) fun M22 =>
  gs_b1 (f_X7_size M22) fun v24 =>
  some (v24, M22)
  else
  some ((-1 : Int32), M)
def f_X11_forge (M : gs_M) (x1 : Int32) : Option (Int32 × gs_M) :=
  gs_b2 (f_X11_onceAhead M x1 (4 : Int32)) fun v1 M2 =>
  gs_b1 (gs_ckZ v1) fun z4 =>
  some (z4, M2)
def f_X11_image (M : gs_M) : Option (Int32 × gs_M) :=
  gs_b1 (f_X11_hasTown M) fun v1 =>
  if v1 = (0 : Int32) then
  some ((-1 : Int32), M)
  else
  gs_b1 (f_X6_copyFrom M 11 9) fun M4 =>
  gs_b1 (some (gs_up M4 0 14 (1 : Int32))) fun M7 =>
  gs_b1 (f_X6_now M7) fun v8 =>
  some (v8, M7)
def f_X6_decide (M : gs_M) (x1 : Int32) (x2 : Int32) (x3 : Int32) : Option (gs_M) :=
  gs_b1 (f_X6_set M x1 (5 : Int32) (if x2 = (0 : Int32) then (0 : Int32) else (1 : Int32) : Int32)) fun M1 =>
  gs_b1 (gs_rd M1 10 173 (if x3 = (0 : Int32) then (50 : Int32) else (49 : Int32) : Int32)) fun v3 =>
  gs_b1 (gs_wr M1 10 173 (if x3 = (0 : Int32) then (50 : Int32) else (49 : Int32) : Int32) (v3 + (1 : Int32))) fun M6 =>
  some M6
def f_X6_append (M : gs_M) (x1 : Int32) (x2 : Int32) (x3 : Int32) : Option (gs_M) :=
  gs_b1 (gs_rd M 10 173 x2) fun v1 =>
  gs_b1 (if v1 < (60 : Int32) then
  some (M)
  else
  gs_b1 (gs_cpy M 10 173 (x1 + (1 : Int32)) 10 173 x1 (59 : Int32)) fun M8 =>
  gs_b1 (gs_wr M8 10 173 x2 (59 : Int32)) fun M10 =>
  some (M10)) fun M3 =>
  gs_b1 (gs_rd M3 10 173 x2) fun v11 =>
  gs_b1 (gs_wr M3 10 173 (x1 + v11) x3) fun M14 =>
  gs_b1 (gs_rd M14 10 173 x2) fun v15 =>
  gs_b1 (gs_wr M14 10 173 x2 (v15 + (1 : Int32))) fun M18 =>
  some M18
def f_X6_writeLog (M : gs_M) (x1 : Int32) (x2 : Int32) (x3 : Int32) : Option (gs_M) :=
  gs_b1 (f_X6_append M (113 : Int32) (52 : Int32) ((x1 ||| ((if x2 = (0 : Int32) then (0 : Int32) else (1 : Int32) : Int32) <<< ((3 : Int32) &&& 31))) ||| ((x3 + (1000 : Int32)) <<< ((4 : Int32) &&& 31)))) fun M1 =>
  some M1
def l_X6_strike_4 (x1 : Int32) : Nat → Int32 → Int32 → gs_M → Option (Int32 × Int32 × gs_M)
  | 0, _, _, _ => none
  | f + 1, x2, x3, M =>
    gs_b1 (f_X6_books M) fun v1 =>
    if v1 ≤ x3 then
    some (x2, x3, M)
    else
    gs_b1 (f_X6_bookAt M x3) fun v4 =>
    gs_b1 (f_X6_personOf v4) fun v6 =>
    gs_b2 (if v6 = x1 then
    some (x2, M)
    else
    gs_b1 (gs_wr M 10 173 ((53 : Int32) + x2) v4) fun M14 =>
    some (x2 + (1 : Int32), M14)) fun y8 M9 =>
    l_X6_strike_4 x1 f y8 (x3 + (1 : Int32)) M9
def f_X6_strike (M : gs_M) (x1 : Int32) : Option (gs_M) :=
  gs_b3 (l_X6_strike_4 x1 gs_FU (0 : Int32) (0 : Int32) M) fun y1 y2 M3 =>
  gs_b1 (gs_wr M3 10 173 (51 : Int32) y1) fun M6 =>
  some M6
def f_X11_judge (M : gs_M) (x1 : Int32) : Option (Int32 × gs_M) :=
  gs_b1 (f_X11_isPerson M x1) fun v1 =>
  if v1 = (0 : Int32) then
  some ((-1 : Int32), M)
  else
  gs_b1 (f_X6_of M x1 (5 : Int32)) fun v4 =>
  if v4 = (0 : Int32) then
  gs_b1 (f_X6_booksOf M x1) fun v7 =>
  if v7 = (0 : Int32) then
  some ((-1 : Int32), M)
  else
  gs_b1 (f_X0_keep M) fun M10 =>
  gs_b1 (f_X4_holding M10) fun v12 =>
  gs_b2 (f_X4_caseOf M10 x1 v12) fun v14 M15 =>
  gs_b1 (f_X9_ruled M15 (1 : Int32)) fun v17 =>
  gs_b1 (f_X6_of M15 x1 (0 : Int32)) fun v19 =>
  gs_b1 (f_X6_decide M15 x1 (if v14 < v17 then (0 : Int32) else (1 : Int32) : Int32) (if (if v19 ≤ (0 : Int32) then (0 : Int32) else (1 : Int32) : Int32) = (if v14 < v17 then (0 : Int32) else (1 : Int32) : Int32) then (1 : Int32) else (0 : Int32) : Int32)) fun M21 =>
  gs_b1 (f_X6_writeLog M21 x1 (if v14 < v17 then (0 : Int32) else (1 : Int32) : Int32) v14) fun M23 =>
  gs_b1 (f_X6_strike M23 x1) fun M25 =>
  some ((if (if v14 < v17 then (0 : Int32) else (1 : Int32) : Int32) = (0 : Int32) then (0 : Int32) else (1 : Int32) : Int32), M25)
  else
  some ((-1 : Int32), M)
def f_X1_add (M : gs_M) (x1 : Int32) (x2 : Int32) (x3 : Int32) : Option (Int32 × gs_M) :=
  if (M 134 7) < (12 : Int32) then
  gs_b1 (gs_wr M 135 12 (M 134 7) x1) fun M3 =>
  gs_b1 (gs_wr M3 136 12 (M3 134 7) x2) fun M5 =>
  gs_b1 (gs_wr M5 137 12 (M5 134 7) (vp_nar .boolean x3)) fun M7 =>
  gs_b1 (some (gs_up M7 134 7 ((M7 134 7) + (1 : Int32)))) fun M9 =>
  some (M9 134 7, M9)
  else
  some ((-1 : Int32), M)
def f_X11_lamp (M : gs_M) (x1 : Int32) (x2 : Int32) (x3 : Int32) : Option (Int32 × gs_M) :=
  gs_b1 (f_X11_isPerson M x1) fun v1 =>
  gs_b2 (if v1 = (0 : Int32) then
  some ((-1 : Int32), M)
  else
  gs_b1 (f_X11_isHour M x2) fun v8 =>
  if v8 = (0 : Int32) then
  some ((-1 : Int32), M)
  else
  gs_b2 (f_X1_add M x1 x2 x3) fun v11 M12 =>
  some (v11, M12)) fun y3 M4 =>
  some (y3, M4)
def f_X4_hold (M : gs_M) (x1 : Int32) : Option (Int32 × gs_M) :=
  if x1 = (-1 : Int32) then
  gs_b1 (some (gs_up M 105 5 x1)) fun M3 =>
  some ((1 : Int32), M3)
  else
  gs_b1 (f_X4_has M x1) fun v4 =>
  if v4 = (0 : Int32) then
  some ((0 : Int32), M)
  else
  gs_b1 (some (gs_up M 105 5 x1)) fun M8 =>
  some ((1 : Int32), M8)
def f_X11_law (M : gs_M) (x1 : Int32) : Option (Int32 × gs_M) :=
  gs_b2 (f_X4_hold M x1) fun v1 M2 =>
  gs_b1 (gs_ckZ v1) fun z4 =>
  some (z4, M2)
def l_X1_oddsOf_5 (M : gs_M) (x1 : Int32) : Nat → Int64 → Int32 → Option (Int64 × Int32)
  | 0, _, _ => none
  | f + 1, x2, x4 =>
    gs_b1 (f_X9_hours M) fun v1 =>
    if v1 ≤ x4 then
    some (x2, x4)
    else
    gs_b1 (if ((x1 >>> (x4 &&& 31)) &&& (1 : Int32)) = (1 : Int32) then
    gs_b1 (gs_rd M 139 9 x4) fun v10 =>
    some (Int32.toInt64 v10)
    else
    gs_b1 (gs_rd M 139 9 x4) fun v8 =>
    some (Int32.toInt64 ((10 : Int32) - v8))) fun y4 =>
    l_X1_oddsOf_5 M x1 f (x2 * y4) (x4 + (1 : Int32))
def f_X1_oddsOf (M : gs_M) (x1 : Int32) : Option (Int64) :=
  gs_b2 (l_X1_oddsOf_5 M x1 gs_FU (1 : Int64) (0 : Int32)) fun y1 y2 =>
  some y1
def l_X11_likeliest_36 (M : gs_M) (x1 : Int32) (x2 : Int32) : Nat → Int32 → Int64 → Int32 → Option (Int32 × Int64 × Int32)
  | 0, _, _, _ => none
  | f + 1, x3, x4, x6 =>
    gs_b1 (f_X9_hours M) fun v1 =>
    if ((1 : Int32) <<< (v1 &&& 31)) ≤ x6 then
    some (x3, x4, x6)
    else
    gs_b1 (f_X1_canBurn M x6 x2) fun v4 =>
    gs_b2 (if v4 = (0 : Int32) then
    some (x3, x4)
    else
    if x3 = (-1 : Int32) then
    gs_b1 (f_X1_oddsOf M x6) fun v12 =>
    some (x6, v12)
    else
    gs_b1 (f_X1_oddsOf M x6) fun v14 =>
    if (lg_cmp v14 x4) ≤ (0 : Int32) then
    some (x3, x4)
    else
    gs_b1 (f_X1_oddsOf M x6) fun v17 =>
    some (x6, v17)) fun y6 y7 =>
    l_X11_likeliest_36 M x1 x2 f y6 y7 (x6 + (1 : Int32))
def f_X11_likeliest (M : gs_M) (x1 : Int32) (x2 : Int32) : Option (Int32 × gs_M) :=
  gs_b1 (f_X11_isPerson M x1) fun v1 =>
  if v1 = (0 : Int32) then
  some ((-1 : Int32), M)
  else
  if x2 < (0 : Int32) then
  some ((-1 : Int32), M)
  else
  if x2 ≤ (9 : Int32) then
  gs_b1 (f_X1_light M x1) fun M6 =>
  gs_b3 (l_X11_likeliest_36 M6 x1 x2 gs_FU (-1 : Int32) (0 : Int64) (0 : Int32)) fun y8 y9 y10 =>
  some (y8, M6)
  else
  some ((-1 : Int32), M)
def l_X11_firstInLine_4 (M : gs_M) (x1 : Int32) : Nat → Int32 → Int32 → Option (Int32 × Int32)
  | 0, _, _ => none
  | f + 1, x2, x3 =>
    gs_b1 (f_X9_crowd M) fun v1 =>
    if v1 ≤ x3 then
    some (x2, x3)
    else
    gs_b1 (if (if ((x1 >>> (x3 &&& 31)) &&& (1 : Int32)) = (0 : Int32) then (1 : Int32) else (0 : Int32) : Int32) = (0 : Int32) then
    some (x2)
    else
    if x2 = (-1 : Int32) then
    some (x3)
    else
    gs_b1 (gs_rd M 146 10 x3) fun v9 =>
    gs_b1 (gs_rd M 146 10 x2) fun v11 =>
    if v9 ≤ v11 then
    some (x2)
    else
    some (x3)) fun y4 =>
    l_X11_firstInLine_4 M x1 f y4 (x3 + (1 : Int32))
def f_X11_firstInLine (M : gs_M) (x1 : Int32) : Option (Int32) :=
  gs_b2 (l_X11_firstInLine_4 M x1 gs_FU (-1 : Int32) (0 : Int32)) fun y1 y2 =>
  some (if y1 = (-1 : Int32) then (0 : Int32) else y1 : Int32)
def l_X11_line_11  : Nat → Int32 → gs_M → Option (Int32 × gs_M)
  | 0, _, _ => none
  | f + 1, x1, M =>
    gs_b1 (f_X9_crowd M) fun v1 =>
    if v1 ≤ x1 then
    some (x1, M)
    else
    gs_b1 (f_X4_holding M) fun v4 =>
    gs_b2 (f_X4_caseOf M x1 v4) fun v6 M7 =>
    gs_b1 (gs_wr M7 146 10 x1 v6) fun M10 =>
    l_X11_line_11  f (x1 + (1 : Int32)) M10
def l_X11_line_55 (M : gs_M) : Nat → Int32 → Int32 → Int32 → Option (Int32 × Int32 × Int32)
  | 0, _, _, _ => none
  | f + 1, x1, x2, x3 =>
    gs_b1 (f_X9_crowd M) fun v1 =>
    if v1 ≤ x3 then
    some (x1, x2, x3)
    else
    gs_b1 (f_X11_firstInLine M x2) fun v4 =>
    l_X11_line_55 M f ((x1 * (10 : Int32)) + v4) (x2 ||| ((1 : Int32) <<< (v4 &&& 31))) (x3 + (1 : Int32))
def f_X11_line (M : gs_M) : Option (Int32 × gs_M) :=
  gs_b1 (f_X11_hasTown M) fun v1 =>
  if v1 = (0 : Int32) then
  some ((-1 : Int32), M)
  else
  gs_b2 (l_X11_line_11 gs_FU (0 : Int32) M) fun y4 M5 =>
  gs_b3 (l_X11_line_55 M5 gs_FU (0 : Int32) (0 : Int32) (0 : Int32)) fun y7 y8 y9 =>
  some (y7, M5)
def f_X6_logAt (M : gs_M) (x1 : Int32) : Option (Int32) :=
  gs_b1 (f_X6_logs M) fun v1 =>
  gs_b1 (gs_rd M 10 173 ((((113 : Int32) + v1) - (1 : Int32)) - x1)) fun v3 =>
  some v3
def f_X6_pointsOf (x0 : Int32) : Option (Int32) :=
  some ((x0 >>> ((4 : Int32) &&& 31)) - (1000 : Int32))
def f_X6_gaoledOf (x0 : Int32) : Option (Int32) :=
  some ((x0 >>> ((3 : Int32) &&& 31)) &&& (1 : Int32))
def f_X6_whoOf (x0 : Int32) : Option (Int32) :=
  some (x0 &&& (7 : Int32))
def f_X11_log (M : gs_M) (x1 : Int32) (x2 : Int32) : Option (Int32) :=
  if x1 < (0 : Int32) then
  some (-1000000 : Int32)
  else
  gs_b1 (f_X6_logs M) fun v2 =>
  if v2 ≤ x1 then
  some (-1000000 : Int32)
  else
  if x2 < (0 : Int32) then
  some (-1000000 : Int32)
  else
  if x2 ≤ (2 : Int32) then
  gs_b1 (f_X6_logAt M x1) fun v7 =>
  if x2 = (0 : Int32) then
  gs_b1 (f_X6_whoOf v7) fun v18 =>
  some v18
  else
  gs_b1 (if x2 = (1 : Int32) then
  gs_b1 (f_X6_gaoledOf v7) fun v16 =>
  some (v16)
  else
  gs_b1 (f_X6_pointsOf v7) fun v14 =>
  some (v14)) fun y10 =>
  some y10
  else
  some (-1000000 : Int32)
def l_X11_meet_30 (x1 : Int32) (x2 : Int32) : Nat → Int64 → Int32 → gs_M → Option (Int64 × Int32 × gs_M)
  | 0, _, _, _ => none
  | f + 1, x3, x5, M =>
    gs_b1 (f_X9_hours M) fun v1 =>
    if v1 ≤ x5 then
    some (x3, x5, M)
    else
    gs_b2 (f_X4_wakesNow M x1 x5) fun v4 M5 =>
    gs_b2 (f_X4_wakesNow M5 x2 x5) fun v7 M8 =>
    gs_b1 (gs_dvl ((x3 * (Int32.toInt64 v4)) * (Int32.toInt64 v7)) (100 : Int64)) fun v10 =>
    l_X11_meet_30 x1 x2 f (x3 - v10) (x5 + (1 : Int32)) M8
def f_X11_meet (M : gs_M) (x1 : Int32) (x2 : Int32) : Option (Int32 × gs_M) :=
  gs_b1 (f_X11_isPerson M x1) fun v1 =>
  if v1 = (0 : Int32) then
  some ((-1 : Int32), M)
  else
  gs_b1 (f_X11_isPerson M x2) fun v4 =>
  if v4 = (0 : Int32) then
  some ((-1 : Int32), M)
  else
  if x1 = x2 then
  some ((-1 : Int32), M)
  else
  gs_b3 (l_X11_meet_30 x1 x2 gs_FU (1000000000 : Int64) (0 : Int32) M) fun y8 y9 M10 =>
  some (Int64.toInt32 ((1000000000 : Int64) - y8), M10)
def l_X11_partsAsleep_7 (x1 : Int32) : Nat → Int64 → Int32 → gs_M → Option (Int64 × Int32 × gs_M)
  | 0, _, _, _ => none
  | f + 1, x2, x4, M =>
    gs_b1 (f_X9_hours M) fun v1 =>
    if v1 ≤ x4 then
    some (x2, x4, M)
    else
    gs_b2 (f_X4_wakesNow M x1 x4) fun v4 M5 =>
    gs_b1 (gs_dvl (x2 * (Int32.toInt64 ((10 : Int32) - v4))) (10 : Int64)) fun v7 =>
    l_X11_partsAsleep_7 x1 f v7 (x4 + (1 : Int32)) M5
def f_X11_partsAsleep (M : gs_M) (x1 : Int32) : Option (Int32 × gs_M) :=
  gs_b3 (l_X11_partsAsleep_7 x1 gs_FU (1000000000 : Int64) (0 : Int32) M) fun y1 y2 M3 =>
  some (Int64.toInt32 y1, M3)
def l_X11_most_25 (x1 : Int32) : Nat → Int32 → Int32 → Int32 → gs_M → Option (Int32 × Int32 × Int32 × gs_M)
  | 0, _, _, _, _ => none
  | f + 1, x2, x3, x4, M =>
    gs_b1 (f_X9_crowd M) fun v1 =>
    if v1 ≤ x4 then
    some (x2, x3, x4, M)
    else
    gs_b2 (if x1 = (0 : Int32) then
    gs_b1 (f_X6_of M x4 (2 : Int32)) fun v12 =>
    some (v12, M)
    else
    gs_b2 (f_X11_partsAsleep M x4) fun v9 M10 =>
    some (v9, M10)) fun y4 M5 =>
    l_X11_most_25 x1 f (if y4 ≤ x3 then x2 else x4 : Int32) (if y4 ≤ x3 then x3 else y4 : Int32) (x4 + (1 : Int32)) M5
def f_X11_most (M : gs_M) (x1 : Int32) : Option (Int32 × gs_M) :=
  gs_b1 (f_X11_hasTown M) fun v1 =>
  if v1 = (0 : Int32) then
  some ((-1 : Int32), M)
  else
  if x1 < (0 : Int32) then
  some ((-1 : Int32), M)
  else
  if x1 ≤ (1 : Int32) then
  gs_b4 (l_X11_most_25 x1 gs_FU (0 : Int32) (-1 : Int32) (0 : Int32) M) fun y6 y7 y8 M9 =>
  some (y6, M9)
  else
  some ((-1 : Int32), M)
def l_X11_needs_31 (x1 : Int32) (x2 : Int32) (x3 : Int32) : Nat → Int32 → gs_M → Option (Int32 × gs_M)
  | 0, _, _ => none
  | f + 1, x4, M =>
    if (9 : Int32) < x4 then
    some ((-1 : Int32), M)
    else
    gs_b1 (f_X6_of M x1 (0 : Int32)) fun v2 =>
    gs_b2 (f_X4_wakesIf M x1 x2 v2 x4) fun v4 M5 =>
    if v4 < x3 then
    l_X11_needs_31 x1 x2 x3 f (x4 + (1 : Int32)) M5
    else
    some (x4, M5)
def f_X11_needs (M : gs_M) (x1 : Int32) (x2 : Int32) (x3 : Int32) : Option (Int32 × gs_M) :=
  gs_b1 (f_X11_isPerson M x1) fun v1 =>
  if v1 = (0 : Int32) then
  some ((-1 : Int32), M)
  else
  gs_b1 (f_X11_isHour M x2) fun v4 =>
  if v4 = (0 : Int32) then
  some ((-1 : Int32), M)
  else
  if x3 < (0 : Int32) then
  some ((-1 : Int32), M)
  else
  if x3 ≤ (10 : Int32) then
  l_X11_needs_31 x1 x2 x3 gs_FU (0 : Int32) M
  else
  some ((-1 : Int32), M)
def f_X5_sow (L : gs_L) (x1 : Int64) : Option (gs_L) :=
  gs_b1 (some (gs_upl L 132 5 x1)) fun L2 =>
  some L2
def f_X5_draw (L : gs_L) (x1 : Int32) : Option (Int32 × gs_L) :=
  gs_b1 (some (gs_upl L 132 5 (((L 132 5) * (6364136223846793005 : Int64)) + (1442695040888963407 : Int64)))) fun L2 =>
  gs_b1 (if x1 ≤ (0 : Int32) then
  some ((0 : Int32))
  else
  gs_b1 (gs_rml ((Int64.toUInt64 (L2 132 5) >>> ((Int32.toInt64 (33 : Int32)).toUInt64 &&& Int64.toUInt64 63)).toInt64) (Int32.toInt64 x1)) fun v7 =>
  some (Int64.toInt32 v7)) fun y3 =>
  some (y3, L2)
def f_X10_toldAt (M : gs_M) (x1 : Int32) (x2 : Int32) : Option (Int32) :=
  gs_b1 (gs_rd M 96 36 ((x1 * (9 : Int32)) + x2)) fun v1 =>
  some v1
def f_X10_seenAt (M : gs_M) (x1 : Int32) : Option (Int32) :=
  gs_b1 (if (M 95 3) = (-1 : Int32) then
  some ((-1 : Int32))
  else
  gs_b1 (f_X10_toldAt M (M 95 3) x1) fun v5 =>
  some (v5)) fun y1 =>
  some y1
def f_X6_writeBook (M : gs_M) (x1 : Int32) (x2 : Int32) (x3 : Int32) : Option (gs_M) :=
  gs_b1 (f_X6_now M) fun v1 =>
  gs_b1 (f_X6_of M x2 (2 : Int32)) fun v3 =>
  gs_b1 (f_X6_append M (53 : Int32) (51 : Int32) ((((v1 ||| (x1 <<< ((10 : Int32) &&& 31))) ||| (x2 <<< ((14 : Int32) &&& 31))) ||| ((if x3 = (0 : Int32) then (0 : Int32) else (1 : Int32) : Int32) <<< ((17 : Int32) &&& 31))) ||| (v3 <<< ((18 : Int32) &&& 31)))) fun M5 =>
  some M5
def f_X6_nextNight (M : gs_M) : Option (gs_M) :=
  gs_b1 (gs_rd M 10 173 (48 : Int32)) fun v1 =>
  gs_b1 (gs_wr M 10 173 (48 : Int32) (v1 + (1 : Int32))) fun M4 =>
  some M4
def l_X5_pass_2 (L : gs_L) : Nat → Int32 → gs_M → Option (Int32 × gs_M)
  | 0, _, _ => none
  | f + 1, x1, M =>
    if (8 : Int32) ≤ x1 then
    some (x1, M)
    else
    gs_b1 (gs_wr M 133 8 x1 (0 : Int32)) fun M3 =>
    l_X5_pass_2 L f (x1 + (1 : Int32)) M3
def l_X5_pass_36 (x1 : Int32) : Nat → Int32 → gs_M → gs_L → Option (Int32 × gs_M × gs_L)
  | 0, _, _, _ => none
  | f + 1, x2, M, L =>
    gs_b1 (f_X9_crowd M) fun v1 =>
    if v1 ≤ x2 then
    some (x2, M, L)
    else
    gs_b2 (f_X5_draw L (10 : Int32)) fun v4 L5 =>
    gs_b2 (f_X4_wakesNow M x2 x1) fun v7 M8 =>
    gs_b1 (gs_rd M8 133 8 x2) fun v10 =>
    gs_b1 (gs_wr M8 133 8 x2 (v10 + (if (if v7 ≤ v4 then (0 : Int32) else (1 : Int32) : Int32) = (0 : Int32) then (0 : Int32) else (1 : Int32) : Int32))) fun M13 =>
    gs_b1 (f_X10_seenAt M13 x1) fun v14 =>
    gs_b1 (if v14 = x2 then
    gs_b1 (f_X6_of M13 x2 (5 : Int32)) fun v20 =>
    if v20 = (0 : Int32) then
    gs_b1 (if (if v7 ≤ v4 then (0 : Int32) else (1 : Int32) : Int32) = (0 : Int32) then
    gs_b1 (f_X6_of M13 x2 (4 : Int32)) fun v27 =>
    if v27 = (0 : Int32) then
    some ((0 : Int32))
    else
    some ((1 : Int32))
    else
    some ((1 : Int32))) fun y23 =>
    gs_b1 (f_X6_writeBook M13 x1 x2 y23) fun M30 =>
    some (M30)
    else
    some (M13)
    else
    some (M13)) fun M16 =>
    l_X5_pass_36 x1 f (x2 + (1 : Int32)) M16 L5
def l_X5_pass_23  : Nat → Int32 → gs_M → gs_L → Option (Int32 × gs_M × gs_L)
  | 0, _, _, _ => none
  | f + 1, x1, M, L =>
    gs_b1 (f_X9_hours M) fun v1 =>
    if v1 ≤ x1 then
    some (x1, M, L)
    else
    gs_b3 (l_X5_pass_36 x1 gs_FU (0 : Int32) M L) fun y4 M5 L6 =>
    l_X5_pass_23  f (x1 + (1 : Int32)) M5 L6
def l_X5_pass_157 (L : gs_L) : Nat → Int32 → gs_M → Option (Int32 × gs_M)
  | 0, _, _ => none
  | f + 1, x1, M =>
    gs_b1 (f_X9_crowd M) fun v1 =>
    if v1 ≤ x1 then
    some (x1, M)
    else
    gs_b1 (gs_rd M 133 8 x1) fun v4 =>
    gs_b1 (f_X6_set M x1 (2 : Int32) (if (9 : Int32) < v4 then (9 : Int32) else v4 : Int32)) fun M6 =>
    gs_b1 (f_X6_set M6 x1 (3 : Int32) (0 : Int32)) fun M8 =>
    gs_b1 (f_X6_set M8 x1 (4 : Int32) (0 : Int32)) fun M10 =>
    l_X5_pass_157 L f (x1 + (1 : Int32)) M10
def f_X5_pass (M : gs_M) (L : gs_L) : Option (gs_M × gs_L) :=
  gs_b2 (l_X5_pass_2 L gs_FU (0 : Int32) M) fun y1 M2 =>
  gs_b3 (l_X5_pass_23 gs_FU (0 : Int32) M2 L) fun y4 M5 L6 =>
  gs_b2 (l_X5_pass_157 L6 gs_FU (0 : Int32) M5) fun y8 M9 =>
  gs_b1 (f_X6_nextNight M9) fun M11 =>
  some (M11, L6)
def f_X11_night (M : gs_M) (L : gs_L) (x1 : Int64) : Option (Int32 × gs_M × gs_L) :=
  gs_b1 (f_X11_hasTown M) fun v1 =>
  if v1 = (0 : Int32) then
  some ((-1 : Int32), M, L)
  else
  gs_b1 (f_X6_now M) fun v4 =>
  if v4 < (999 : Int32) then
  gs_b1 (f_X0_keep M) fun M7 =>
  gs_b1 (f_X5_sow L x1) fun L9 =>
  gs_b2 (f_X5_pass M7 L9) fun M11 L12 =>
  gs_b1 (f_X6_now M11) fun v14 =>
  some (v14, M11, L12)
  else
  some ((-1 : Int32), M, L)
def l_X11_people_22 (x1 : Int32) : Nat → Int32 → Int32 → gs_M → Option (Int32 × Int32 × gs_M)
  | 0, _, _, _ => none
  | f + 1, x2, x3, M =>
    gs_b1 (f_X9_crowd M) fun v1 =>
    if v1 ≤ x3 then
    some (x2, x3, M)
    else
    gs_b2 (if x1 = (0 : Int32) then
    gs_b1 (f_X6_of M x3 (5 : Int32)) fun v19 =>
    some ((if v19 = (0 : Int32) then (1 : Int32) else (0 : Int32) : Int32), M)
    else
    if x1 = (1 : Int32) then
    gs_b1 (f_X6_of M x3 (0 : Int32)) fun v15 =>
    some ((if v15 = (0 : Int32) then (1 : Int32) else (0 : Int32) : Int32), M)
    else
    gs_b1 (f_X4_holding M) fun v10 =>
    gs_b2 (f_X11_wouldBeGuilty M x3 v10) fun v12 M13 =>
    some (v12, M13)) fun y4 M5 =>
    l_X11_people_22 x1 f (x2 ||| (if y4 = (0 : Int32) then (0 : Int32) else ((1 : Int32) <<< (x3 &&& 31)) : Int32)) (x3 + (1 : Int32)) M5
def f_X11_people (M : gs_M) (x1 : Int32) : Option (Int32 × gs_M) :=
  gs_b1 (f_X11_hasTown M) fun v1 =>
  if v1 = (0 : Int32) then
  some ((-1 : Int32), M)
  else
  if x1 < (0 : Int32) then
  some ((-1 : Int32), M)
  else
  if x1 ≤ (2 : Int32) then
  gs_b3 (l_X11_people_22 x1 gs_FU (0 : Int32) (0 : Int32) M) fun y6 y7 M8 =>
  some (y6, M8)
  else
  some ((-1 : Int32), M)
def f_X11_points (M : gs_M) (x1 : Int32) : Option (Int32 × gs_M) :=
  gs_b1 (f_X11_isPerson M x1) fun v1 =>
  gs_b2 (if v1 = (0 : Int32) then
  some ((-1000000 : Int32), M)
  else
  gs_b1 (f_X4_holding M) fun v8 =>
  gs_b2 (f_X4_caseOf M x1 v8) fun v10 M11 =>
  some (v10, M11)) fun y3 M4 =>
  some (y3, M4)
def l_X11_rests_61 (M : gs_M) (x1 : Int32) (x2 : Int32) (x3 : Int32) (x4 : Int32) : Nat → Int32 → Int32 → Option (Int32 × gs_M)
  | 0, _, _ => none
  | f + 1, x5, x6 =>
    if (4 : Int32) ≤ x6 then
    some ((if x2 = (-1 : Int32) then x5 else (-1 : Int32) : Int32), M)
    else
    gs_b1 (gs_dv x6 (2 : Int32)) fun v4 =>
    gs_b1 (gs_rm9 x6 (2 : Int32)) fun v6 =>
    gs_b1 (f_X11_share x3 v4 v6) fun v8 =>
    gs_b1 (f_X11_share x3 ((1 : Int32) - v4) v6) fun v10 =>
    if v8 < v10 then
    l_X11_rests_61 M x1 x2 x3 x4 f x5 (x6 + (1 : Int32))
    else
    gs_b1 (f_X11_share x4 v6 v4) fun v13 =>
    gs_b1 (f_X11_share x4 ((1 : Int32) - v6) v4) fun v15 =>
    if v13 < v15 then
    l_X11_rests_61 M x1 x2 x3 x4 f x5 (x6 + (1 : Int32))
    else
    if x5 = x2 then
    some (((10 : Int32) * v4) + v6, M)
    else
    l_X11_rests_61 M x1 x2 x3 x4 f (x5 + (1 : Int32)) (x6 + (1 : Int32))
def f_X11_rests (M : gs_M) (x1 : Int32) (x2 : Int32) : Option (Int32 × gs_M) :=
  gs_b1 (f_X11_isMarried M x1) fun v1 =>
  if v1 = (0 : Int32) then
  some ((-1 : Int32), M)
  else
  if (-1 : Int32) ≤ x2 then
  gs_b1 (f_X4_holding M) fun v5 =>
  gs_b2 (f_X4_caseOf M x1 v5) fun v7 M8 =>
  gs_b1 (f_X9_spouse M8 x1) fun v10 =>
  gs_b1 (f_X4_holding M8) fun v12 =>
  gs_b2 (f_X4_caseOf M8 v10 v12) fun v14 M15 =>
  l_X11_rests_61 M15 x1 x2 v7 v14 gs_FU (0 : Int32) (0 : Int32)
  else
  some ((-1 : Int32), M)
def f_X11_rule (M : gs_M) (x1 : Int32) : Option (Int32) :=
  gs_b1 (f_X11_hasTown M) fun v1 =>
  gs_b1 (if v1 = (0 : Int32) then
  some ((-1 : Int32))
  else
  if x1 < (0 : Int32) then
  some ((-1 : Int32))
  else
  if (3 : Int32) ≤ x1 then
  some ((-1 : Int32))
  else
  gs_b1 (f_X9_ruled M x1) fun v9 =>
  some (v9)) fun y3 =>
  some y3
def f_X10_has (M : gs_M) (x1 : Int32) : Option (Int32) :=
  gs_b1 (gs_ckZ (if x1 < (0 : Int32) then (0 : Int32) else if (M 95 2) ≤ x1 then (0 : Int32) else (1 : Int32) : Int32)) fun z1 =>
  some z1
def l_X11_changeBy_4 (M : gs_M) (x1 : Int32) : Nat → Int32 → Int32 → Option (Int32 × Int32)
  | 0, _, _ => none
  | f + 1, x2, x3 =>
    if (9 : Int32) ≤ x3 then
    some (x2, x3)
    else
    gs_b1 (if ((x1 >>> (x3 &&& 31)) &&& (1 : Int32)) = (1 : Int32) then
    gs_b1 (gs_rd M 146 10 x3) fun v6 =>
    some (x2 + v6)
    else
    some (x2)) fun y2 =>
    l_X11_changeBy_4 M x1 f y2 (x3 + (1 : Int32))
def f_X11_changeBy (M : gs_M) (x1 : Int32) : Option (Int32) :=
  gs_b2 (l_X11_changeBy_4 M x1 gs_FU (0 : Int32) (0 : Int32)) fun y1 y2 =>
  some y1
def l_X11_seem_43 (x1 : Int32) (x2 : Int32) (x3 : Int32) : Nat → Int32 → Int32 → gs_M → Option (Int32 × Int32 × gs_M)
  | 0, _, _, _ => none
  | f + 1, x4, x5, M =>
    gs_b1 (f_X9_hours M) fun v1 =>
    if v1 ≤ x5 then
    some (x4, x5, M)
    else
    gs_b1 (f_X10_toldAt M x2 x5) fun v4 =>
    gs_b2 (if (if v4 = x1 then (1 : Int32) else (0 : Int32) : Int32) = (0 : Int32) then
    some ((0 : Int32), M)
    else
    gs_b2 (f_X4_pointsNow M x1 x5 (0 : Int32)) fun v11 M12 =>
    some (v11, M12)) fun y6 M7 =>
    gs_b2 (if (if v4 = x1 then (1 : Int32) else (0 : Int32) : Int32) = (0 : Int32) then
    some ((0 : Int32), M7)
    else
    gs_b2 (f_X4_pointsNow M7 x1 x5 (1 : Int32)) fun v19 M20 =>
    some (v19 - y6, M20)) fun y14 M15 =>
    gs_b1 (gs_wr M15 146 10 x5 y14) fun M23 =>
    l_X11_seem_43 x1 x2 x3 f (x4 + y6) (x5 + (1 : Int32)) M23
def l_X11_seem_144 (M : gs_M) (x1 : Int32) (x2 : Int32) (x4 : Int32) : Nat → Int32 → Int32 → Option (Int32 × Int32)
  | 0, _, _ => none
  | f + 1, x3, x5 =>
    gs_b1 (f_X9_hours M) fun v1 =>
    if ((1 : Int32) <<< (v1 &&& 31)) ≤ x5 then
    some (x3, x5)
    else
    gs_b1 (if x3 = (-1 : Int32) then
    some ((1 : Int32))
    else
    gs_b1 (f_J6_bitCount_0f7a4 x5) fun v8 =>
    gs_b1 (f_J6_bitCount_0f7a4 x3) fun v10 =>
    if v10 ≤ v8 then
    some ((0 : Int32))
    else
    some ((1 : Int32))) fun y4 =>
    gs_b1 (if y4 = (0 : Int32) then
    some (x3)
    else
    gs_b1 (f_X11_changeBy M x5) fun v17 =>
    gs_b1 (f_X9_ruled M (1 : Int32)) fun v19 =>
    if v19 ≤ (x4 + v17) then
    some (x3)
    else
    some (x5)) fun y13 =>
    l_X11_seem_144 M x1 x2 x4 f y13 (x5 + (1 : Int32))
def f_X11_seem (M : gs_M) (x1 : Int32) (x2 : Int32) : Option (Int32 × gs_M) :=
  gs_b1 (f_X11_isPerson M x1) fun v1 =>
  if v1 = (0 : Int32) then
  some ((-1 : Int32), M)
  else
  gs_b1 (f_X10_has M x2) fun v4 =>
  if v4 = (0 : Int32) then
  some ((-1 : Int32), M)
  else
  gs_b1 (f_X4_holding M) fun v7 =>
  gs_b2 (f_X4_caseOf M x1 v7) fun v9 M10 =>
  gs_b3 (l_X11_seem_43 x1 x2 (-1 : Int32) gs_FU v9 (0 : Int32) M10) fun y12 y13 M14 =>
  gs_b2 (l_X11_seem_144 M14 x1 x2 y12 gs_FU (-1 : Int32) (0 : Int32)) fun y16 y17 =>
  some (y16, M14)
def f_X11_sleeps (M : gs_M) (x1 : Int32) : Option (Int32 × gs_M) :=
  gs_b1 (f_X11_isPerson M x1) fun v1 =>
  gs_b2 (if v1 = (0 : Int32) then
  some ((-1 : Int32), M)
  else
  gs_b2 (f_X11_partsAsleep M x1) fun v8 M9 =>
  some (v8, M9)) fun y3 M4 =>
  some (y3, M4)
def f_X4_wakesWith (M : gs_M) (x1 : Int32) (x2 : Int32) (x3 : Int32) : Option (Int32 × gs_M) :=
  gs_b1 (f_X6_of M x2 (1 : Int32)) fun v1 =>
  gs_b2 (f_X4_wakesIf M x2 x3 x1 v1) fun v3 M4 =>
  some (v3, M4)
def l_X11_tells_27 (x1 : Int32) (x2 : Int32) : Nat → Int32 → Int32 → Int32 → gs_M → Option (Int32 × Int32 × Int32 × gs_M)
  | 0, _, _, _, _ => none
  | f + 1, x3, x4, x5, M =>
    gs_b1 (f_X9_hours M) fun v1 =>
    if v1 ≤ x5 then
    some (x3, x4, x5, M)
    else
    gs_b2 (f_X4_wakesNow M x1 x5) fun v4 M5 =>
    gs_b2 (f_X4_wakesWith M5 (0 : Int32) x1 x5) fun v7 M8 =>
    l_X11_tells_27 x1 x2 f (if (if 0 ≤ (v4 - v7) then (v4 - v7) else 0 - (v4 - v7) : Int32) ≤ x4 then x3 else x5 : Int32) (if (if 0 ≤ (v4 - v7) then (v4 - v7) else 0 - (v4 - v7) : Int32) ≤ x4 then x4 else (if 0 ≤ (v4 - v7) then (v4 - v7) else 0 - (v4 - v7) : Int32) : Int32) (x5 + (1 : Int32)) M8
def f_X11_tells (M : gs_M) (x1 : Int32) (x2 : Int32) : Option (Int32 × gs_M) :=
  gs_b1 (f_X11_isPerson M x1) fun v1 =>
  if v1 = (0 : Int32) then
  some ((-1 : Int32), M)
  else
  if x2 < (0 : Int32) then
  some ((-1 : Int32), M)
  else
  if x2 ≤ (1 : Int32) then
  gs_b4 (l_X11_tells_27 x1 x2 gs_FU (0 : Int32) (-1 : Int32) (0 : Int32) M) fun y6 y7 y8 M9 =>
  some ((if x2 = (0 : Int32) then y6 else y7 : Int32), M9)
  else
  some ((-1 : Int32), M)
def f_X10_add (M : gs_M) : Option (Int32 × gs_M) :=
  if (4 : Int32) ≤ (M 95 2) then
  some ((-1 : Int32), M)
  else
  gs_b2 (f_X10_read M) fun v2 M3 =>
  if v2 = (-1 : Int32) then
  gs_b1 (gs_cpy M3 97 9 (0 : Int32) 96 36 ((M3 95 2) * (9 : Int32)) (9 : Int32)) fun M7 =>
  gs_b1 (some (gs_up M7 95 2 ((M7 95 2) + (1 : Int32)))) fun M9 =>
  some ((M9 95 2) - (1 : Int32), M9)
  else
  some ((-1 : Int32), M3)
def f_X4_hasRoom (M : gs_M) : Option (Int32) :=
  gs_b1 (gs_ckZ (if (4 : Int32) ≤ (M 105 4) then (0 : Int32) else (1 : Int32) : Int32)) fun z1 =>
  some z1
def f_X4_nextLaw (M : gs_M) : Option (Nat) :=
  gs_b1 (f_X4_hasRoom M) fun v1 =>
  gs_b1 (gs_rdq 106 4 (if v1 = (0 : Int32) then (3 : Int32) else (M 105 4) : Int32)) fun r3 =>
  some r3
def f_X4_addNext (M : gs_M) : Option (Int32 × gs_M) :=
  gs_b1 (f_X4_hasRoom M) fun v1 =>
  if v1 = (0 : Int32) then
  some ((-1 : Int32), M)
  else
  gs_b1 (some (gs_up M 105 4 ((M 105 4) + (1 : Int32)))) fun M5 =>
  some ((M5 105 4) - (1 : Int32), M5)
def f_X11_enact (M : gs_M) : Option (Int32 × gs_M) :=
  gs_b1 (f_X4_hasRoom M) fun v1 =>
  if v1 = (0 : Int32) then
  some ((-1 : Int32), M)
  else
  gs_b1 (f_X4_nextLaw M) fun r4 =>
  gs_b2 (f_X3_read M r4) fun v6 M7 =>
  if v6 = (-1 : Int32) then
  gs_b2 (f_X4_addNext M7) fun v10 M11 =>
  some (v10, M11)
  else
  some ((-1 : Int32), M7)
def f_X9_copyFrom (M : gs_M) : Option (gs_M) :=
  gs_b1 (gs_cpy M 7 3 (0 : Int32) 4 3 (0 : Int32) (3 : Int32)) fun M2 =>
  gs_b1 (gs_cpy M2 8 40 (0 : Int32) 5 40 (0 : Int32) (40 : Int32)) fun M4 =>
  gs_b1 (some (gs_up M4 3 2 (M4 6 2))) fun M6 =>
  some M6
def l_X6_begin_2  : Nat → Int32 → gs_M → Option (Int32 × gs_M)
  | 0, _, _ => none
  | f + 1, x2, M =>
    if (173 : Int32) ≤ x2 then
    some (x2, M)
    else
    gs_b1 (gs_wr M 10 173 x2 (0 : Int32)) fun M3 =>
    l_X6_begin_2  f (x2 + (1 : Int32)) M3
def l_X6_begin_24  : Nat → Int32 → gs_M → Option (Int32 × gs_M)
  | 0, _, _ => none
  | f + 1, x2, M =>
    gs_b1 (f_X9_crowd M) fun v1 =>
    if v1 ≤ x2 then
    some (x2, M)
    else
    gs_b1 (f_X9_told M x2 (0 : Int32)) fun v4 =>
    gs_b1 (f_X6_set M x2 (0 : Int32) v4) fun M6 =>
    gs_b1 (f_X9_told M6 x2 (2 : Int32)) fun v8 =>
    gs_b1 (f_X6_set M6 x2 (1 : Int32) v8) fun M10 =>
    gs_b1 (f_X9_told M10 x2 (3 : Int32)) fun v12 =>
    gs_b1 (f_X6_set M10 x2 (2 : Int32) v12) fun M14 =>
    l_X6_begin_24  f (x2 + (1 : Int32)) M14
def f_X6_begin (M : gs_M) : Option (gs_M) :=
  gs_b2 (l_X6_begin_2 gs_FU (0 : Int32) M) fun y1 M2 =>
  gs_b2 (l_X6_begin_24 gs_FU (0 : Int32) M2) fun y4 M5 =>
  some M5
def f_X1_forget (M : gs_M) : Option (gs_M) :=
  gs_b1 (some (gs_up M 134 7 (0 : Int32))) fun M2 =>
  some M2
def f_X11_settle (M : gs_M) : Option (Int32 × gs_M) :=
  gs_b2 (f_X9_read M) fun v1 M2 =>
  if v1 = (-1 : Int32) then
  gs_b1 (f_X9_copyFrom M2) fun M5 =>
  gs_b1 (f_X6_begin M5) fun M7 =>
  gs_b1 (f_X0_forget M7) fun M9 =>
  gs_b1 (f_X1_forget M9) fun M11 =>
  gs_b1 (some (gs_up M11 0 14 (0 : Int32))) fun M14 =>
  gs_b1 (f_X9_crowd M14) fun v15 =>
  some (v15, M14)
  else
  some ((-1 : Int32), M2)
def f_X11_text (M : gs_M) (x1 : Int32) : Option (Int32 × gs_M) :=
  gs_b2 (if x1 = (0 : Int32) then
  gs_b2 (f_X11_settle M) fun v14 M15 =>
  some (v14, M15)
  else
  if x1 = (1 : Int32) then
  gs_b2 (f_X11_enact M) fun v11 M12 =>
  some (v11, M12)
  else
  if x1 = (2 : Int32) then
  gs_b2 (f_X10_add M) fun v8 M9 =>
  some (v8, M9)
  else
  some ((-1 : Int32), M)) fun y1 M2 =>
  gs_b1 (if y1 = (-1 : Int32) then
  some (M2)
  else
  gs_b2 (f_X7_keep M2 (0 : Int32)) fun v21 M22 =>
  some (M22)) fun M17 =>
  some (y1, M17)
def l_X8_gather_68 (x1 : Int32) (x2 : Int32) : Nat → Int32 → gs_M → Option (Int32 × gs_M)
  | 0, _, _ => none
  | f + 1, x3, M =>
    gs_b1 (f_X9_hours M) fun v1 =>
    if v1 ≤ x3 then
    some (x3, M)
    else
    gs_b2 (f_X4_wakesNow M x2 x3) fun v4 M5 =>
    gs_b1 (gs_wr M5 145 72 (((M 140 8) * (9 : Int32)) + x3) ((10 : Int32) - v4)) fun M8 =>
    l_X8_gather_68 x1 x2 f (x3 + (1 : Int32)) M8
def l_X8_gather_9  : Nat → Int32 → Int32 → gs_M → Option (Int32 × Int32 × gs_M)
  | 0, _, _, _ => none
  | f + 1, x1, x2, M =>
    gs_b1 (f_X9_crowd M) fun v1 =>
    if v1 ≤ x2 then
    some (x1, x2, M)
    else
    gs_b1 (f_X6_of M x2 (5 : Int32)) fun v4 =>
    gs_b2 (if v4 = (0 : Int32) then
    if (6561 : Int32) < (x1 * ((M 140 9) + (1 : Int32))) then
    some (x1, M)
    else
    gs_b1 (gs_wr M 143 8 (M 140 8) x2) fun M13 =>
    gs_b1 (gs_wr M13 142 8 (M13 140 8) x1) fun M15 =>
    gs_b2 (l_X8_gather_68 x1 x2 gs_FU (0 : Int32) M15) fun y16 M17 =>
    gs_b1 (some (gs_up M17 140 8 ((M17 140 8) + (1 : Int32)))) fun M20 =>
    some (x1 * ((M20 140 9) + (1 : Int32)), M20)
    else
    some (x1, M)) fun y6 M7 =>
    l_X8_gather_9  f y6 (x2 + (1 : Int32)) M7
def f_X8_gather (M : gs_M) : Option (Int32 × gs_M) :=
  gs_b1 (some (gs_up M 140 8 (0 : Int32))) fun M2 =>
  gs_b3 (l_X8_gather_9 gs_FU (1 : Int32) (0 : Int32) M2) fun y3 y4 M5 =>
  some (y3, M5)
def l_X8_spread_7 (x1 : Int32) : Nat → Int32 → Int32 → Int32 → gs_M → Option (Int32 × Int32 × Int32 × gs_M)
  | 0, _, _, _, _ => none
  | f + 1, x2, x3, x4, M =>
    if (M 140 8) ≤ x4 then
    some (x2, x3, x4, M)
    else
    gs_b1 (gs_rm9 x2 ((M 140 9) + (1 : Int32))) fun v2 =>
    gs_b1 (gs_wr M 144 8 x4 v2) fun M5 =>
    gs_b1 (gs_dv x2 ((M5 140 9) + (1 : Int32))) fun v6 =>
    gs_b1 (gs_rd M5 144 8 x4) fun v8 =>
    l_X8_spread_7 x1 f v6 (x3 + v8) (x4 + (1 : Int32)) M5
def f_X8_spread (M : gs_M) (x1 : Int32) : Option (Int32 × gs_M) :=
  gs_b4 (l_X8_spread_7 x1 gs_FU x1 (0 : Int32) (0 : Int32) M) fun y1 y2 y3 M4 =>
  some (y2, M4)
def f_X8_gainBy (M : gs_M) (x1 : Int32) (x2 : Int32) (x3 : Int32) : Option (Int32) :=
  gs_b1 (gs_rd M 144 8 x2) fun v1 =>
  if (M 140 9) ≤ v1 then
  some (-1 : Int32)
  else
  gs_b1 (gs_rd M 142 8 x2) fun v4 =>
  gs_b1 (gs_rd M 141 6561 (x1 + v4)) fun v6 =>
  if v6 = (-1 : Int32) then
  some (-1 : Int32)
  else
  gs_b1 (gs_rd M 145 72 ((x2 * (9 : Int32)) + x3)) fun v9 =>
  gs_b1 (gs_rd M 142 8 x2) fun v11 =>
  gs_b1 (gs_rd M 141 6561 (x1 + v11)) fun v13 =>
  some (v9 + v13)
def l_X8_bestFrom_39 (M : gs_M) (x1 : Int32) (x2 : Int32) : Nat → Int32 → Int32 → Option (Int32 × Int32)
  | 0, _, _ => none
  | f + 1, x3, x4 =>
    if (M 140 8) ≤ x4 then
    some (x3, x4)
    else
    gs_b1 (f_X8_gainBy M x1 x4 x2) fun v2 =>
    l_X8_bestFrom_39 M x1 x2 f (if x3 < v2 then v2 else x3 : Int32) (x4 + (1 : Int32))
def f_X8_bestFrom (M : gs_M) (x1 : Int32) : Option (Int32 × gs_M) :=
  gs_b2 (f_X8_spread M x1) fun v1 M2 =>
  gs_b1 (f_X9_hours M2) fun v4 =>
  if v1 < v4 then
  gs_b2 (l_X8_bestFrom_39 M2 x1 v1 gs_FU (-1 : Int32) (0 : Int32)) fun y7 y8 =>
  some (y7, M2)
  else
  gs_b1 (f_X9_hours M2) fun v10 =>
  some ((if v1 = v10 then (0 : Int32) else (-1 : Int32) : Int32), M2)
def l_X8_fill_14 (x1 : Int32) (x2 : Int32) : Nat → Int32 → gs_M → Option (Int32 × gs_M)
  | 0, _, _ => none
  | f + 1, x3, M =>
    if x3 < (0 : Int32) then
    some (x3, M)
    else
    gs_b2 (f_X8_bestFrom M x3) fun v2 M3 =>
    gs_b1 (gs_wr M3 141 6561 x3 v2) fun M6 =>
    l_X8_fill_14 x1 x2 f (x3 + (-1 : Int32)) M6
def f_X8_fill (M : gs_M) (x1 : Int32) : Option (Int32 × gs_M) :=
  gs_b1 (some (gs_up M 140 9 x1)) fun M2 =>
  gs_b2 (f_X8_gather M2) fun v3 M4 =>
  gs_b2 (l_X8_fill_14 x1 v3 gs_FU (v3 - (1 : Int32)) M4) fun y6 M7 =>
  gs_b1 (gs_rd M7 141 6561 (0 : Int32)) fun v9 =>
  some (v9, M7)
def l_X8_leastRow_26 (M : gs_M) (x1 : Int32) (x2 : Int32) (x3 : Int32) : Nat → Int32 → Option (Int32)
  | 0, _ => none
  | f + 1, x4 =>
    if ((M 140 8) - (1 : Int32)) ≤ x4 then
    some (x4)
    else
    gs_b1 (f_X8_gainBy M x1 x4 x3) fun v2 =>
    gs_b1 (gs_rd M 141 6561 x1) fun v4 =>
    if v2 = v4 then
    some (x4)
    else
    l_X8_leastRow_26 M x1 x2 x3 f (x4 + (1 : Int32))
def l_X8_leastRow_6  : Nat → Int32 → Int32 → Int32 → gs_M → Option (Int32 × Int32 × Int32 × gs_M)
  | 0, _, _, _, _ => none
  | f + 1, x1, x2, x3, M =>
    gs_b1 (f_X9_hours M) fun v1 =>
    if v1 ≤ x3 then
    some (x1, x2, x3, M)
    else
    gs_b2 (f_X8_spread M x1) fun v4 M5 =>
    gs_b1 (l_X8_leastRow_26 M5 x1 x2 x3 gs_FU (0 : Int32)) fun y7 =>
    gs_b1 (gs_rd M5 143 8 y7) fun v9 =>
    gs_b1 (gs_rd M5 142 8 y7) fun v11 =>
    l_X8_leastRow_6  f (x1 + v11) ((x2 * (10 : Int32)) + v9) (x3 + (1 : Int32)) M5
def f_X8_leastRow (M : gs_M) : Option (Int32 × gs_M) :=
  gs_b4 (l_X8_leastRow_6 gs_FU (0 : Int32) (0 : Int32) (0 : Int32) M) fun y1 y2 y3 M4 =>
  some (y2, M4)
def f_X11_timetable (M : gs_M) (x1 : Int32) (x2 : Int32) : Option (Int32 × gs_M) :=
  gs_b1 (f_X11_hasTown M) fun v1 =>
  if v1 = (0 : Int32) then
  some ((-1 : Int32), M)
  else
  if x1 < (1 : Int32) then
  some ((-1 : Int32), M)
  else
  if (2 : Int32) < x1 then
  some ((-1 : Int32), M)
  else
  if x2 < (0 : Int32) then
  some ((-1 : Int32), M)
  else
  if x2 ≤ (1 : Int32) then
  gs_b2 (f_X8_fill M x1) fun v8 M9 =>
  gs_b2 (if v8 = (-1 : Int32) then
  some (v8, M9)
  else
  if x2 = (1 : Int32) then
  some (v8, M9)
  else
  gs_b2 (f_X8_leastRow M9) fun v17 M18 =>
  some (v17, M18)) fun y11 M12 =>
  some (y11, M12)
  else
  some ((-1 : Int32), M)
def f_X0_takeBack (M : gs_M) : Option (Int32 × gs_M) :=
  if (M 13 2) = (0 : Int32) then
  some ((-1 : Int32), M)
  else
  gs_b1 (gs_rm9 (((M 13 1) + (40 : Int32)) - (1 : Int32)) (40 : Int32)) fun v2 =>
  gs_b1 (some (gs_up M 13 1 v2)) fun M5 =>
  gs_b1 (gs_rdq 14 40 (M5 13 1)) fun r6 =>
  gs_b1 (f_X6_copyFrom M5 9 r6) fun M8 =>
  gs_b1 (some (gs_up M8 13 2 ((M8 13 2) - (1 : Int32)))) fun M11 =>
  some (M11 13 2, M11)
def f_X11_undo (M : gs_M) : Option (Int32 × gs_M) :=
  gs_b2 (f_X0_takeBack M) fun v1 M2 =>
  some (v1, M2)
def f_X11_wakes (M : gs_M) (x1 : Int32) (x2 : Int32) : Option (Int32 × gs_M) :=
  gs_b1 (f_X11_isPerson M x1) fun v1 =>
  gs_b2 (if v1 = (0 : Int32) then
  some ((-1 : Int32), M)
  else
  gs_b1 (f_X11_isHour M x2) fun v8 =>
  if v8 = (0 : Int32) then
  some ((-1 : Int32), M)
  else
  gs_b2 (f_X4_wakesNow M x1 x2) fun v11 M12 =>
  some (v11, M12)) fun y3 M4 =>
  some (y3, M4)
def f_X10_hold (M : gs_M) (x1 : Int32) : Option (Int32 × gs_M) :=
  if x1 = (-1 : Int32) then
  gs_b1 (some (gs_up M 95 3 x1)) fun M3 =>
  some ((1 : Int32), M3)
  else
  gs_b1 (f_X10_has M x1) fun v4 =>
  if v4 = (0 : Int32) then
  some ((0 : Int32), M)
  else
  gs_b1 (some (gs_up M 95 3 x1)) fun M8 =>
  some ((1 : Int32), M8)
def f_X11_watch (M : gs_M) (x1 : Int32) : Option (Int32 × gs_M) :=
  gs_b2 (f_X10_hold M x1) fun v1 M2 =>
  gs_b1 (gs_ckZ v1) fun z4 =>
  some (z4, M2)
def f_X11_watched (M : gs_M) (x1 : Int32) (x2 : Int32) : Option (Int32) :=
  gs_b1 (f_X10_has M x1) fun v1 =>
  if v1 = (0 : Int32) then
  some (-1000000 : Int32)
  else
  if x2 < (0 : Int32) then
  some (-1000000 : Int32)
  else
  if x2 < (9 : Int32) then
  gs_b1 (f_X10_toldAt M x1 x2) fun v6 =>
  some v6
  else
  some (-1000000 : Int32)
def l_X1_heldOf_5 (x1 : Int32) (x2 : Int32) : Nat → Int64 → Int32 → gs_M → Option (Int64 × Int32 × gs_M)
  | 0, _, _, _ => none
  | f + 1, x3, x5, M =>
    if (M 134 7) ≤ x5 then
    some (x3, x5, M)
    else
    gs_b1 (gs_rd M 135 12 x5) fun v2 =>
    gs_b1 (gs_rd M 135 12 x5) fun v4 =>
    gs_b1 (gs_rd M 136 12 x5) fun v6 =>
    gs_b2 (f_X4_wakesWith M (if v2 = x1 then x2 else (0 : Int32) : Int32) v4 v6) fun v8 M9 =>
    gs_b1 (gs_rd M9 137 12 x5) fun v11 =>
    l_X1_heldOf_5 x1 x2 f (x3 * (if v11 = (0 : Int32) then (Int32.toInt64 ((10 : Int32) - v8)) else (Int32.toInt64 v8) : Int64)) (x5 + (1 : Int32)) M9
def f_X1_heldOf (M : gs_M) (x1 : Int32) (x2 : Int32) : Option (Int64 × gs_M) :=
  gs_b3 (l_X1_heldOf_5 x1 x2 gs_FU (1 : Int64) (0 : Int32) M) fun y1 y2 M3 =>
  some (y1, M3)
def l_X1_weigh_2 (x1 : Int32) : Nat → Int32 → gs_M → gs_L → Option (Int32 × gs_M × gs_L)
  | 0, _, _, _ => none
  | f + 1, x2, M, L =>
    gs_b1 (f_X9_crowd M) fun v1 =>
    if v1 ≤ x2 then
    some (x2, M, L)
    else
    gs_b2 (f_X1_heldOf M x2 x1) fun v4 M5 =>
    gs_b1 (gs_wrl L 138 8 x2 v4) fun L8 =>
    l_X1_weigh_2 x1 f (x2 + (1 : Int32)) M5 L8
def f_X1_weigh (M : gs_M) (L : gs_L) (x1 : Int32) : Option (gs_M × gs_L) :=
  gs_b3 (l_X1_weigh_2 x1 gs_FU (0 : Int32) M L) fun y1 M2 L3 =>
  some (M2, L3)
def f_X1_wakefulBy (M : gs_M) (L : gs_L) (x1 : Int32) (x2 : Int32) (x3 : Int32) (x4 : Int32) : Option (Int32 × gs_M) :=
  gs_b1 (gs_rdl L 138 8 x2) fun v1 =>
  gs_b2 (f_X4_wakesWith M (0 : Int32) x2 x3) fun v3 M4 =>
  gs_b2 (f_X4_wakesWith M4 x1 x2 x3) fun v6 M7 =>
  some ((if v6 < (5 : Int32) then (if v3 < (5 : Int32) then (0 : Int32) else (x4 - (if (lg_cmp v1 (0 : Int64)) ≤ (0 : Int32) then (0 : Int32) else (1 : Int32) : Int32)) : Int32) else ((if v3 < (5 : Int32) then (0 : Int32) else (x4 - (if (lg_cmp v1 (0 : Int64)) ≤ (0 : Int32) then (0 : Int32) else (1 : Int32) : Int32)) : Int32) + (if (lg_cmp v1 (0 : Int64)) ≤ (0 : Int32) then (0 : Int32) else (1 : Int32) : Int32)) : Int32), M7)
def l_X1_nextLook_4 (M : gs_M) (L : gs_L) (x1 : Int32) : Nat → Int32 → Int32 → Option (Int32 × Int32)
  | 0, _, _ => none
  | f + 1, x2, x3 =>
    gs_b1 (f_X9_crowd M) fun v1 =>
    if v1 ≤ x3 then
    some (x2, x3)
    else
    gs_b1 (gs_rdl L 138 8 x3) fun v4 =>
    l_X1_nextLook_4 M L x1 f (x2 + (if (lg_cmp v4 (0 : Int64)) ≤ (0 : Int32) then (0 : Int32) else (1 : Int32) : Int32)) (x3 + (1 : Int32))
def l_X1_nextLook_68 (L : gs_L) (x1 : Int32) (x2 : Int32) (x5 : Int32) : Nat → Int32 → Int32 → Int32 → gs_M → Option (Int32 × Int32 × Int32 × gs_M)
  | 0, _, _, _, _ => none
  | f + 1, x3, x4, x6, M =>
    gs_b1 (f_X9_hours M) fun v1 =>
    if v1 ≤ x6 then
    some (x3, x4, x6, M)
    else
    gs_b2 (f_X1_wakefulBy M L x1 x5 x6 x2) fun v4 M5 =>
    l_X1_nextLook_68 L x1 x2 x5 f (if x4 ≤ (if 0 ≤ (x2 - ((2 : Int32) * v4)) then (x2 - ((2 : Int32) * v4)) else 0 - (x2 - ((2 : Int32) * v4)) : Int32) then x3 else (((10 : Int32) * x5) + x6) : Int32) (if x4 ≤ (if 0 ≤ (x2 - ((2 : Int32) * v4)) then (x2 - ((2 : Int32) * v4)) else 0 - (x2 - ((2 : Int32) * v4)) : Int32) then x4 else (if 0 ≤ (x2 - ((2 : Int32) * v4)) then (x2 - ((2 : Int32) * v4)) else 0 - (x2 - ((2 : Int32) * v4)) : Int32) : Int32) (x6 + (1 : Int32)) M5
def l_X1_nextLook_49 (L : gs_L) (x1 : Int32) (x2 : Int32) : Nat → Int32 → Int32 → Int32 → gs_M → Option (Int32 × Int32 × Int32 × gs_M)
  | 0, _, _, _, _ => none
  | f + 1, x3, x4, x5, M =>
    gs_b1 (f_X9_crowd M) fun v1 =>
    if v1 ≤ x5 then
    some (x3, x4, x5, M)
    else
    if x2 ≤ (0 : Int32) then
    some (x3, x4, x5, M)
    else
    gs_b4 (l_X1_nextLook_68 L x1 x2 x5 gs_FU x3 x4 (0 : Int32) M) fun y5 y6 y7 M8 =>
    l_X1_nextLook_49 L x1 x2 f y5 y6 (x5 + (1 : Int32)) M8
def f_X1_nextLook (M : gs_M) (L : gs_L) (x1 : Int32) : Option (Int32 × gs_M) :=
  gs_b2 (l_X1_nextLook_4 M L x1 gs_FU (0 : Int32) (0 : Int32)) fun y1 y2 =>
  gs_b4 (l_X1_nextLook_49 L x1 y1 gs_FU (-1 : Int32) (9 : Int32) (0 : Int32) M) fun y4 y5 y6 M7 =>
  some (y4, M7)
def l_X1_likeliestOne_4 (M : gs_M) (L : gs_L) : Nat → Int32 → Int32 → Option (Int32 × Int32)
  | 0, _, _ => none
  | f + 1, x1, x2 =>
    gs_b1 (f_X9_crowd M) fun v1 =>
    if v1 ≤ x2 then
    some (x1, x2)
    else
    gs_b1 (gs_rdl L 138 8 x2) fun v4 =>
    gs_b1 (gs_rdl L 138 8 x1) fun v6 =>
    l_X1_likeliestOne_4 M L f (if (lg_cmp v4 v6) ≤ (0 : Int32) then x1 else x2 : Int32) (x2 + (1 : Int32))
def f_X1_likeliestOne (M : gs_M) (L : gs_L) : Option (Int32) :=
  gs_b2 (l_X1_likeliestOne_4 M L gs_FU (0 : Int32) (1 : Int32)) fun y1 y2 =>
  some y1
def l_X1_sureness_4 (M : gs_M) (L : gs_L) : Nat → Int64 → Int32 → Option (Int64 × Int32)
  | 0, _, _ => none
  | f + 1, x1, x3 =>
    gs_b1 (f_X9_crowd M) fun v1 =>
    if v1 ≤ x3 then
    some (x1, x3)
    else
    gs_b1 (gs_rdl L 138 8 x3) fun v4 =>
    l_X1_sureness_4 M L f (x1 + v4) (x3 + (1 : Int32))
def f_X1_sureness (M : gs_M) (L : gs_L) : Option (Int32) :=
  gs_b2 (l_X1_sureness_4 M L gs_FU (0 : Int64) (0 : Int32)) fun y1 y2 =>
  gs_b1 (if (0 : Int32) < (lg_cmp y1 (0 : Int64)) then
  gs_b1 (f_X1_likeliestOne M L) fun v8 =>
  gs_b1 (gs_rdl L 138 8 v8) fun v10 =>
  gs_b1 (gs_dvl (v10 * (1000 : Int64)) y1) fun v12 =>
  some (Int64.toInt32 v12)
  else
  some ((0 : Int32))) fun y4 =>
  some y4
def f_X11_who (M : gs_M) (L : gs_L) (x1 : Int32) (x2 : Int32) : Option (Int32 × gs_M × gs_L) :=
  gs_b1 (f_X11_hasTown M) fun v1 =>
  if v1 = (0 : Int32) then
  some ((-1 : Int32), M, L)
  else
  if x1 < (1 : Int32) then
  some ((-1 : Int32), M, L)
  else
  if (9 : Int32) < x1 then
  some ((-1 : Int32), M, L)
  else
  if x2 < (0 : Int32) then
  some ((-1 : Int32), M, L)
  else
  if x2 ≤ (2 : Int32) then
  gs_b2 (f_X1_weigh M L x1) fun M8 L9 =>
  if x2 = (0 : Int32) then
  gs_b1 (f_X1_likeliestOne M8 L9) fun v22 =>
  some (v22, M8, L9)
  else
  gs_b2 (if x2 = (1 : Int32) then
  gs_b1 (f_X1_sureness M8 L9) fun v20 =>
  some (v20, M8)
  else
  gs_b2 (f_X1_nextLook M8 L9 x1) fun v17 M18 =>
  some (v17, M18)) fun y12 M13 =>
  some (y12, M13, L9)
  else
  some ((-1 : Int32), M, L)
def f_X11_worry (M : gs_M) (x1 : Int32) (x2 : Int32) : Option (Int32 × gs_M) :=
  gs_b1 (f_X11_isPerson M x1) fun v1 =>
  if v1 = (0 : Int32) then
  some ((-1 : Int32), M)
  else
  if x2 < (0 : Int32) then
  some ((-1 : Int32), M)
  else
  if x2 ≤ (9 : Int32) then
  gs_b1 (f_X6_of M x1 (1 : Int32)) fun v6 =>
  if v6 = x2 then
  some ((-1 : Int32), M)
  else
  gs_b1 (f_X0_keep M) fun M9 =>
  gs_b1 (f_X6_set M9 x1 (1 : Int32) x2) fun M11 =>
  some (v6, M11)
  else
  some ((-1 : Int32), M)
def f_X11_wronged (M : gs_M) (x1 : Int32) : Option (Int32 × gs_M) :=
  gs_b1 (f_X11_hasTown M) fun v1 =>
  gs_b2 (if v1 = (0 : Int32) then
  some ((-1 : Int32), M)
  else
  if x1 = (-1 : Int32) then
  gs_b2 (f_X11_wrongedBy M x1) fun v9 M10 =>
  some (v9, M10)
  else
  gs_b1 (f_X4_has M x1) fun v12 =>
  if v12 = (0 : Int32) then
  some ((-1 : Int32), M)
  else
  gs_b2 (f_X11_wrongedBy M x1) fun v15 M16 =>
  some (v15, M16)) fun y3 M4 =>
  some (y3, M4)
def f_X5_year (M : gs_M) (L : gs_L) (x1 : Int32) : Option (gs_M × gs_L) :=
  gs_b1 (f_X9_crowd M) fun v1 =>
  gs_b2 (f_X5_draw L v1) fun v3 L4 =>
  gs_b2 (f_X5_draw L4 (10 : Int32)) fun v6 L7 =>
  gs_b1 (f_X6_set M v3 (1 : Int32) v6) fun M9 =>
  gs_b2 (f_X5_draw L7 (10 : Int32)) fun v11 L12 =>
  gs_b2 (if x1 ≤ v11 then
  some (M9, L12)
  else
  gs_b1 (f_X9_crowd M9) fun v19 =>
  gs_b2 (f_X5_draw L12 v19) fun v21 L22 =>
  gs_b1 (f_X6_of M9 v21 (0 : Int32)) fun v24 =>
  gs_b1 (f_X6_set M9 v21 (0 : Int32) (if (9 : Int32) < (v24 + (3 : Int32)) then (9 : Int32) else (v24 + (3 : Int32)) : Int32)) fun M26 =>
  some (M26, L22)) fun M14 L15 =>
  gs_b2 (f_X5_pass M14 L15) fun M28 L29 =>
  some (M28, L29)
def l_X11_years_46 (x1 : Int32) (x2 : Int64) : Nat → Int32 → gs_M → gs_L → Option (Int32 × gs_M × gs_L)
  | 0, _, _, _ => none
  | f + 1, x4, M, L =>
    if x1 ≤ x4 then
    some (x4, M, L)
    else
    gs_b1 (f_X0_keep M) fun M2 =>
    gs_b2 (f_X5_year M2 L (M2 0 15)) fun M4 L5 =>
    l_X11_years_46 x1 x2 f (x4 + (1 : Int32)) M4 L5
def f_X11_years (M : gs_M) (L : gs_L) (x1 : Int32) (x2 : Int64) : Option (Int32 × gs_M × gs_L) :=
  gs_b1 (f_X11_hasTown M) fun v1 =>
  if v1 = (0 : Int32) then
  some ((-1 : Int32), M, L)
  else
  if x1 < (1 : Int32) then
  some ((-1 : Int32), M, L)
  else
  if (30 : Int32) < x1 then
  some ((-1 : Int32), M, L)
  else
  gs_b1 (f_X6_now M) fun v6 =>
  if v6 ≤ ((999 : Int32) - x1) then
  gs_b1 (f_X5_sow L x2) fun L9 =>
  gs_b3 (l_X11_years_46 x1 x2 gs_FU (0 : Int32) M L9) fun y11 M12 L13 =>
  gs_b1 (f_X6_now M12) fun v15 =>
  some (v15, M12, L13)
  else
  some ((-1 : Int32), M, L)
def f_X12_isPerson (M : gs_M) (x1 : Int32) : Option (Int32) :=
  gs_b1 (gs_ckZ (if x1 < (0 : Int32) then (0 : Int32) else if (M 147 24) ≤ x1 then (0 : Int32) else (1 : Int32) : Int32)) fun z1 =>
  some z1
def f_X12_isIn (x0 : Int64) (x2 : Int64) (x4 : Int64) : Option (Int32) :=
  gs_b1 (gs_ckZ (if (lg_cmp x0 x2) < (0 : Int32) then (0 : Int32) else if (0 : Int32) < (lg_cmp x0 x4) then (0 : Int32) else (1 : Int32) : Int32)) fun z1 =>
  some z1
def f_X12_of (M : gs_M) (x1 : Int32) (x2 : Int32) : Option (Int32) :=
  gs_b1 (gs_rd M 158 533 (((6 : Int32) * x1) + x2)) fun v1 =>
  some v1
def f_X12_conscience (M : gs_M) (x1 : Int32) : Option (Int32) :=
  gs_b1 (gs_rd M 154 40 (((5 : Int32) * x1) + (1 : Int32))) fun v1 =>
  some v1
def f_X12_lay (M : gs_M) (x1 : Int32) (x2 : Int32) (x3 : Int32) (x4 : Int32) (x5 : Int32) : Option (gs_M) :=
  gs_b1 (gs_wr M 151 128 (103 : Int32) x1) fun M2 =>
  gs_b1 (f_X12_conscience M2 x2) fun v3 =>
  gs_b1 (gs_wr M2 151 128 (99 : Int32) v3) fun M6 =>
  gs_b1 (f_X12_of M6 x2 (1 : Int32)) fun v7 =>
  gs_b1 (gs_wr M6 151 128 (119 : Int32) v7) fun M10 =>
  gs_b1 (gs_wr M10 151 128 (116 : Int32) x3) fun M12 =>
  gs_b1 (gs_wr M12 151 128 (104 : Int32) x4) fun M14 =>
  gs_b1 (gs_wr M14 151 128 (97 : Int32) x5) fun M16 =>
  some M16
def f_X12_starts (M : gs_M) (x2 : Int32) (x3 : Int32) : Option (gs_M) :=
  gs_b1 (some (gs_up M 147 5 (nI 149))) fun M2 =>
  gs_b1 (some (gs_up M2 147 8 x2)) fun M4 =>
  gs_b1 (some (gs_up M4 147 9 x3)) fun M6 =>
  gs_b1 (some (gs_up M6 147 10 (0 : Int32))) fun M8 =>
  gs_b1 (some (gs_up M8 147 11 (-1 : Int32))) fun M10 =>
  some M10
def l_X12_look_0  : Nat → gs_M → Option (gs_M)
  | 0, _ => none
  | f + 1, M =>
    if (M 147 9) ≤ (M 147 10) then
    some (M)
    else
    gs_b1 (gs_ckB (M 147 5).toNatClampNeg) fun r2 =>
    gs_b1 (gs_rd M r2 (gs_bl r2) ((M 147 8) + (M 147 10))) fun v4 =>
    if v4 = (32 : Int32) then
    gs_b1 (some (gs_up M 147 10 ((M 147 10) + (1 : Int32)))) fun M8 =>
    l_X12_look_0  f M8
    else
    some (M)
def f_X12_look (M : gs_M) : Option (Int32 × gs_M) :=
  gs_b1 (l_X12_look_0 gs_FU M) fun M1 =>
  gs_b1 (if (M1 147 9) ≤ (M1 147 10) then
  some ((-1 : Int32))
  else
  gs_b1 (gs_ckB (M1 147 5).toNatClampNeg) fun r7 =>
  gs_b1 (gs_rd M1 r7 (gs_bl r7) ((M1 147 8) + (M1 147 10))) fun v9 =>
  some (v9 &&& (255 : Int32))) fun y3 =>
  some (y3, M1)
def l_X12_isAmong_2 (x1 : Int32) : Nat → Int32 → Option (Int32)
  | 0, _ => none
  | f + 1, x2 =>
    if (gs_ln 3) ≤ x2 then
    some (0 : Int32)
    else
    gs_b1 (gs_chr 3 x2) fun v2 =>
    if v2 = x1 then
    some (1 : Int32)
    else
    l_X12_isAmong_2 x1 f (x2 + (1 : Int32))
def f_X12_isAmong (x1 : Int32) : Option (Int32) :=
  l_X12_isAmong_2 x1 gs_FU (0 : Int32)
def f_X12_fails (M : gs_M) : Option (Int32 × gs_M) :=
  gs_b1 (if (M 147 11) = (-1 : Int32) then
  gs_b1 (some (gs_up M 147 11 (M 147 10))) fun M6 =>
  some (M6)
  else
  some (M)) fun M1 =>
  some ((0 : Int32), M1)
def f_X12_takes (M : gs_M) (x1 : Int32) : Option (Int32 × gs_M) :=
  if (M 147 11) = (-1 : Int32) then
  gs_b2 (f_X12_look M) fun v7 M8 =>
  if v7 = x1 then
  gs_b1 (some (gs_up M8 147 10 ((M8 147 10) + (1 : Int32)))) fun M12 =>
  some ((1 : Int32), M12)
  else
  gs_b2 (f_X12_fails M8) fun v13 M14 =>
  gs_b1 (gs_ckZ v13) fun z16 =>
  some (z16, M14)
  else
  gs_b2 (f_X12_fails M) fun v2 M3 =>
  gs_b1 (gs_ckZ v2) fun z5 =>
  some (z5, M3)
def l_X12_isAmong_2_2 (x1 : Int32) : Nat → Int32 → Option (Int32)
  | 0, _ => none
  | f + 1, x2 =>
    if (gs_ln 2) ≤ x2 then
    some (0 : Int32)
    else
    gs_b1 (gs_chr 2 x2) fun v2 =>
    if v2 = x1 then
    some (1 : Int32)
    else
    l_X12_isAmong_2_2 x1 f (x2 + (1 : Int32))
def f_X12_isAmong_2 (x1 : Int32) : Option (Int32) :=
  l_X12_isAmong_2_2 x1 gs_FU (0 : Int32)
def f_X12_isDigit (M : gs_M) : Option (Int32) :=
  gs_b1 (if (M 147 9) ≤ (M 147 10) then
  some ((0 : Int32))
  else
  gs_b1 (gs_ckB (M 147 5).toNatClampNeg) fun r5 =>
  gs_b1 (gs_rd M r5 (gs_bl r5) ((M 147 8) + (M 147 10))) fun v7 =>
  if v7 < (48 : Int32) then
  some ((0 : Int32))
  else
  gs_b1 (gs_ckB (M 147 5).toNatClampNeg) fun r10 =>
  gs_b1 (gs_rd M r10 (gs_bl r10) ((M 147 8) + (M 147 10))) fun v12 =>
  if (57 : Int32) < v12 then
  some ((0 : Int32))
  else
  some ((1 : Int32))) fun y1 =>
  gs_b1 (gs_ckZ y1) fun z15 =>
  some z15
def f_X12_goesIn (M : gs_M) : Option (Int32 × gs_M) :=
  if (M 147 12) = (6 : Int32) then
  gs_b2 (f_X12_fails M) fun v6 M7 =>
  gs_b1 (gs_ckZ v6) fun z9 =>
  some (z9, M7)
  else
  gs_b1 (some (gs_up M 147 12 ((M 147 12) + (1 : Int32)))) fun M3 =>
  gs_b1 (some (gs_up M3 147 10 ((M3 147 10) + (1 : Int32)))) fun M5 =>
  some ((1 : Int32), M5)
def l_X12_atom_90 (G : Nat → Int32 → Int32 → gs_M → Option (Int32 × gs_M)) (x1 : Int32) : Nat → Int32 → Int32 → gs_M → Option (Int32 × gs_M)
  | 0, _, _, _ => none
  | f + 1, x2, x3, M =>
    gs_b1 (f_X12_isDigit M) fun v1 =>
    if v1 = (0 : Int32) then
    some (x2, M)
    else
    if (M 147 11) = (-1 : Int32) then
    if x3 = (4 : Int32) then
    gs_b2 (f_X12_fails M) fun v12 M13 =>
    some ((0 : Int32), M13)
    else
    gs_b1 (gs_ckB (M 147 5).toNatClampNeg) fun r6 =>
    gs_b1 (gs_rd M r6 (gs_bl r6) ((M 147 8) + (M 147 10))) fun v8 =>
    gs_b1 (some (gs_up M 147 10 ((M 147 10) + (1 : Int32)))) fun M11 =>
    l_X12_atom_90 G x1 f ((((10 : Int32) * x2) + v8) - (48 : Int32)) (x3 + (1 : Int32)) M11
    else
    some (x2, M)
def f_X12_atom (G : Nat → Int32 → Int32 → gs_M → Option (Int32 × gs_M)) (M : gs_M) : Option (Int32 × gs_M) :=
  gs_b2 (f_X12_look M) fun v1 M2 =>
  gs_b1 (f_X12_isAmong_2 v1) fun v4 =>
  if v4 = (0 : Int32) then
  if v1 = (91 : Int32) then
  gs_b2 (f_X12_goesIn M2) fun v17 M18 =>
  if v17 = (0 : Int32) then
  some ((0 : Int32), M18)
  else
  gs_b2 (G 2 0 0 M18) fun v21 M22 =>
  gs_b2 (f_X12_takes M22 (93 : Int32)) fun v24 M25 =>
  if v24 = (0 : Int32) then
  some ((0 : Int32), M25)
  else
  gs_b1 (some (gs_up M25 147 12 ((M25 147 12) - (1 : Int32)))) fun M29 =>
  some (v21, M29)
  else
  gs_b1 (f_X12_isDigit M2) fun v8 =>
  gs_b1 (if v8 = (0 : Int32) then
  gs_b2 (f_X12_fails M2) fun v14 M15 =>
  some (M15)
  else
  some (M2)) fun M10 =>
  l_X12_atom_90 G v1 gs_FU (0 : Int32) (0 : Int32) M10
  else
  gs_b1 (some (gs_up M2 147 10 ((M2 147 10) + (1 : Int32)))) fun M31 =>
  gs_b1 (gs_rd M31 151 128 v1) fun v32 =>
  some (v32, M31)
def f_X12_within (x0 : Int64) : Option (Int32) :=
  some (Int64.toInt32 (if (if x0 < (1000000 : Int64) then x0 else (1000000 : Int64) : Int64) < (-1000000 : Int64) then (-1000000 : Int64) else (if x0 < (1000000 : Int64) then x0 else (1000000 : Int64) : Int64) : Int64))
def l_X12_term_5 (G : Nat → Int32 → Int32 → gs_M → Option (Int32 × gs_M)) : Nat → Int32 → gs_M → Option (Int32 × gs_M)
  | 0, _, _ => none
  | f + 1, x1, M =>
    if (M 147 11) = (-1 : Int32) then
    gs_b2 (f_X12_look M) fun v2 M3 =>
    if v2 = (42 : Int32) then
    gs_b2 (f_X12_look M3) fun v6 M7 =>
    gs_b1 (some (gs_up M7 147 10 ((M7 147 10) + (1 : Int32)))) fun M10 =>
    gs_b2 (G 0 0 0 M10) fun v11 M12 =>
    gs_b1 (if (if v6 = (42 : Int32) then (1 : Int32) else (0 : Int32) : Int32) = (0 : Int32) then
    if (lg_cmp (Int32.toInt64 v11) (0 : Int64)) = (0 : Int32) then
    some ((0 : Int64))
    else
    gs_b1 (gs_dvl (Int32.toInt64 x1) (Int32.toInt64 v11)) fun v19 =>
    some (v19)
    else
    some ((Int32.toInt64 x1) * (Int32.toInt64 v11))) fun y14 =>
    gs_b1 (f_X12_within y14) fun v21 =>
    l_X12_term_5 G f v21 M12
    else
    gs_b2 (f_X12_look M3) fun v25 M26 =>
    if v25 = (47 : Int32) then
    gs_b2 (f_X12_look M26) fun v29 M30 =>
    gs_b1 (some (gs_up M30 147 10 ((M30 147 10) + (1 : Int32)))) fun M33 =>
    gs_b2 (G 0 0 0 M33) fun v34 M35 =>
    gs_b1 (if (if v29 = (42 : Int32) then (1 : Int32) else (0 : Int32) : Int32) = (0 : Int32) then
    if (lg_cmp (Int32.toInt64 v34) (0 : Int64)) = (0 : Int32) then
    some ((0 : Int64))
    else
    gs_b1 (gs_dvl (Int32.toInt64 x1) (Int32.toInt64 v34)) fun v42 =>
    some (v42)
    else
    some ((Int32.toInt64 x1) * (Int32.toInt64 v34))) fun y37 =>
    gs_b1 (f_X12_within y37) fun v44 =>
    l_X12_term_5 G f v44 M35
    else
    some (x1, M26)
    else
    some (x1, M)
def f_X12_term (G : Nat → Int32 → Int32 → gs_M → Option (Int32 × gs_M)) (M : gs_M) : Option (Int32 × gs_M) :=
  gs_b2 (G 0 0 0 M) fun v1 M2 =>
  gs_b2 (l_X12_term_5 G gs_FU v1 M2) fun y4 M5 =>
  some (y4, M5)
def l_X12_sum_5 (G : Nat → Int32 → Int32 → gs_M → Option (Int32 × gs_M)) : Nat → Int32 → gs_M → Option (Int32 × gs_M)
  | 0, _, _ => none
  | f + 1, x1, M =>
    if (M 147 11) = (-1 : Int32) then
    gs_b2 (f_X12_look M) fun v2 M3 =>
    if v2 = (43 : Int32) then
    gs_b2 (f_X12_look M3) fun v6 M7 =>
    gs_b1 (some (gs_up M7 147 10 ((M7 147 10) + (1 : Int32)))) fun M10 =>
    gs_b2 (G 1 0 0 M10) fun v11 M12 =>
    gs_b1 (f_X12_within (if (if v6 = (43 : Int32) then (1 : Int32) else (0 : Int32) : Int32) = (0 : Int32) then ((Int32.toInt64 x1) - (Int32.toInt64 v11)) else ((Int32.toInt64 x1) + (Int32.toInt64 v11)) : Int64)) fun v14 =>
    l_X12_sum_5 G f v14 M12
    else
    gs_b2 (f_X12_look M3) fun v20 M21 =>
    if v20 = (45 : Int32) then
    gs_b2 (f_X12_look M21) fun v24 M25 =>
    gs_b1 (some (gs_up M25 147 10 ((M25 147 10) + (1 : Int32)))) fun M28 =>
    gs_b2 (G 1 0 0 M28) fun v29 M30 =>
    gs_b1 (f_X12_within (if (if v24 = (43 : Int32) then (1 : Int32) else (0 : Int32) : Int32) = (0 : Int32) then ((Int32.toInt64 x1) - (Int32.toInt64 v29)) else ((Int32.toInt64 x1) + (Int32.toInt64 v29)) : Int64)) fun v32 =>
    l_X12_sum_5 G f v32 M30
    else
    some (x1, M21)
    else
    some (x1, M)
def f_X12_sum (G : Nat → Int32 → Int32 → gs_M → Option (Int32 × gs_M)) (M : gs_M) : Option (Int32 × gs_M) :=
  gs_b2 (G 1 0 0 M) fun v1 M2 =>
  gs_b2 (l_X12_sum_5 G gs_FU v1 M2) fun y4 M5 =>
  some (y4, M5)
def f_X12_isSign (x0 : Int32) : Option (Int32) :=
  gs_b1 (gs_ckZ (if x0 = (61 : Int32) then (1 : Int32) else if x0 = (60 : Int32) then (1 : Int32) else if x0 = (62 : Int32) then (1 : Int32) else (0 : Int32) : Int32)) fun z1 =>
  some z1
def f_X12_compares (G : Nat → Int32 → Int32 → gs_M → Option (Int32 × gs_M)) (M : gs_M) (x1 : Int32) (x2 : Int32) : Option (Int32 × gs_M) :=
  gs_b2 (if x1 = (0 : Int32) then
  gs_b2 (G 2 0 0 M) fun v6 M7 =>
  some (v6, M7)
  else
  some (x2, M)) fun y1 M2 =>
  if (M2 147 11) = (-1 : Int32) then
  gs_b2 (f_X12_look M2) fun v10 M11 =>
  gs_b1 (f_X12_isSign v10) fun v13 =>
  if v13 = (0 : Int32) then
  gs_b2 (f_X12_fails M11) fun v29 M30 =>
  gs_b1 (gs_ckZ v29) fun z32 =>
  some (z32, M30)
  else
  gs_b1 (some (gs_up M11 147 10 ((M11 147 10) + (1 : Int32)))) fun M17 =>
  gs_b2 (G 2 0 0 M17) fun v18 M19 =>
  gs_b1 (gs_ckZ (if v10 = (61 : Int32) then if y1 = v18 then (1 : Int32) else (0 : Int32) else if v10 = (60 : Int32) then if v18 ≤ y1 then (0 : Int32) else (1 : Int32) else if y1 ≤ v18 then (0 : Int32) else (1 : Int32) : Int32)) fun z21 =>
  some (z21, M19)
  else
  some ((0 : Int32), M2)
def f_X12_unit (G : Nat → Int32 → Int32 → gs_M → Option (Int32 × gs_M)) (M : gs_M) : Option (Int32 × gs_M) :=
  gs_b2 (f_X12_look M) fun v1 M2 =>
  if v1 = (33 : Int32) then
  gs_b2 (f_X12_goesIn M2) fun v26 M27 =>
  if v26 = (0 : Int32) then
  some ((0 : Int32), M27)
  else
  gs_b2 (G 4 0 0 M27) fun v30 M31 =>
  gs_b1 (some (gs_up M31 147 12 ((M31 147 12) - (1 : Int32)))) fun M34 =>
  gs_b1 (gs_ckZ (if v30 = (0 : Int32) then (1 : Int32) else (0 : Int32) : Int32)) fun z35 =>
  some (z35, M34)
  else
  if v1 = (40 : Int32) then
  gs_b2 (f_X12_goesIn M2) fun v11 M12 =>
  if v11 = (0 : Int32) then
  some ((0 : Int32), M12)
  else
  gs_b2 (G 6 (0 : Int32) (0 : Int32) M12) fun v15 M16 =>
  gs_b2 (f_X12_takes M16 (41 : Int32)) fun v18 M19 =>
  if v18 = (0 : Int32) then
  some ((0 : Int32), M19)
  else
  gs_b1 (some (gs_up M19 147 12 ((M19 147 12) - (1 : Int32)))) fun M23 =>
  gs_b1 (gs_ckZ v15) fun z24 =>
  some (z24, M23)
  else
  gs_b2 (G 3 (0 : Int32) (0 : Int32) M2) fun v6 M7 =>
  gs_b1 (gs_ckZ v6) fun z9 =>
  some (z9, M7)
def l_X12_part_18 (G : Nat → Int32 → Int32 → gs_M → Option (Int32 × gs_M)) (x1 : Int32) (x2 : Int32) : Nat → Int32 → gs_M → Option (Int32 × gs_M)
  | 0, _, _ => none
  | f + 1, x3, M =>
    if (M 147 11) = (-1 : Int32) then
    gs_b2 (f_X12_look M) fun v2 M3 =>
    if v2 = (38 : Int32) then
    gs_b1 (some (gs_up M3 147 10 ((M3 147 10) + (1 : Int32)))) fun M7 =>
    gs_b2 (G 4 0 0 M7) fun v8 M9 =>
    l_X12_part_18 G x1 x2 f (if x3 = (0 : Int32) then (0 : Int32) else if v8 = (0 : Int32) then (0 : Int32) else (1 : Int32) : Int32) M9
    else
    some (x3, M3)
    else
    some (x3, M)
def f_X12_part (G : Nat → Int32 → Int32 → gs_M → Option (Int32 × gs_M)) (M : gs_M) (x1 : Int32) (x2 : Int32) : Option (Int32 × gs_M) :=
  gs_b2 (if x1 = (0 : Int32) then
  gs_b2 (G 4 0 0 M) fun v6 M7 =>
  some (v6, M7)
  else
  gs_b2 (G 3 (1 : Int32) x2 M) fun v9 M10 =>
  some (v9, M10)) fun y1 M2 =>
  gs_b2 (l_X12_part_18 G x1 x2 gs_FU y1 M2) fun y12 M13 =>
  gs_b1 (gs_ckZ y12) fun z15 =>
  some (z15, M13)
def l_X12_condition_7 (G : Nat → Int32 → Int32 → gs_M → Option (Int32 × gs_M)) (x1 : Int32) (x2 : Int32) : Nat → Int32 → gs_M → Option (Int32 × gs_M)
  | 0, _, _ => none
  | f + 1, x3, M =>
    if (M 147 11) = (-1 : Int32) then
    gs_b2 (f_X12_look M) fun v2 M3 =>
    if v2 = (124 : Int32) then
    gs_b1 (some (gs_up M3 147 10 ((M3 147 10) + (1 : Int32)))) fun M7 =>
    gs_b2 (G 5 (0 : Int32) (0 : Int32) M7) fun v8 M9 =>
    l_X12_condition_7 G x1 x2 f (if x3 = (0 : Int32) then if v8 = (0 : Int32) then (0 : Int32) else (1 : Int32) else (1 : Int32) : Int32) M9
    else
    some (x3, M3)
    else
    some (x3, M)
def f_X12_condition (G : Nat → Int32 → Int32 → gs_M → Option (Int32 × gs_M)) (M : gs_M) (x1 : Int32) (x2 : Int32) : Option (Int32 × gs_M) :=
  gs_b2 (G 5 x1 x2 M) fun v1 M2 =>
  gs_b2 (l_X12_condition_7 G x1 x2 gs_FU v1 M2) fun y4 M5 =>
  gs_b1 (gs_ckZ y4) fun z7 =>
  some (z7, M5)
def g_1 : Nat → Nat → Int32 → Int32 → gs_M → Option (Int32 × gs_M)
  | 0, _, _, _, _ => none
  | d + 1, i, x, y, M => match i with
    | 0 => f_X12_atom (g_1 d) M
    | 1 => f_X12_term (g_1 d) M
    | 2 => f_X12_sum (g_1 d) M
    | 3 => f_X12_compares (g_1 d) M x y
    | 4 => f_X12_unit (g_1 d) M
    | 5 => f_X12_part (g_1 d) M x y
    | 6 => f_X12_condition (g_1 d) M x y
    | _ => none
def f_X12_clause (M : gs_M) : Option (gs_M) :=
  gs_b2 (f_X12_look M) fun v1 M2 =>
  gs_b1 (f_X12_isAmong v1) fun v4 =>
  if v4 = (0 : Int32) then
  gs_b2 (f_X12_fails M2) fun v98 M99 =>
  some M99
  else
  gs_b1 (some (gs_up M2 147 10 ((M2 147 10) + (1 : Int32)))) fun M8 =>
  gs_b2 (f_X12_takes M8 (58 : Int32)) fun v9 M10 =>
  if v9 = (0 : Int32) then
  some M10
  else
  gs_b2 (f_X12_look M10) fun v13 M14 =>
  if v13 = (33 : Int32) then
  gs_b2 ((g_1 64) 6 (0 : Int32) (0 : Int32) M14) fun v17 M18 =>
  gs_b2 (f_X12_takes M18 (63 : Int32)) fun v20 M21 =>
  if v20 = (0 : Int32) then
  some M21
  else
  gs_b2 ((g_1 64) 2 0 0 M21) fun v24 M25 =>
  if (M25 147 11) = (-1 : Int32) then
  if (M25 147 17) = (0 : Int32) then
  if v1 = (M25 147 13) then
  if v17 = (0 : Int32) then
  some M25
  else
  gs_b1 (some (gs_up M25 147 17 (1 : Int32))) fun M32 =>
  gs_b1 (some (gs_up M32 147 14 v24)) fun M34 =>
  some M34
  else
  some M25
  else
  some M25
  else
  some M25
  else
  if v13 = (40 : Int32) then
  gs_b2 ((g_1 64) 6 (0 : Int32) (0 : Int32) M14) fun v80 M81 =>
  gs_b2 (f_X12_takes M81 (63 : Int32)) fun v83 M84 =>
  if v83 = (0 : Int32) then
  some M84
  else
  gs_b2 ((g_1 64) 2 0 0 M84) fun v87 M88 =>
  if (M88 147 11) = (-1 : Int32) then
  if (M88 147 17) = (0 : Int32) then
  if v1 = (M88 147 13) then
  if v80 = (0 : Int32) then
  some M88
  else
  gs_b1 (some (gs_up M88 147 17 (1 : Int32))) fun M95 =>
  gs_b1 (some (gs_up M95 147 14 v87)) fun M97 =>
  some M97
  else
  some M88
  else
  some M88
  else
  some M88
  else
  gs_b2 ((g_1 64) 2 0 0 M14) fun v36 M37 =>
  if (M37 147 11) = (-1 : Int32) then
  gs_b2 (f_X12_look M37) fun v48 M49 =>
  gs_b1 (f_X12_isSign v48) fun v51 =>
  if v51 = (0 : Int32) then
  if (M49 147 11) = (-1 : Int32) then
  if (M49 147 17) = (0 : Int32) then
  if v1 = (M49 147 13) then
  gs_b1 (some (gs_up M49 147 17 (1 : Int32))) fun M59 =>
  gs_b1 (some (gs_up M59 147 14 v36)) fun M61 =>
  some M61
  else
  some M49
  else
  some M49
  else
  some M49
  else
  gs_b2 ((g_1 64) 6 (1 : Int32) v36 M49) fun v62 M63 =>
  gs_b2 (f_X12_takes M63 (63 : Int32)) fun v65 M66 =>
  if v65 = (0 : Int32) then
  some M66
  else
  gs_b2 ((g_1 64) 2 0 0 M66) fun v69 M70 =>
  if (M70 147 11) = (-1 : Int32) then
  if (M70 147 17) = (0 : Int32) then
  if v1 = (M70 147 13) then
  if v62 = (0 : Int32) then
  some M70
  else
  gs_b1 (some (gs_up M70 147 17 (1 : Int32))) fun M77 =>
  gs_b1 (some (gs_up M77 147 14 v69)) fun M79 =>
  some M79
  else
  some M70
  else
  some M70
  else
  some M70
  else
  if (M37 147 11) = (-1 : Int32) then
  if (M37 147 17) = (0 : Int32) then
  if v1 = (M37 147 13) then
  gs_b1 (some (gs_up M37 147 17 (1 : Int32))) fun M45 =>
  gs_b1 (some (gs_up M45 147 14 v36)) fun M47 =>
  some M47
  else
  some M37
  else
  some M37
  else
  some M37
def l_X12_goThrough_32 (x2 : Int32) (x3 : Int32) (x4 : Int32) : Nat → gs_M → Option (gs_M)
  | 0, _ => none
  | f + 1, M =>
    if (M 147 11) = (-1 : Int32) then
    gs_b2 (f_X12_look M) fun v2 M3 =>
    if v2 = (59 : Int32) then
    gs_b1 (some (gs_up M3 147 10 ((M3 147 10) + (1 : Int32)))) fun M7 =>
    gs_b1 (f_X12_clause M7) fun M8 =>
    l_X12_goThrough_32 x2 x3 x4 f M8
    else
    some (M3)
    else
    some (M)
def f_X12_goThrough (M : gs_M) (x2 : Int32) (x3 : Int32) (x4 : Int32) : Option (gs_M) :=
  gs_b1 (f_X12_starts M x2 x3) fun M1 =>
  gs_b1 (some (gs_up M1 147 13 x4)) fun M4 =>
  gs_b1 (some (gs_up M4 147 12 (0 : Int32))) fun M6 =>
  gs_b1 (some (gs_up M6 147 17 (0 : Int32))) fun M8 =>
  gs_b1 (some (gs_up M8 147 14 (0 : Int32))) fun M10 =>
  gs_b1 (f_X12_clause M10) fun M11 =>
  gs_b1 (l_X12_goThrough_32 x2 x3 x4 gs_FU M11) fun M13 =>
  gs_b1 (if (M13 147 11) = (-1 : Int32) then
  gs_b2 (f_X12_look M13) fun v19 M20 =>
  if v19 = (-1 : Int32) then
  some (M20)
  else
  gs_b2 (f_X12_fails M20) fun v23 M24 =>
  some (M24)
  else
  some (M13)) fun M15 =>
  some M15
def f_X12_wakesBy (M : gs_M) (x1 : Int32) (x2 : Int32) (x3 : Int32) : Option (Int32 × gs_M) :=
  gs_b1 (f_X12_conscience M x2) fun v1 =>
  gs_b1 (f_X12_of M x2 (1 : Int32)) fun v3 =>
  gs_b1 (f_X12_of M x2 (2 : Int32)) fun v5 =>
  gs_b2 (if (M 147 29) = (-1 : Int32) then
  some (((v1 + v3) - x1) - v5, M)
  else
  gs_b1 (f_X12_of M x2 (2 : Int32)) fun v12 =>
  gs_b1 (f_X12_lay M x1 x2 v12 x3 (0 : Int32)) fun M14 =>
  gs_b1 (gs_rd M14 150 4 (M14 147 29)) fun v16 =>
  gs_b1 (f_X12_goThrough M14 ((240 : Int32) * (M14 147 29)) v16 (121 : Int32)) fun M18 =>
  some (M18 147 14, M18)) fun y7 M8 =>
  gs_b1 (f_X12_of M8 x2 (3 : Int32)) fun v20 =>
  gs_b1 (gs_rd M8 152 3 (2 : Int32)) fun v22 =>
  some ((if (0 : Int32) < (if (y7 + (v20 * v22)) < (10 : Int32) then (y7 + (v20 * v22)) else (10 : Int32) : Int32) then (if (y7 + (v20 * v22)) < (10 : Int32) then (y7 + (v20 * v22)) else (10 : Int32) : Int32) else (0 : Int32) : Int32), M8)
def f_X12_wakesNow (M : gs_M) (x1 : Int32) (x2 : Int32) : Option (Int32 × gs_M) :=
  gs_b1 (f_X12_of M x1 (0 : Int32)) fun v1 =>
  gs_b2 (f_X12_wakesBy M v1 x1 x2) fun v3 M4 =>
  some (v3, M4)
def l_X12_awake_29 (M : gs_M) (x1 : Int32) (x2 : Int32) : Nat → Int32 → gs_L → Option (Int32 × gs_L)
  | 0, _, _ => none
  | f + 1, x3, L =>
    if (11 : Int32) ≤ x3 then
    some (x3, L)
    else
    gs_b1 (gs_wrl L 161 11 x3 (if x3 = (0 : Int32) then (1000000000 : Int64) else (0 : Int64) : Int64)) fun L3 =>
    l_X12_awake_29 M x1 x2 f (x3 + (1 : Int32)) L3
def l_X12_awake_85 (M : gs_M) (x1 : Int32) (x2 : Int32) (x3 : Int32) (x4 : Int32) : Nat → Int32 → gs_L → Option (Int32 × gs_L)
  | 0, _, _ => none
  | f + 1, x5, L =>
    if x5 < (0 : Int32) then
    some (x5, L)
    else
    gs_b1 (gs_rdl L 161 11 x5) fun v2 =>
    gs_b1 (gs_dvl (v2 * (Int32.toInt64 x4)) (10 : Int64)) fun v4 =>
    gs_b1 (gs_rdl L 161 11 x5) fun v6 =>
    gs_b1 (gs_wrl L 161 11 x5 (v6 - v4)) fun L9 =>
    gs_b1 (gs_rdl L9 161 11 (x5 + (1 : Int32))) fun v10 =>
    gs_b1 (gs_wrl L9 161 11 (x5 + (1 : Int32)) (v10 + v4)) fun L13 =>
    l_X12_awake_85 M x1 x2 x3 x4 f (x5 + (-1 : Int32)) L13
def l_X12_awake_63 (x1 : Int32) (x2 : Int32) : Nat → Int32 → gs_M → gs_L → Option (Int32 × gs_M × gs_L)
  | 0, _, _, _ => none
  | f + 1, x3, M, L =>
    gs_b1 (gs_rd M 152 3 (0 : Int32)) fun v1 =>
    if v1 ≤ x3 then
    some (x3, M, L)
    else
    gs_b2 (f_X12_wakesNow M x1 x3) fun v4 M5 =>
    gs_b2 (l_X12_awake_85 M5 x1 x2 x3 v4 gs_FU (9 : Int32) L) fun y7 L8 =>
    l_X12_awake_63 x1 x2 f (x3 + (1 : Int32)) M5 L8
def l_X12_awake_150 (M : gs_M) (L : gs_L) (x1 : Int32) (x2 : Int32) : Nat → Int64 → Int32 → Option (Int64 × Int32)
  | 0, _, _ => none
  | f + 1, x3, x5 =>
    if (11 : Int32) ≤ x5 then
    some (x3, x5)
    else
    gs_b1 (gs_rdl L 161 11 x5) fun v2 =>
    l_X12_awake_150 M L x1 x2 f (x3 + v2) (x5 + (1 : Int32))
def f_X12_awake (M : gs_M) (L : gs_L) (x1 : Int32) (x2 : Int32) : Option (Int32 × gs_M × gs_L) :=
  gs_b1 (some (gs_up M 147 0 (0 : Int32))) fun M2 =>
  gs_b1 (f_X12_isPerson M2 x1) fun v3 =>
  if v3 = (0 : Int32) then
  some ((-1 : Int32), M2, L)
  else
  gs_b1 (f_X12_isIn (Int32.toInt64 x2) (0 : Int64) (9 : Int64)) fun v6 =>
  if v6 = (0 : Int32) then
  some ((-1 : Int32), M2, L)
  else
  gs_b2 (l_X12_awake_29 M2 x1 x2 gs_FU (0 : Int32) L) fun y9 L10 =>
  gs_b3 (l_X12_awake_63 x1 x2 gs_FU (0 : Int32) M2 L10) fun y12 M13 L14 =>
  gs_b2 (l_X12_awake_150 M13 L14 x1 x2 gs_FU (0 : Int64) x2) fun y16 y17 =>
  some (Int64.toInt32 y16, M13, L14)
def l_X12_back_16  : Nat → Int32 → gs_M → Option (Int32 × gs_M)
  | 0, _, _ => none
  | f + 1, x1, M =>
    if (533 : Int32) ≤ x1 then
    some (x1, M)
    else
    gs_b1 (gs_rd M 169 533 x1) fun v2 =>
    gs_b1 (gs_wr M 158 533 x1 v2) fun M5 =>
    l_X12_back_16  f (x1 + (1 : Int32)) M5
def f_X12_back (M : gs_M) : Option (Int32 × gs_M) :=
  gs_b1 (some (gs_up M 147 0 (0 : Int32))) fun M2 =>
  if (M2 147 46) = (0 : Int32) then
  some ((-1 : Int32), M2)
  else
  gs_b2 (l_X12_back_16 gs_FU (0 : Int32) M2) fun y4 M5 =>
  gs_b1 (some (gs_up M5 147 35 (0 : Int32))) fun M8 =>
  gs_b1 (gs_rd M8 158 533 (48 : Int32)) fun v9 =>
  some (v9, M8)
def f_X12_page (M : gs_M) (x1 : Int32) (x2 : Int32) : Option (Int32) :=
  gs_b1 (gs_rd M 158 533 (((52 : Int32) + ((5 : Int32) * x1)) + x2)) fun v1 =>
  some v1
def l_X12_pagesOf_4 (M : gs_M) (x1 : Int32) : Nat → Int32 → Int32 → Option (Int32 × Int32)
  | 0, _, _ => none
  | f + 1, x2, x3 =>
    gs_b1 (gs_rd M 158 533 (51 : Int32)) fun v1 =>
    if v1 ≤ x3 then
    some (x2, x3)
    else
    gs_b1 (f_X12_page M x3 (2 : Int32)) fun v4 =>
    l_X12_pagesOf_4 M x1 f (x2 + (if v4 = x1 then (1 : Int32) else (0 : Int32) : Int32)) (x3 + (1 : Int32))
def f_X12_pagesOf (M : gs_M) (x1 : Int32) : Option (Int32) :=
  gs_b2 (l_X12_pagesOf_4 M x1 gs_FU (0 : Int32) (0 : Int32)) fun y1 y2 =>
  some y1
def f_X12_pointsBy (M : gs_M) (x1 : Int32) (x2 : Int32) (x3 : Int32) (x4 : Int32) (x5 : Int32) : Option (Int32 × gs_M) :=
  if x1 = (-1 : Int32) then
  some ((if x5 = (1 : Int32) then (-1 : Int32) else (1 : Int32) : Int32), M)
  else
  gs_b1 (f_X12_of M x2 (0 : Int32)) fun v2 =>
  gs_b1 (f_X12_lay M v2 x2 x3 x4 x5) fun M4 =>
  gs_b1 (gs_rd M4 150 4 x1) fun v6 =>
  gs_b1 (f_X12_goThrough M4 ((240 : Int32) * x1) v6 (118 : Int32)) fun M8 =>
  some ((if (-9 : Int32) < (if (M8 147 14) < (9 : Int32) then (M8 147 14) else (9 : Int32) : Int32) then (if (M8 147 14) < (9 : Int32) then (M8 147 14) else (9 : Int32) : Int32) else (-9 : Int32) : Int32), M8)
def l_X12_caseBy_5 (x1 : Int32) (x2 : Int32) : Nat → Int32 → Int32 → gs_M → Option (Int32 × Int32 × gs_M)
  | 0, _, _, _ => none
  | f + 1, x3, x4, M =>
    gs_b1 (gs_rd M 158 533 (51 : Int32)) fun v1 =>
    if v1 ≤ x4 then
    some (x3, x4, M)
    else
    gs_b1 (f_X12_page M x4 (2 : Int32)) fun v4 =>
    gs_b2 (if v4 = x2 then
    gs_b1 (f_X12_page M x4 (4 : Int32)) fun v11 =>
    gs_b1 (f_X12_page M x4 (1 : Int32)) fun v13 =>
    gs_b1 (f_X12_page M x4 (3 : Int32)) fun v15 =>
    gs_b2 (f_X12_pointsBy M x1 x2 v11 v13 v15) fun v17 M18 =>
    some (x3 + v17, M18)
    else
    some (x3, M)) fun y6 M7 =>
    l_X12_caseBy_5 x1 x2 f y6 (x4 + (1 : Int32)) M7
def f_X12_caseBy (M : gs_M) (x1 : Int32) (x2 : Int32) : Option (Int32 × gs_M) :=
  gs_b3 (l_X12_caseBy_5 x1 x2 gs_FU (0 : Int32) (0 : Int32) M) fun y1 y2 M3 =>
  some (y1, M3)
def l_X12_wrongBy_4 (x1 : Int32) : Nat → Int32 → Int32 → gs_M → Option (Int32 × Int32 × gs_M)
  | 0, _, _, _ => none
  | f + 1, x2, x3, M =>
    if (M 147 24) ≤ x3 then
    some (x2, x3, M)
    else
    gs_b1 (f_X12_pagesOf M x3) fun v2 =>
    gs_b2 (if v2 ≤ (0 : Int32) then
    some (x2, M)
    else
    gs_b1 (f_X12_of M x3 (0 : Int32)) fun v9 =>
    gs_b2 (f_X12_caseBy M x1 x3) fun v11 M12 =>
    gs_b1 (gs_rd M12 152 3 (1 : Int32)) fun v14 =>
    if (if v9 ≤ (0 : Int32) then (0 : Int32) else (1 : Int32) : Int32) = (if v11 < v14 then (0 : Int32) else (1 : Int32) : Int32) then
    some (x2, M12)
    else
    some (x2 + (1 : Int32), M12)) fun y4 M5 =>
    l_X12_wrongBy_4 x1 f y4 (x3 + (1 : Int32)) M5
def f_X12_wrongBy (M : gs_M) (x1 : Int32) : Option (Int32 × gs_M) :=
  gs_b3 (l_X12_wrongBy_4 x1 gs_FU (0 : Int32) (0 : Int32) M) fun y1 y2 M3 =>
  some (y1, M3)
def l_X12_better_25  : Nat → Int32 → Int32 → gs_M → Option (Int32 × Int32 × gs_M)
  | 0, _, _, _ => none
  | f + 1, x1, x2, M =>
    if (M 147 7) ≤ x2 then
    some (x1, x2, M)
    else
    gs_b2 (f_X12_wrongBy M x2) fun v2 M3 =>
    gs_b2 (f_X12_wrongBy M3 x1) fun v5 M6 =>
    l_X12_better_25  f (if v5 ≤ v2 then x1 else x2 : Int32) (x2 + (1 : Int32)) M6
def f_X12_better (M : gs_M) : Option (Int32 × gs_M) :=
  gs_b1 (some (gs_up M 147 0 (0 : Int32))) fun M2 =>
  if (M2 147 24) = (0 : Int32) then
  some ((-1 : Int32), M2)
  else
  if (M2 147 7) = (0 : Int32) then
  some ((-1 : Int32), M2)
  else
  gs_b3 (l_X12_better_25 gs_FU (0 : Int32) (1 : Int32) M2) fun y5 y6 M7 =>
  some (y5, M7)
def f_X12_book (M : gs_M) (x1 : Int32) (x2 : Int32) : Option (Int32 × gs_M) :=
  gs_b1 (some (gs_up M 147 0 (0 : Int32))) fun M2 =>
  gs_b1 (gs_rd M2 158 533 (51 : Int32)) fun v3 =>
  gs_b1 (f_X12_isIn (Int32.toInt64 x1) (0 : Int64) (Int32.toInt64 (v3 - (1 : Int32)))) fun v5 =>
  gs_b1 (if v5 = (0 : Int32) then
  some ((-1 : Int32))
  else
  gs_b1 (f_X12_isIn (Int32.toInt64 x2) (0 : Int64) (4 : Int64)) fun v11 =>
  if v11 = (0 : Int32) then
  some ((-1 : Int32))
  else
  gs_b1 (gs_rd M2 158 533 (51 : Int32)) fun v14 =>
  gs_b1 (f_X12_page M2 ((v14 - (1 : Int32)) - x1) x2) fun v16 =>
  some (v16)) fun y7 =>
  some (y7, M2)
def f_X12_caseOf (M : gs_M) (x1 : Int32) : Option (Int32 × gs_M) :=
  gs_b2 (f_X12_caseBy M (M 147 29) x1) fun v1 M2 =>
  some (v1, M2)
def l_X12_booked_63 (M : gs_M) (x1 : Int32) (x2 : Int32) (x3 : Int32) (x4 : Int32) : Nat → Int32 → Option (Int32 × gs_M)
  | 0, _ => none
  | f + 1, x5 =>
    if (100 : Int32) ≤ x5 then
    some ((-1 : Int32), M)
    else
    gs_b1 (gs_rd M 152 3 (1 : Int32)) fun v2 =>
    if (x3 + (x5 * x4)) < v2 then
    l_X12_booked_63 M x1 x2 x3 x4 f (x5 + (1 : Int32))
    else
    some (x5, M)
def f_X12_booked (M : gs_M) (x1 : Int32) (x2 : Int32) : Option (Int32 × gs_M) :=
  gs_b1 (some (gs_up M 147 0 (0 : Int32))) fun M2 =>
  gs_b1 (f_X12_isPerson M2 x1) fun v3 =>
  if v3 = (0 : Int32) then
  some ((-1 : Int32), M2)
  else
  gs_b1 (f_X12_isIn (Int32.toInt64 x2) (0 : Int64) (1 : Int64)) fun v6 =>
  if v6 = (0 : Int32) then
  some ((-1 : Int32), M2)
  else
  if x2 = (0 : Int32) then
  gs_b1 (f_X12_pagesOf M2 x1) fun v18 =>
  some (v18, M2)
  else
  gs_b2 (f_X12_caseOf M2 x1) fun v10 M11 =>
  gs_b1 (f_X12_of M11 x1 (2 : Int32)) fun v13 =>
  gs_b2 (f_X12_pointsBy M11 (M11 147 29) x1 v13 (0 : Int32) (0 : Int32)) fun v15 M16 =>
  l_X12_booked_63 M16 x1 x2 v10 v15 gs_FU (0 : Int32)
def f_X12_isCandle (M : gs_M) (x1 : Int32) (x2 : Int32) : Option (Int32) :=
  gs_b1 (f_X12_isPerson M x1) fun v1 =>
  gs_b1 (if v1 = (0 : Int32) then
  some ((0 : Int32))
  else
  gs_b1 (f_X12_isIn (Int32.toInt64 x2) (0 : Int64) (9 : Int64)) fun v7 =>
  if v7 = (0 : Int32) then
  some ((0 : Int32))
  else
  some ((1 : Int32))) fun y3 =>
  gs_b1 (gs_ckZ y3) fun z10 =>
  some z10
def f_X12_has (x0 : Int32) (x1 : Int32) : Option (Int32) :=
  gs_b1 (gs_ckZ (if ((x0 >>> (x1 &&& 31)) &&& (1 : Int32)) = (1 : Int32) then (1 : Int32) else (0 : Int32) : Int32)) fun z1 =>
  some z1
def l_X12_canBurn_69 (M : gs_M) (x1 : Int32) (x2 : Int32) (x3 : Int32) : Nat → Int32 → Option (Int32 × gs_M)
  | 0, _ => none
  | f + 1, x4 =>
    if (M 147 40) ≤ x4 then
    some ((1 : Int32), M)
    else
    gs_b1 (gs_rd M 162 12 x4) fun v2 =>
    if v2 = x1 then
    gs_b1 (gs_rd M 163 12 x4) fun v5 =>
    gs_b1 (f_X12_has x3 v5) fun v7 =>
    gs_b1 (gs_rd M 164 12 x4) fun v9 =>
    if v7 = v9 then
    l_X12_canBurn_69 M x1 x2 x3 f (x4 + (1 : Int32))
    else
    some ((0 : Int32), M)
    else
    l_X12_canBurn_69 M x1 x2 x3 f (x4 + (1 : Int32))
def l_X12_canBurn_13 (x1 : Int32) (x2 : Int32) (x3 : Int32) : Nat → Int32 → gs_M → Option (Int32 × gs_M)
  | 0, _, _ => none
  | f + 1, x4, M =>
    gs_b1 (gs_rd M 152 3 (0 : Int32)) fun v1 =>
    if v1 ≤ x4 then
    l_X12_canBurn_69 M x1 x2 x3 gs_FU (0 : Int32)
    else
    gs_b1 (f_X12_has x3 x4) fun v4 =>
    if v4 = (0 : Int32) then
    gs_b2 (f_X12_wakesNow M x1 x4) fun v7 M8 =>
    if v7 = (10 : Int32) then
    some ((0 : Int32), M8)
    else
    l_X12_canBurn_13 x1 x2 x3 f (x4 + (1 : Int32)) M8
    else
    gs_b2 (f_X12_wakesNow M x1 x4) fun v11 M12 =>
    if v11 = (0 : Int32) then
    some ((0 : Int32), M12)
    else
    l_X12_canBurn_13 x1 x2 x3 f (x4 + (1 : Int32)) M12
def f_X12_canBurn (M : gs_M) (x1 : Int32) (x2 : Int32) (x3 : Int32) : Option (Int32 × gs_M) :=
  gs_b1 (f_J6_bitCount_0f7a4 x3) fun v1 =>
  if v1 = x2 then
  l_X12_canBurn_13 x1 x2 x3 gs_FU (0 : Int32) M
  else
  some ((0 : Int32), M)
def l_X12_candle_27 (x1 : Int32) (x2 : Int32) (x3 : Int32) : Nat → Int32 → Int32 → gs_M → Option (Int32 × gs_M)
  | 0, _, _, _ => none
  | f + 1, x4, x5, M =>
    gs_b1 (gs_rd M 152 3 (0 : Int32)) fun v1 =>
    if ((1 : Int32) <<< (v1 &&& 31)) ≤ x5 then
    some ((if x3 = (-1 : Int32) then x4 else (-1 : Int32) : Int32), M)
    else
    gs_b2 (f_X12_canBurn M x1 x2 x5) fun v6 M7 =>
    if v6 = (0 : Int32) then
    l_X12_candle_27 x1 x2 x3 f x4 (x5 + (1 : Int32)) M7
    else
    if x4 = x3 then
    some (x5, M7)
    else
    l_X12_candle_27 x1 x2 x3 f (x4 + (1 : Int32)) (x5 + (1 : Int32)) M7
def f_X12_candle (M : gs_M) (x1 : Int32) (x2 : Int32) (x3 : Int32) : Option (Int32 × gs_M) :=
  gs_b1 (some (gs_up M 147 0 (0 : Int32))) fun M2 =>
  gs_b1 (f_X12_isCandle M2 x1 x2) fun v3 =>
  if v3 = (0 : Int32) then
  some ((-1 : Int32), M2)
  else
  if (-1 : Int32) ≤ x3 then
  l_X12_candle_27 x1 x2 x3 gs_FU (0 : Int32) (0 : Int32) M2
  else
  some ((-1 : Int32), M2)
def l_X12_remember_11  : Nat → Int32 → gs_M → Option (Int32 × gs_M)
  | 0, _, _ => none
  | f + 1, x1, M =>
    if (20787 : Int32) ≤ x1 then
    some (x1, M)
    else
    gs_b1 (gs_rd M 160 21320 (x1 + (533 : Int32))) fun v2 =>
    gs_b1 (gs_wr M 160 21320 x1 v2) fun M5 =>
    l_X12_remember_11  f (x1 + (1 : Int32)) M5
def l_X12_remember_52  : Nat → Int32 → gs_M → Option (Int32 × gs_M)
  | 0, _, _ => none
  | f + 1, x1, M =>
    if (533 : Int32) ≤ x1 then
    some (x1, M)
    else
    gs_b1 (gs_rd M 158 533 x1) fun v2 =>
    gs_b1 (gs_wr M 160 21320 (((533 : Int32) * (M 147 35)) + x1) v2) fun M5 =>
    l_X12_remember_52  f (x1 + (1 : Int32)) M5
def f_X12_remember (M : gs_M) : Option (gs_M) :=
  gs_b1 (if (M 147 35) = (40 : Int32) then
  gs_b2 (l_X12_remember_11 gs_FU (0 : Int32) M) fun y5 M6 =>
  gs_b1 (some (gs_up M6 147 35 ((M6 147 35) - (1 : Int32)))) fun M9 =>
  some (M9)
  else
  some (M)) fun M1 =>
  gs_b2 (l_X12_remember_52 gs_FU (0 : Int32) M1) fun y10 M11 =>
  gs_b1 (some (gs_up M11 147 35 ((M11 147 35) + (1 : Int32)))) fun M14 =>
  some M14
def f_X12_marks (M : gs_M) (x1 : Int32) (x2 : Int32) : Option (Int32 × gs_M) :=
  gs_b1 (f_X12_isPerson M x1) fun v1 =>
  if v1 = (0 : Int32) then
  some ((0 : Int32), M)
  else
  gs_b1 (f_X12_of M x1 x2) fun v4 =>
  if v4 = (1 : Int32) then
  some ((0 : Int32), M)
  else
  gs_b1 (f_X12_remember M) fun M7 =>
  gs_b1 (gs_wr M7 158 533 (((6 : Int32) * x1) + x2) (1 : Int32)) fun M10 =>
  some ((1 : Int32), M10)
def f_X12_coffee (M : gs_M) (x1 : Int32) : Option (Int32 × gs_M) :=
  gs_b1 (some (gs_up M 147 0 (0 : Int32))) fun M2 =>
  gs_b2 (f_X12_marks M2 x1 (3 : Int32)) fun v3 M4 =>
  gs_b1 (gs_ckZ v3) fun z6 =>
  some (z6, M4)
def f_X12_count (M : gs_M) (x1 : Int32) : Option (Int32 × gs_M) :=
  gs_b1 (some (gs_up M 147 0 (0 : Int32))) fun M2 =>
  if x1 = (0 : Int32) then
  some (M2 147 24, M2)
  else
  if x1 = (1 : Int32) then
  some (M2 147 7, M2)
  else
  if x1 = (2 : Int32) then
  some (M2 147 26, M2)
  else
  if x1 = (3 : Int32) then
  some (M2 147 6, M2)
  else
  if x1 = (4 : Int32) then
  some (M2 147 29, M2)
  else
  if x1 = (5 : Int32) then
  some (M2 147 30, M2)
  else
  if x1 = (6 : Int32) then
  gs_b1 (gs_rd M2 158 533 (48 : Int32)) fun v10 =>
  some (v10, M2)
  else
  if x1 = (7 : Int32) then
  gs_b1 (gs_rd M2 158 533 (49 : Int32)) fun v13 =>
  some (v13, M2)
  else
  if x1 = (8 : Int32) then
  gs_b1 (gs_rd M2 158 533 (50 : Int32)) fun v16 =>
  some (v16, M2)
  else
  if x1 = (9 : Int32) then
  some (M2 147 31, M2)
  else
  if x1 = (10 : Int32) then
  some (M2 147 40, M2)
  else
  if x1 = (11 : Int32) then
  gs_b1 (gs_rd M2 158 533 (51 : Int32)) fun v21 =>
  some (v21, M2)
  else
  if x1 = (12 : Int32) then
  gs_b1 (gs_rd M2 158 533 (352 : Int32)) fun v24 =>
  some (v24, M2)
  else
  if x1 = (13 : Int32) then
  some (M2 147 35, M2)
  else
  some ((-1000000 : Int32), M2)
def f_X12_married (M : gs_M) (x1 : Int32) : Option (Int32) :=
  gs_b1 (gs_rd M 154 40 (((5 : Int32) * x1) + (4 : Int32))) fun v1 =>
  some (if v1 = (8 : Int32) then (-1 : Int32) else v1 : Int32)
def f_X12_isCouple (M : gs_M) (x1 : Int32) : Option (Int32) :=
  gs_b1 (f_X12_isPerson M x1) fun v1 =>
  gs_b1 (if v1 = (0 : Int32) then
  some ((0 : Int32))
  else
  gs_b1 (f_X12_married M x1) fun v7 =>
  if v7 = (-1 : Int32) then
  some ((0 : Int32))
  else
  some ((1 : Int32))) fun y3 =>
  gs_b1 (gs_ckZ y3) fun z10 =>
  some z10
def f_X12_coupleOf (M : gs_M) (x1 : Int32) (x2 : Int32) (x3 : Int32) : Option (Int32 × gs_M) :=
  gs_b2 (f_X12_caseOf M x1) fun v1 M2 =>
  gs_b1 (gs_dv (if (0 : Int32) < v1 then v1 else (0 : Int32) : Int32) (2 : Int32)) fun v4 =>
  some ((if (x2 + x3) = (0 : Int32) then ((if x3 = (1 : Int32) then ((if x2 = (1 : Int32) then if x3 = (0 : Int32) then ((-v4) + (2 : Int32)) else (-v4) else (-v4) : Int32) + (-4 : Int32)) else (if x2 = (1 : Int32) then if x3 = (0 : Int32) then ((-v4) + (2 : Int32)) else (-v4) else (-v4) : Int32) : Int32) + (1 : Int32)) else (if x3 = (1 : Int32) then ((if x2 = (1 : Int32) then if x3 = (0 : Int32) then ((-v4) + (2 : Int32)) else (-v4) else (-v4) : Int32) + (-4 : Int32)) else (if x2 = (1 : Int32) then if x3 = (0 : Int32) then ((-v4) + (2 : Int32)) else (-v4) else (-v4) : Int32) : Int32) : Int32), M2)
def f_X12_couple (M : gs_M) (x1 : Int32) (x2 : Int32) (x3 : Int32) (x4 : Int32) : Option (Int32 × gs_M) :=
  gs_b1 (some (gs_up M 147 0 (0 : Int32))) fun M2 =>
  gs_b1 (f_X12_isCouple M2 x1) fun v3 =>
  if v3 = (0 : Int32) then
  some ((-1000000 : Int32), M2)
  else
  gs_b1 (f_X12_isIn (Int32.toInt64 x2) (0 : Int64) (1 : Int64)) fun v6 =>
  if v6 = (0 : Int32) then
  some ((-1000000 : Int32), M2)
  else
  gs_b1 (f_X12_isIn (Int32.toInt64 x3) (0 : Int64) (1 : Int64)) fun v9 =>
  if v9 = (0 : Int32) then
  some ((-1000000 : Int32), M2)
  else
  gs_b1 (f_X12_isIn (Int32.toInt64 x4) (0 : Int64) (1 : Int64)) fun v12 =>
  if v12 = (0 : Int32) then
  some ((-1000000 : Int32), M2)
  else
  gs_b2 (if x4 = (0 : Int32) then
  gs_b2 (f_X12_coupleOf M2 x1 x2 x3) fun v25 M26 =>
  some (v25, M26)
  else
  gs_b1 (f_X12_married M2 x1) fun v20 =>
  gs_b2 (f_X12_coupleOf M2 v20 x3 x2) fun v22 M23 =>
  some (v22, M23)) fun y15 M16 =>
  some (y15, M16)
def f_X12_isHour (M : gs_M) (x1 : Int32) : Option (Int32) :=
  gs_b1 (if (M 147 24) ≤ (0 : Int32) then
  some ((0 : Int32))
  else
  if x1 < (0 : Int32) then
  some ((0 : Int32))
  else
  gs_b1 (gs_rd M 152 3 (0 : Int32)) fun v6 =>
  if v6 ≤ x1 then
  some ((0 : Int32))
  else
  some ((1 : Int32))) fun y1 =>
  gs_b1 (gs_ckZ y1) fun z9 =>
  some z9
def l_X12_cries_19 (x1 : Int32) : Nat → Int32 → Int32 → gs_M → Option (Int32 × Int32 × gs_M)
  | 0, _, _, _ => none
  | f + 1, x2, x3, M =>
    if (M 147 24) ≤ x3 then
    some (x2, x3, M)
    else
    gs_b2 (f_X12_wakesNow M x3 x1) fun v2 M3 =>
    l_X12_cries_19 x1 f (x2 + v2) (x3 + (1 : Int32)) M3
def f_X12_cries (M : gs_M) (x1 : Int32) : Option (Int32 × gs_M) :=
  gs_b1 (some (gs_up M 147 0 (0 : Int32))) fun M2 =>
  gs_b1 (f_X12_isHour M2 x1) fun v3 =>
  if v3 = (0 : Int32) then
  some ((-1 : Int32), M2)
  else
  gs_b3 (l_X12_cries_19 x1 gs_FU (0 : Int32) (0 : Int32) M2) fun y6 y7 M8 =>
  some (y6, M8)
def f_X12_crimes (M : gs_M) (x1 : Int32) : Option (Int32 × gs_M) :=
  gs_b1 (some (gs_up M 147 0 (0 : Int32))) fun M2 =>
  gs_b1 (f_X12_isIn (Int32.toInt64 x1) (0 : Int64) (9 : Int64)) fun v3 =>
  if v3 = (0 : Int32) then
  some ((0 : Int32), M2)
  else
  if x1 = (M2 147 31) then
  some ((0 : Int32), M2)
  else
  gs_b1 (some (gs_up M2 147 31 x1)) fun M8 =>
  some ((1 : Int32), M8)
def f_X12_deed (M : gs_M) (x1 : Int32) (x2 : Int32) : Option (Int32 × gs_M) :=
  gs_b1 (some (gs_up M 147 0 (0 : Int32))) fun M2 =>
  gs_b1 (f_X12_isPerson M2 x1) fun v3 =>
  if v3 = (0 : Int32) then
  some ((-1 : Int32), M2)
  else
  gs_b1 (f_X12_isIn (Int32.toInt64 x2) (-9 : Int64) (9 : Int64)) fun v6 =>
  if v6 = (0 : Int32) then
  some ((-1 : Int32), M2)
  else
  if x2 = (0 : Int32) then
  some ((-1 : Int32), M2)
  else
  gs_b1 (f_X12_of M2 x1 (0 : Int32)) fun v10 =>
  gs_b1 (f_X12_isIn (Int32.toInt64 (v10 + x2)) (0 : Int64) (9 : Int64)) fun v12 =>
  if v12 = (0 : Int32) then
  some ((-1 : Int32), M2)
  else
  gs_b1 (f_X12_remember M2) fun M15 =>
  gs_b1 (gs_rd M15 158 533 (((6 : Int32) * x1) + (0 : Int32))) fun v17 =>
  gs_b1 (gs_wr M15 158 533 (((6 : Int32) * x1) + (0 : Int32)) (v17 + x2)) fun M20 =>
  gs_b1 (f_X12_of M20 x1 (0 : Int32)) fun v21 =>
  some (v21, M20)
def f_X12_end (M : gs_M) (x1 : Int32) : Option (Int32 × gs_M) :=
  gs_b1 (some (gs_up M 147 0 (0 : Int32))) fun M2 =>
  if x1 < (0 : Int32) then
  some ((0 : Int32), M2)
  else
  if x1 ≤ (M2 147 6) then
  gs_b1 (some (gs_up M2 147 6 x1)) fun M6 =>
  some ((1 : Int32), M6)
  else
  some ((0 : Int32), M2)
def f_X12_starts_2 (M : gs_M) (x2 : Int32) (x3 : Int32) : Option (gs_M) :=
  gs_b1 (some (gs_up M 147 5 (nI 148))) fun M2 =>
  gs_b1 (some (gs_up M2 147 8 x2)) fun M4 =>
  gs_b1 (some (gs_up M4 147 9 x3)) fun M6 =>
  gs_b1 (some (gs_up M6 147 10 (0 : Int32))) fun M8 =>
  gs_b1 (some (gs_up M8 147 11 (-1 : Int32))) fun M10 =>
  some M10
def f_X12_usual (x0 : Int32) (x1 : Int32) : Option (Int32) :=
  if x0 = (115 : Int32) then
  some (if x1 = (0 : Int32) then (6 : Int32) else if x1 = (1 : Int32) then (4 : Int32) else (3 : Int32) : Int32)
  else
  some (if x1 = (1 : Int32) then (5 : Int32) else if x1 = (2 : Int32) then (1 : Int32) else if x1 = (4 : Int32) then (8 : Int32) else (0 : Int32) : Int32)
def l_X12_spotOf_2 (x1 : Int32) : Nat → Int32 → Option (Int32)
  | 0, _ => none
  | f + 1, x2 =>
    if (gs_ln 1) ≤ x2 then
    some (-1 : Int32)
    else
    gs_b1 (gs_chr 1 x2) fun v2 =>
    if v2 = x1 then
    some x2
    else
    l_X12_spotOf_2 x1 f (x2 + (1 : Int32))
def f_X12_spotOf (x1 : Int32) : Option (Int32) :=
  l_X12_spotOf_2 x1 gs_FU (0 : Int32)
def f_X12_leastOf (x0 : Int32) (x1 : Int32) : Option (Int32) :=
  some (if x0 = (115 : Int32) then if (2 : Int32) ≤ x1 then (0 : Int32) else (1 : Int32) else (0 : Int32) : Int32)
def f_X12_mostOf (x0 : Int32) (x1 : Int32) : Option (Int32) :=
  some (if x0 = (115 : Int32) then if x1 = (1 : Int32) then (30 : Int32) else if x0 = (112 : Int32) then if x1 = (4 : Int32) then (8 : Int32) else (9 : Int32) else (9 : Int32) else if x0 = (112 : Int32) then if x1 = (4 : Int32) then (8 : Int32) else (9 : Int32) else (9 : Int32) : Int32)
def f_X12_here (M : gs_M) : Option (Int32) :=
  gs_b1 (if (M 147 9) ≤ (M 147 10) then
  some ((-1 : Int32))
  else
  gs_b1 (gs_ckB (M 147 5).toNatClampNeg) fun r5 =>
  gs_b1 (gs_rd M r5 (gs_bl r5) ((M 147 8) + (M 147 10))) fun v7 =>
  some (v7 &&& (255 : Int32))) fun y1 =>
  some y1
def f_X12_number (M : gs_M) (x1 : Int32) (x2 : Int32) : Option (Int32 × gs_M) :=
  gs_b2 (f_X12_look M) fun v1 M2 =>
  gs_b1 (f_X12_isDigit M2) fun v4 =>
  if v4 = (0 : Int32) then
  gs_b2 (f_X12_fails M2) fun v37 M38 =>
  some ((0 : Int32), M38)
  else
  gs_b1 (some (gs_up M2 147 10 ((M2 147 10) + (1 : Int32)))) fun M8 =>
  gs_b1 (f_X12_isDigit M8) fun v9 =>
  gs_b2 (if v9 = (0 : Int32) then
  some (v1 - (48 : Int32), M8)
  else
  gs_b1 (f_X12_here M8) fun v16 =>
  gs_b1 (some (gs_up M8 147 10 ((M8 147 10) + (1 : Int32)))) fun M19 =>
  some ((((10 : Int32) * (v1 - (48 : Int32))) + v16) - (48 : Int32), M19)) fun y11 M12 =>
  gs_b1 (f_X12_isDigit M12) fun v20 =>
  if v20 = (0 : Int32) then
  gs_b1 (f_X12_isIn (Int32.toInt64 y11) (Int32.toInt64 x1) (Int32.toInt64 x2)) fun v23 =>
  gs_b1 (if v23 = (0 : Int32) then
  gs_b1 (some (gs_up M12 147 10 ((M12 147 10) - (1 : Int32)))) fun M30 =>
  gs_b2 (f_X12_fails M30) fun v31 M32 =>
  some (M32)
  else
  some (M12)) fun M25 =>
  some (y11, M25)
  else
  gs_b2 (f_X12_fails M12) fun v34 M35 =>
  some ((0 : Int32), M35)
def l_X12_readItems_3 (x1 : Int32) (x3 : Int32) : Nat → Int32 → gs_M → Option (Int32 × gs_M)
  | 0, _, _ => none
  | f + 1, x5, M =>
    if (gs_ln 1) ≤ x5 then
    some (x5, M)
    else
    gs_b1 (f_X12_usual x1 x5) fun v2 =>
    gs_b1 (gs_wr M 155 40 (x3 + x5) v2) fun M5 =>
    l_X12_readItems_3 x1 x3 f (x5 + (1 : Int32)) M5
def l_X12_readItems_45 (x1 : Int32) (x3 : Int32) : Nat → Int32 → Int32 → gs_M → Option (gs_M)
  | 0, _, _, _ => none
  | f + 1, x5, x6, M =>
    if x6 = (-1 : Int32) then
    some M
    else
    if (M 147 11) = (-1 : Int32) then
    gs_b1 (f_X12_has x5 x6) fun v3 =>
    if v3 = (0 : Int32) then
    gs_b1 (some (gs_up M 147 10 ((M 147 10) + (1 : Int32)))) fun M7 =>
    gs_b1 (f_X12_leastOf x1 x6) fun v8 =>
    gs_b1 (f_X12_mostOf x1 x6) fun v10 =>
    gs_b2 (f_X12_number M7 v8 v10) fun v12 M13 =>
    gs_b1 (gs_wr M13 155 40 (x3 + x6) v12) fun M16 =>
    if (M16 147 11) = (-1 : Int32) then
    gs_b2 (f_X12_look M16) fun v18 M19 =>
    gs_b1 (f_X12_spotOf v18) fun v21 =>
    l_X12_readItems_45 x1 x3 f (x5 ||| ((1 : Int32) <<< (x6 &&& 31))) v21 M19
    else
    l_X12_readItems_45 x1 x3 f (x5 ||| ((1 : Int32) <<< (x6 &&& 31))) x6 M16
    else
    gs_b2 (f_X12_fails M) fun v23 M24 =>
    some M24
    else
    some M
def f_X12_readItems (M : gs_M) (x1 : Int32) (x3 : Int32) : Option (gs_M) :=
  gs_b2 (l_X12_readItems_3 x1 x3 gs_FU (0 : Int32) M) fun y1 M2 =>
  gs_b2 (f_X12_look M2) fun v4 M5 =>
  gs_b1 (f_X12_spotOf v4) fun v7 =>
  l_X12_readItems_45 x1 x3 gs_FU (0 : Int32) v7 M5
def l_X12_spotOf_2_2 (x1 : Int32) : Nat → Int32 → Option (Int32)
  | 0, _ => none
  | f + 1, x2 =>
    if (gs_ln 0) ≤ x2 then
    some (-1 : Int32)
    else
    gs_b1 (gs_chr 0 x2) fun v2 =>
    if v2 = x1 then
    some x2
    else
    l_X12_spotOf_2_2 x1 f (x2 + (1 : Int32))
def f_X12_spotOf_2 (x1 : Int32) : Option (Int32) :=
  l_X12_spotOf_2_2 x1 gs_FU (0 : Int32)
def l_X12_readItems_2_3 (x1 : Int32) (x3 : Int32) : Nat → Int32 → gs_M → Option (Int32 × gs_M)
  | 0, _, _ => none
  | f + 1, x5, M =>
    if (gs_ln 0) ≤ x5 then
    some (x5, M)
    else
    gs_b1 (f_X12_usual x1 x5) fun v2 =>
    gs_b1 (gs_wr M 153 3 (x3 + x5) v2) fun M5 =>
    l_X12_readItems_2_3 x1 x3 f (x5 + (1 : Int32)) M5
def l_X12_readItems_2_45 (x1 : Int32) (x3 : Int32) : Nat → Int32 → Int32 → gs_M → Option (gs_M)
  | 0, _, _, _ => none
  | f + 1, x5, x6, M =>
    if x6 = (-1 : Int32) then
    some M
    else
    if (M 147 11) = (-1 : Int32) then
    gs_b1 (f_X12_has x5 x6) fun v3 =>
    if v3 = (0 : Int32) then
    gs_b1 (some (gs_up M 147 10 ((M 147 10) + (1 : Int32)))) fun M7 =>
    gs_b1 (f_X12_leastOf x1 x6) fun v8 =>
    gs_b1 (f_X12_mostOf x1 x6) fun v10 =>
    gs_b2 (f_X12_number M7 v8 v10) fun v12 M13 =>
    gs_b1 (gs_wr M13 153 3 (x3 + x6) v12) fun M16 =>
    if (M16 147 11) = (-1 : Int32) then
    gs_b2 (f_X12_look M16) fun v18 M19 =>
    gs_b1 (f_X12_spotOf_2 v18) fun v21 =>
    l_X12_readItems_2_45 x1 x3 f (x5 ||| ((1 : Int32) <<< (x6 &&& 31))) v21 M19
    else
    l_X12_readItems_2_45 x1 x3 f (x5 ||| ((1 : Int32) <<< (x6 &&& 31))) x6 M16
    else
    gs_b2 (f_X12_fails M) fun v23 M24 =>
    some M24
    else
    some M
def f_X12_readItems_2 (M : gs_M) (x1 : Int32) (x3 : Int32) : Option (gs_M) :=
  gs_b2 (l_X12_readItems_2_3 x1 x3 gs_FU (0 : Int32) M) fun y1 M2 =>
  gs_b2 (f_X12_look M2) fun v4 M5 =>
  gs_b1 (f_X12_spotOf_2 v4) fun v7 =>
  l_X12_readItems_2_45 x1 x3 gs_FU (0 : Int32) v7 M5
def f_X12_readClause (M : gs_M) : Option (gs_M) :=
  gs_b2 (f_X12_look M) fun v1 M2 =>
  if (if v1 = (115 : Int32) then if (M2 147 27) = (0 : Int32) then (1 : Int32) else if v1 = (112 : Int32) then if (8 : Int32) ≤ (M2 147 25) then (0 : Int32) else (1 : Int32) else (0 : Int32) else if v1 = (112 : Int32) then if (8 : Int32) ≤ (M2 147 25) then (0 : Int32) else (1 : Int32) else (0 : Int32) : Int32) = (0 : Int32) then
  gs_b2 (f_X12_fails M2) fun v19 M20 =>
  some M20
  else
  gs_b1 (some (gs_up M2 147 10 ((M2 147 10) + (1 : Int32)))) fun M6 =>
  gs_b1 (if v1 = (115 : Int32) then
  gs_b1 (some (gs_up M6 147 27 (1 : Int32))) fun M16 =>
  gs_b1 (f_X12_readItems_2 M16 v1 (0 : Int32)) fun M17 =>
  some (M17)
  else
  gs_b1 (some (gs_up M6 147 25 ((M6 147 25) + (1 : Int32)))) fun M12 =>
  gs_b1 (f_X12_readItems M12 v1 ((5 : Int32) * ((M12 147 25) - (1 : Int32)))) fun M13 =>
  some (M13)) fun M7 =>
  some M7
def l_X12_isWhole_2 (M : gs_M) : Nat → Int32 → Option (Int32)
  | 0, _ => none
  | f + 1, x1 =>
    if (M 147 25) ≤ x1 then
    gs_b1 (gs_ckZ (if (M 147 25) ≤ (0 : Int32) then (0 : Int32) else (1 : Int32) : Int32)) fun z1 =>
    some z1
    else
    gs_b1 (gs_rd M 155 40 (((5 : Int32) * x1) + (4 : Int32))) fun v4 =>
    if v4 = (8 : Int32) then
    l_X12_isWhole_2 M f (x1 + (1 : Int32))
    else
    if (M 147 25) ≤ v4 then
    some (0 : Int32)
    else
    if v4 = x1 then
    some (0 : Int32)
    else
    gs_b1 (gs_rd M 155 40 (((5 : Int32) * v4) + (4 : Int32))) fun v9 =>
    if v9 = x1 then
    l_X12_isWhole_2 M f (x1 + (1 : Int32))
    else
    some (0 : Int32)
def f_X12_isWhole (M : gs_M) : Option (Int32) :=
  l_X12_isWhole_2 M gs_FU (0 : Int32)
def l_X12_readTown_25  : Nat → Int32 → gs_M → Option (Int32 × gs_M)
  | 0, _, _ => none
  | f + 1, x1, M =>
    if (3 : Int32) ≤ x1 then
    some (x1, M)
    else
    gs_b1 (f_X12_usual (115 : Int32) x1) fun v2 =>
    gs_b1 (gs_wr M 153 3 x1 v2) fun M5 =>
    l_X12_readTown_25  f (x1 + (1 : Int32)) M5
def l_X12_readTown_50  : Nat → Int32 → gs_M → Option (Int32 × gs_M)
  | 0, _, _ => none
  | f + 1, x1, M =>
    if x1 = (0 : Int32) then
    some (x1, M)
    else
    if (M 147 11) = (-1 : Int32) then
    gs_b1 (f_X12_readClause M) fun M3 =>
    gs_b2 (if (M3 147 11) = (-1 : Int32) then
    gs_b2 (f_X12_look M3) fun v10 M11 =>
    if v10 = (59 : Int32) then
    some ((1 : Int32), M11)
    else
    some ((0 : Int32), M11)
    else
    some ((0 : Int32), M3)) fun y5 M6 =>
    if y5 = (0 : Int32) then
    l_X12_readTown_50  f y5 M6
    else
    gs_b1 (some (gs_up M6 147 10 ((M6 147 10) + (1 : Int32)))) fun M16 =>
    l_X12_readTown_50  f y5 M16
    else
    some (x1, M)
def f_X12_readTown (M : gs_M) : Option (gs_M) :=
  gs_b1 (f_X12_starts_2 M (0 : Int32) (M 147 6)) fun M1 =>
  gs_b1 (some (gs_up M1 147 25 (0 : Int32))) fun M4 =>
  gs_b1 (some (gs_up M4 147 27 (0 : Int32))) fun M6 =>
  gs_b2 (l_X12_readTown_25 gs_FU (0 : Int32) M6) fun y7 M8 =>
  gs_b2 (l_X12_readTown_50 gs_FU (1 : Int32) M8) fun y10 M11 =>
  gs_b1 (if (M11 147 11) = (-1 : Int32) then
  gs_b2 (f_X12_look M11) fun v17 M18 =>
  if v17 = (-1 : Int32) then
  gs_b1 (f_X12_isWhole M18) fun v24 =>
  if v24 = (0 : Int32) then
  gs_b2 (f_X12_fails M18) fun v27 M28 =>
  some (M28)
  else
  some (M18)
  else
  gs_b2 (f_X12_fails M18) fun v21 M22 =>
  some (M22)
  else
  some (M11)) fun M13 =>
  some M13
def l_X12_goThrough_2_32 (x2 : Int32) (x3 : Int32) (x4 : Int32) : Nat → gs_M → Option (gs_M)
  | 0, _ => none
  | f + 1, M =>
    if (M 147 11) = (-1 : Int32) then
    gs_b2 (f_X12_look M) fun v2 M3 =>
    if v2 = (59 : Int32) then
    gs_b1 (some (gs_up M3 147 10 ((M3 147 10) + (1 : Int32)))) fun M7 =>
    gs_b1 (f_X12_clause M7) fun M8 =>
    l_X12_goThrough_2_32 x2 x3 x4 f M8
    else
    some (M3)
    else
    some (M)
def f_X12_goThrough_2 (M : gs_M) (x2 : Int32) (x3 : Int32) (x4 : Int32) : Option (gs_M) :=
  gs_b1 (f_X12_starts_2 M x2 x3) fun M1 =>
  gs_b1 (some (gs_up M1 147 13 x4)) fun M4 =>
  gs_b1 (some (gs_up M4 147 12 (0 : Int32))) fun M6 =>
  gs_b1 (some (gs_up M6 147 17 (0 : Int32))) fun M8 =>
  gs_b1 (some (gs_up M8 147 14 (0 : Int32))) fun M10 =>
  gs_b1 (f_X12_clause M10) fun M11 =>
  gs_b1 (l_X12_goThrough_2_32 x2 x3 x4 gs_FU M11) fun M13 =>
  gs_b1 (if (M13 147 11) = (-1 : Int32) then
  gs_b2 (f_X12_look M13) fun v19 M20 =>
  if v19 = (-1 : Int32) then
  some (M20)
  else
  gs_b2 (f_X12_fails M20) fun v23 M24 =>
  some (M24)
  else
  some (M13)) fun M15 =>
  some M15
def l_X12_readWatch_15  : Nat → Int32 → gs_M → Option (gs_M)
  | 0, _, _ => none
  | f + 1, x1, M =>
    if (M 147 11) = (-1 : Int32) then
    if x1 = (0 : Int32) then
    gs_b2 (f_X12_look M) fun v5 M6 =>
    gs_b1 (f_X12_isDigit M6) fun v8 =>
    if v8 = (0 : Int32) then
    gs_b2 (f_X12_fails M6) fun v11 M12 =>
    some M12
    else
    if x1 = (9 : Int32) then
    gs_b2 (f_X12_fails M6) fun v19 M20 =>
    some M20
    else
    gs_b1 (gs_wr M6 156 45 ((36 : Int32) + x1) (v5 - (48 : Int32))) fun M16 =>
    gs_b1 (some (gs_up M16 147 10 ((M16 147 10) + (1 : Int32)))) fun M18 =>
    l_X12_readWatch_15  f (x1 + (1 : Int32)) M18
    else
    gs_b2 (f_X12_look M) fun v22 M23 =>
    if v22 = (-1 : Int32) then
    gs_b1 (gs_wr M23 157 5 (4 : Int32) x1) fun M27 =>
    some M27
    else
    gs_b2 (f_X12_look M23) fun v28 M29 =>
    gs_b1 (f_X12_isDigit M29) fun v31 =>
    if v31 = (0 : Int32) then
    gs_b2 (f_X12_fails M29) fun v34 M35 =>
    some M35
    else
    if x1 = (9 : Int32) then
    gs_b2 (f_X12_fails M29) fun v42 M43 =>
    some M43
    else
    gs_b1 (gs_wr M29 156 45 ((36 : Int32) + x1) (v28 - (48 : Int32))) fun M39 =>
    gs_b1 (some (gs_up M39 147 10 ((M39 147 10) + (1 : Int32)))) fun M41 =>
    l_X12_readWatch_15  f (x1 + (1 : Int32)) M41
    else
    gs_b1 (gs_wr M 157 5 (4 : Int32) x1) fun M3 =>
    some M3
def f_X12_readWatch (M : gs_M) : Option (gs_M) :=
  gs_b1 (f_X12_starts_2 M (0 : Int32) (M 147 6)) fun M1 =>
  l_X12_readWatch_15 gs_FU (0 : Int32) M1
def f_X12_fault (M : gs_M) (x1 : Int32) : Option (Int32 × gs_M) :=
  gs_b1 (some (gs_up M 147 0 (0 : Int32))) fun M2 =>
  gs_b1 (f_X12_isIn (Int32.toInt64 x1) (0 : Int64) (2 : Int64)) fun v3 =>
  if v3 = (0 : Int32) then
  some ((-2 : Int32), M2)
  else
  gs_b1 (if x1 = (0 : Int32) then
  gs_b1 (f_X12_readTown M2) fun M10 =>
  some (M10)
  else
  some (M2)) fun M6 =>
  gs_b1 (if x1 = (1 : Int32) then
  gs_b1 (f_X12_goThrough_2 M6 (0 : Int32) (M6 147 6) (121 : Int32)) fun M16 =>
  some (M16)
  else
  some (M6)) fun M12 =>
  gs_b1 (if x1 = (2 : Int32) then
  gs_b1 (f_X12_readWatch M12) fun M22 =>
  some (M22)
  else
  some (M12)) fun M18 =>
  some (M18 147 11, M18)
def l_X12_bytesIn_5 (x0 : Int32) : Nat → Int32 → Int32 → Option (Int32 × Int32)
  | 0, _, _ => none
  | f + 1, x1, x2 =>
    if x2 < (0 : Int32) then
    some (x1, x2)
    else
    l_X12_bytesIn_5 x0 f (x1 + (if ((x0 >>> (x2 &&& 31)) &&& (255 : Int32)) = (0 : Int32) then (0 : Int32) else (1 : Int32) : Int32)) (x2 + (-8 : Int32))
def f_X12_bytesIn (x0 : Int32) : Option (Int32) :=
  gs_b2 (l_X12_bytesIn_5 x0 gs_FU (0 : Int32) (24 : Int32)) fun y1 y2 =>
  some y1
def l_X12_put_3 (x1 : Int32) : Nat → Int32 → gs_M → Option (Int32 × gs_M)
  | 0, _, _ => none
  | f + 1, x2, M =>
    if x2 < (0 : Int32) then
    some (x2, M)
    else
    gs_b1 (if ((x1 >>> (x2 &&& 31)) &&& (255 : Int32)) = (0 : Int32) then
    some (M)
    else
    gs_b1 (gs_wr M 148 240 (M 147 6) (vp_nar .byte ((Int32.toInt8 (x1 >>> (x2 &&& 31))).toInt32))) fun M7 =>
    gs_b1 (some (gs_up M7 147 6 ((M7 147 6) + (1 : Int32)))) fun M9 =>
    some (M9)) fun M2 =>
    l_X12_put_3 x1 f (x2 + (-8 : Int32)) M2
def f_X12_put (M : gs_M) (x1 : Int32) : Option (gs_M) :=
  gs_b2 (l_X12_put_3 x1 gs_FU (24 : Int32) M) fun y1 M2 =>
  some M2
def f_X12_feed (M : gs_M) (x1 : Int32) (x2 : Int32) (x3 : Int32) (x4 : Int32) (x5 : Int32) : Option (Int32 × gs_M) :=
  gs_b1 (some (gs_up M 147 0 (0 : Int32))) fun M2 =>
  gs_b1 (f_X12_bytesIn x1) fun v3 =>
  gs_b1 (f_X12_bytesIn x2) fun v5 =>
  gs_b1 (f_X12_bytesIn x3) fun v7 =>
  gs_b1 (f_X12_bytesIn x4) fun v9 =>
  gs_b1 (f_X12_bytesIn x5) fun v11 =>
  if ((((((M2 147 6) + v3) + v5) + v7) + v9) + v11) ≤ (240 : Int32) then
  gs_b1 (f_X12_put M2 x1) fun M14 =>
  gs_b1 (f_X12_put M14 x2) fun M16 =>
  gs_b1 (f_X12_put M16 x3) fun M18 =>
  gs_b1 (f_X12_put M18 x4) fun M20 =>
  gs_b1 (f_X12_put M20 x5) fun M22 =>
  some (M22 147 6, M22)
  else
  some ((-1 : Int32), M2)
def f_X12_forge (M : gs_M) (x1 : Int32) : Option (Int32 × gs_M) :=
  gs_b1 (some (gs_up M 147 0 (0 : Int32))) fun M2 =>
  gs_b2 (f_X12_marks M2 x1 (4 : Int32)) fun v3 M4 =>
  gs_b1 (gs_ckZ v3) fun z6 =>
  some (z6, M4)
def l_X12_image_16  : Nat → Int32 → gs_M → Option (Int32 × gs_M)
  | 0, _, _ => none
  | f + 1, x1, M =>
    if (533 : Int32) ≤ x1 then
    some (x1, M)
    else
    gs_b1 (gs_rd M 158 533 x1) fun v2 =>
    gs_b1 (gs_wr M 169 533 x1 v2) fun M5 =>
    l_X12_image_16  f (x1 + (1 : Int32)) M5
def f_X12_image (M : gs_M) : Option (Int32 × gs_M) :=
  gs_b1 (some (gs_up M 147 0 (0 : Int32))) fun M2 =>
  if (M2 147 24) = (0 : Int32) then
  some ((-1 : Int32), M2)
  else
  gs_b2 (l_X12_image_16 gs_FU (0 : Int32) M2) fun y4 M5 =>
  gs_b1 (some (gs_up M5 147 46 (1 : Int32))) fun M8 =>
  gs_b1 (gs_rd M8 158 533 (48 : Int32)) fun v9 =>
  some (v9, M8)
def l_X12_leaveBook_31 (x1 : Int32) (x2 : Int32) (x3 : Int32) : Nat → Int32 → gs_M → Option (Int32 × gs_M)
  | 0, _, _ => none
  | f + 1, x4, M =>
    if (5 : Int32) ≤ x4 then
    some (x4, M)
    else
    gs_b1 (f_X12_page M x3 x4) fun v2 =>
    gs_b1 (gs_wr M 158 533 (((52 : Int32) + ((5 : Int32) * x2)) + x4) v2) fun M5 =>
    l_X12_leaveBook_31 x1 x2 x3 f (x4 + (1 : Int32)) M5
def l_X12_leaveBook_4 (x1 : Int32) : Nat → Int32 → Int32 → gs_M → Option (Int32 × Int32 × gs_M)
  | 0, _, _, _ => none
  | f + 1, x2, x3, M =>
    gs_b1 (gs_rd M 158 533 (51 : Int32)) fun v1 =>
    if v1 ≤ x3 then
    some (x2, x3, M)
    else
    gs_b1 (f_X12_page M x3 (2 : Int32)) fun v4 =>
    gs_b2 (if v4 = x1 then
    some (x2, M)
    else
    gs_b2 (l_X12_leaveBook_31 x1 x2 x3 gs_FU (0 : Int32) M) fun y11 M12 =>
    some (x2 + (1 : Int32), M12)) fun y6 M7 =>
    l_X12_leaveBook_4 x1 f y6 (x3 + (1 : Int32)) M7
def f_X12_leaveBook (M : gs_M) (x1 : Int32) : Option (gs_M) :=
  gs_b3 (l_X12_leaveBook_4 x1 gs_FU (0 : Int32) (0 : Int32) M) fun y1 y2 M3 =>
  gs_b1 (gs_wr M3 158 533 (51 : Int32) y1) fun M6 =>
  some M6
def l_X12_judge_135 (x1 : Int32) (x2 : Int32) (x3 : Int32) : Nat → Int32 → gs_M → Option (Int32 × gs_M)
  | 0, _, _ => none
  | f + 1, x4, M =>
    if (177 : Int32) < x4 then
    some (x4, M)
    else
    gs_b1 (gs_rd M 158 533 (((352 : Int32) + x4) + (3 : Int32))) fun v2 =>
    gs_b1 (gs_wr M 158 533 ((352 : Int32) + x4) v2) fun M5 =>
    l_X12_judge_135 x1 x2 x3 f (x4 + (1 : Int32)) M5
def f_X12_judge (M : gs_M) (x1 : Int32) : Option (Int32 × gs_M) :=
  gs_b1 (some (gs_up M 147 0 (0 : Int32))) fun M2 =>
  gs_b1 (f_X12_isPerson M2 x1) fun v3 =>
  if v3 = (0 : Int32) then
  some ((-1 : Int32), M2)
  else
  gs_b1 (f_X12_of M2 x1 (5 : Int32)) fun v6 =>
  if v6 = (1 : Int32) then
  some ((-1 : Int32), M2)
  else
  gs_b1 (f_X12_pagesOf M2 x1) fun v9 =>
  if v9 = (0 : Int32) then
  some ((-1 : Int32), M2)
  else
  gs_b1 (f_X12_remember M2) fun M12 =>
  gs_b2 (f_X12_caseOf M12 x1) fun v14 M15 =>
  gs_b1 (gs_rd M15 152 3 (1 : Int32)) fun v17 =>
  gs_b1 (gs_wr M15 158 533 (((6 : Int32) * x1) + (5 : Int32)) (if v14 < v17 then (0 : Int32) else (1 : Int32) : Int32)) fun M20 =>
  gs_b1 (f_X12_of M20 x1 (0 : Int32)) fun v21 =>
  gs_b1 (gs_rd M20 158 533 (if (if v21 ≤ (0 : Int32) then (0 : Int32) else (1 : Int32) : Int32) = (if (if v14 < v17 then (0 : Int32) else (1 : Int32) : Int32) = (1 : Int32) then (1 : Int32) else (0 : Int32) : Int32) then (49 : Int32) else (50 : Int32) : Int32)) fun v23 =>
  gs_b1 (gs_wr M20 158 533 (if (if v21 ≤ (0 : Int32) then (0 : Int32) else (1 : Int32) : Int32) = (if (if v14 < v17 then (0 : Int32) else (1 : Int32) : Int32) = (1 : Int32) then (1 : Int32) else (0 : Int32) : Int32) then (49 : Int32) else (50 : Int32) : Int32) (v23 + (1 : Int32))) fun M26 =>
  gs_b1 (f_X12_leaveBook M26 x1) fun M27 =>
  gs_b1 (gs_rd M27 158 533 (352 : Int32)) fun v29 =>
  gs_b1 (if v29 = (60 : Int32) then
  gs_b2 (l_X12_judge_135 x1 v14 (if v14 < v17 then (0 : Int32) else (1 : Int32) : Int32) gs_FU (1 : Int32) M27) fun y35 M36 =>
  gs_b1 (gs_rd M36 158 533 (352 : Int32)) fun v38 =>
  gs_b1 (gs_wr M36 158 533 (352 : Int32) (v38 - (1 : Int32))) fun M41 =>
  some (M41)
  else
  some (M27)) fun M31 =>
  gs_b1 (gs_rd M31 158 533 (352 : Int32)) fun v42 =>
  gs_b1 (gs_wr M31 158 533 ((353 : Int32) + ((3 : Int32) * v42)) x1) fun M45 =>
  gs_b1 (gs_wr M45 158 533 (((353 : Int32) + ((3 : Int32) * v42)) + (1 : Int32)) (if v14 < v17 then (0 : Int32) else (1 : Int32) : Int32)) fun M47 =>
  gs_b1 (gs_wr M47 158 533 (((353 : Int32) + ((3 : Int32) * v42)) + (2 : Int32)) v14) fun M49 =>
  gs_b1 (gs_rd M49 158 533 (352 : Int32)) fun v50 =>
  gs_b1 (gs_wr M49 158 533 (352 : Int32) (v50 + (1 : Int32))) fun M53 =>
  some ((if v14 < v17 then (0 : Int32) else (1 : Int32) : Int32), M53)
def f_X12_lamp (M : gs_M) (x1 : Int32) (x2 : Int32) (x3 : Int32) : Option (Int32 × gs_M) :=
  gs_b1 (some (gs_up M 147 0 (0 : Int32))) fun M2 =>
  gs_b1 (f_X12_isPerson M2 x1) fun v3 =>
  if v3 = (0 : Int32) then
  some ((-1 : Int32), M2)
  else
  gs_b1 (f_X12_isHour M2 x2) fun v6 =>
  if v6 = (0 : Int32) then
  some ((-1 : Int32), M2)
  else
  if (M2 147 40) = (12 : Int32) then
  some ((-1 : Int32), M2)
  else
  gs_b1 (gs_wr M2 162 12 (M2 147 40) x1) fun M11 =>
  gs_b1 (gs_wr M11 163 12 (M11 147 40) x2) fun M13 =>
  gs_b1 (gs_wr M13 164 12 (M13 147 40) (vp_nar .boolean x3)) fun M15 =>
  gs_b1 (some (gs_up M15 147 40 ((M15 147 40) + (1 : Int32)))) fun M17 =>
  some (M17 147 40, M17)
def f_X12_law (M : gs_M) (x1 : Int32) : Option (Int32 × gs_M) :=
  gs_b1 (some (gs_up M 147 0 (0 : Int32))) fun M2 =>
  if x1 = (-1 : Int32) then
  gs_b1 (some (gs_up M2 147 29 x1)) fun M5 =>
  some ((1 : Int32), M5)
  else
  gs_b1 (f_X12_isIn (Int32.toInt64 x1) (0 : Int64) (Int32.toInt64 ((M2 147 7) - (1 : Int32)))) fun v6 =>
  if v6 = (0 : Int32) then
  some ((0 : Int32), M2)
  else
  gs_b1 (some (gs_up M2 147 29 x1)) fun M10 =>
  some ((1 : Int32), M10)
def l_X12_likeliest_57 (x1 : Int32) (x2 : Int32) (x3 : Int32) (x4 : Int64) (x6 : Int32) : Nat → Int64 → Int32 → gs_M → Option (Int64 × Int32 × gs_M)
  | 0, _, _, _ => none
  | f + 1, x7, x9, M =>
    gs_b1 (gs_rd M 152 3 (0 : Int32)) fun v1 =>
    if v1 ≤ x9 then
    some (x7, x9, M)
    else
    gs_b1 (f_X12_has x6 x9) fun v4 =>
    gs_b2 (if v4 = (0 : Int32) then
    gs_b2 (f_X12_wakesNow M x1 x9) fun v11 M12 =>
    some (Int32.toInt64 ((10 : Int32) - v11), M12)
    else
    gs_b2 (f_X12_wakesNow M x1 x9) fun v14 M15 =>
    some (Int32.toInt64 v14, M15)) fun y6 M7 =>
    l_X12_likeliest_57 x1 x2 x3 x4 x6 f (x7 * y6) (x9 + (1 : Int32)) M7
def l_X12_likeliest_24 (x1 : Int32) (x2 : Int32) : Nat → Int32 → Int64 → Int32 → gs_M → Option (Int32 × Int64 × Int32 × gs_M)
  | 0, _, _, _, _ => none
  | f + 1, x3, x4, x6, M =>
    gs_b1 (gs_rd M 152 3 (0 : Int32)) fun v1 =>
    if ((1 : Int32) <<< (v1 &&& 31)) ≤ x6 then
    some (x3, x4, x6, M)
    else
    gs_b2 (f_X12_canBurn M x1 x2 x6) fun v4 M5 =>
    gs_b3 (if v4 = (0 : Int32) then
    some (x3, x4, M5)
    else
    gs_b3 (l_X12_likeliest_57 x1 x2 x3 x4 x6 gs_FU (1 : Int64) (0 : Int32) M5) fun y13 y14 M15 =>
    if x3 = (-1 : Int32) then
    some (x6, y13, M15)
    else
    if (0 : Int32) < (lg_cmp y13 x4) then
    some (x6, y13, M15)
    else
    some (x3, x4, M15)) fun y7 y8 M9 =>
    l_X12_likeliest_24 x1 x2 f y7 y8 (x6 + (1 : Int32)) M9
def f_X12_likeliest (M : gs_M) (x1 : Int32) (x2 : Int32) : Option (Int32 × gs_M) :=
  gs_b1 (some (gs_up M 147 0 (0 : Int32))) fun M2 =>
  gs_b1 (f_X12_isCandle M2 x1 x2) fun v3 =>
  if v3 = (0 : Int32) then
  some ((-1 : Int32), M2)
  else
  gs_b4 (l_X12_likeliest_24 x1 x2 gs_FU (-1 : Int32) (0 : Int64) (0 : Int32) M2) fun y6 y7 y8 M9 =>
  some (y6, M9)
def l_X12_line_34 (x1 : Int32) (x2 : Int32) (x3 : Int32) : Nat → Int32 → Int32 → gs_M → Option (Int32 × Int32 × gs_M)
  | 0, _, _, _ => none
  | f + 1, x4, x5, M =>
    if (M 147 24) ≤ x5 then
    some (x4, x5, M)
    else
    gs_b1 (f_X12_has x2 x5) fun v2 =>
    gs_b2 (if v2 = (0 : Int32) then
    if x4 = (-1 : Int32) then
    some (x5, M)
    else
    gs_b2 (f_X12_caseOf M x5) fun v10 M11 =>
    gs_b2 (f_X12_caseOf M11 x4) fun v13 M14 =>
    if v10 ≤ v13 then
    some (x4, M14)
    else
    some (x5, M14)
    else
    some (x4, M)) fun y4 M5 =>
    l_X12_line_34 x1 x2 x3 f y4 (x5 + (1 : Int32)) M5
def l_X12_line_20  : Nat → Int32 → Int32 → Int32 → gs_M → Option (Int32 × Int32 × Int32 × gs_M)
  | 0, _, _, _, _ => none
  | f + 1, x1, x2, x3, M =>
    if (M 147 24) ≤ x3 then
    some (x1, x2, x3, M)
    else
    gs_b3 (l_X12_line_34 x1 x2 x3 gs_FU (-1 : Int32) (0 : Int32) M) fun y2 y3 M4 =>
    l_X12_line_20  f (((10 : Int32) * x1) + y2) (x2 ||| ((1 : Int32) <<< (y2 &&& 31))) (x3 + (1 : Int32)) M4
def f_X12_line (M : gs_M) : Option (Int32 × gs_M) :=
  gs_b1 (some (gs_up M 147 0 (0 : Int32))) fun M2 =>
  if (M2 147 24) = (0 : Int32) then
  some ((-1 : Int32), M2)
  else
  gs_b4 (l_X12_line_20 gs_FU (0 : Int32) (0 : Int32) (0 : Int32) M2) fun y4 y5 y6 M7 =>
  some (y4, M7)
def f_X12_log (M : gs_M) (x1 : Int32) (x2 : Int32) : Option (Int32 × gs_M) :=
  gs_b1 (some (gs_up M 147 0 (0 : Int32))) fun M2 =>
  gs_b1 (gs_rd M2 158 533 (352 : Int32)) fun v3 =>
  gs_b1 (f_X12_isIn (Int32.toInt64 x1) (0 : Int64) (Int32.toInt64 (v3 - (1 : Int32)))) fun v5 =>
  gs_b1 (if v5 = (0 : Int32) then
  some ((-1000000 : Int32))
  else
  gs_b1 (f_X12_isIn (Int32.toInt64 x2) (0 : Int64) (2 : Int64)) fun v11 =>
  if v11 = (0 : Int32) then
  some ((-1000000 : Int32))
  else
  gs_b1 (gs_rd M2 158 533 (352 : Int32)) fun v14 =>
  gs_b1 (gs_rd M2 158 533 (((353 : Int32) + ((3 : Int32) * ((v14 - (1 : Int32)) - x1))) + x2)) fun v16 =>
  some (v16)) fun y7 =>
  some (y7, M2)
def l_X12_meet_35 (x1 : Int32) (x2 : Int32) : Nat → Int64 → Int32 → gs_M → Option (Int64 × Int32 × gs_M)
  | 0, _, _, _ => none
  | f + 1, x3, x5, M =>
    gs_b1 (gs_rd M 152 3 (0 : Int32)) fun v1 =>
    if v1 ≤ x5 then
    some (x3, x5, M)
    else
    gs_b2 (f_X12_wakesNow M x1 x5) fun v4 M5 =>
    gs_b2 (f_X12_wakesNow M5 x2 x5) fun v7 M8 =>
    gs_b1 (gs_dvl ((x3 * (Int32.toInt64 v4)) * (Int32.toInt64 v7)) (100 : Int64)) fun v10 =>
    l_X12_meet_35 x1 x2 f (x3 - v10) (x5 + (1 : Int32)) M8
def f_X12_meet (M : gs_M) (x1 : Int32) (x2 : Int32) : Option (Int32 × gs_M) :=
  gs_b1 (some (gs_up M 147 0 (0 : Int32))) fun M2 =>
  gs_b1 (f_X12_isPerson M2 x1) fun v3 =>
  if v3 = (0 : Int32) then
  some ((-1 : Int32), M2)
  else
  gs_b1 (f_X12_isPerson M2 x2) fun v6 =>
  if v6 = (0 : Int32) then
  some ((-1 : Int32), M2)
  else
  if x1 = x2 then
  some ((-1 : Int32), M2)
  else
  gs_b3 (l_X12_meet_35 x1 x2 gs_FU (1000000000 : Int64) (0 : Int32) M2) fun y10 y11 M12 =>
  some (Int64.toInt32 ((1000000000 : Int64) - y10), M12)
def l_X12_sleepsOf_7 (x1 : Int32) : Nat → Int64 → Int32 → gs_M → Option (Int64 × Int32 × gs_M)
  | 0, _, _, _ => none
  | f + 1, x2, x4, M =>
    gs_b1 (gs_rd M 152 3 (0 : Int32)) fun v1 =>
    if v1 ≤ x4 then
    some (x2, x4, M)
    else
    gs_b2 (f_X12_wakesNow M x1 x4) fun v4 M5 =>
    gs_b1 (gs_dvl (x2 * (Int32.toInt64 ((10 : Int32) - v4))) (10 : Int64)) fun v7 =>
    l_X12_sleepsOf_7 x1 f v7 (x4 + (1 : Int32)) M5
def f_X12_sleepsOf (M : gs_M) (x1 : Int32) : Option (Int32 × gs_M) :=
  gs_b3 (l_X12_sleepsOf_7 x1 gs_FU (1000000000 : Int64) (0 : Int32) M) fun y1 y2 M3 =>
  some (Int64.toInt32 y1, M3)
def l_X12_most_28 (x1 : Int32) : Nat → Int32 → Int32 → gs_M → Option (Int32 × Int32 × gs_M)
  | 0, _, _, _ => none
  | f + 1, x2, x3, M =>
    if (M 147 24) ≤ x3 then
    some (x2, x3, M)
    else
    gs_b2 (if x1 = (0 : Int32) then
    gs_b1 (f_X12_of M x3 (2 : Int32)) fun v14 =>
    gs_b1 (f_X12_of M x2 (2 : Int32)) fun v16 =>
    if v14 ≤ v16 then
    some ((0 : Int32), M)
    else
    some ((1 : Int32), M)
    else
    gs_b2 (f_X12_sleepsOf M x3) fun v7 M8 =>
    gs_b2 (f_X12_sleepsOf M8 x2) fun v10 M11 =>
    if v7 ≤ v10 then
    some ((0 : Int32), M11)
    else
    some ((1 : Int32), M11)) fun y2 M3 =>
    l_X12_most_28 x1 f (if y2 = (0 : Int32) then x2 else x3 : Int32) (x3 + (1 : Int32)) M3
def f_X12_most (M : gs_M) (x1 : Int32) : Option (Int32 × gs_M) :=
  gs_b1 (some (gs_up M 147 0 (0 : Int32))) fun M2 =>
  if (M2 147 24) = (0 : Int32) then
  some ((-1 : Int32), M2)
  else
  gs_b1 (f_X12_isIn (Int32.toInt64 x1) (0 : Int64) (1 : Int64)) fun v4 =>
  if v4 = (0 : Int32) then
  some ((-1 : Int32), M2)
  else
  gs_b3 (l_X12_most_28 x1 gs_FU (0 : Int32) (1 : Int32) M2) fun y7 y8 M9 =>
  some (y7, M9)
def l_X12_needs_50 (x1 : Int32) (x2 : Int32) (x3 : Int32) (x4 : Int32) : Nat → Int32 → Int32 → gs_M → Option (Int32 × Int32 × gs_M)
  | 0, _, _, _ => none
  | f + 1, x5, x6, M =>
    if x6 < (0 : Int32) then
    some (x5, x6, M)
    else
    gs_b1 (gs_wr M 158 533 (((6 : Int32) * x1) + (1 : Int32)) x6) fun M3 =>
    gs_b2 (f_X12_wakesNow M3 x1 x2) fun v4 M5 =>
    l_X12_needs_50 x1 x2 x3 x4 f (if v4 < x3 then x5 else x6 : Int32) (x6 + (-1 : Int32)) M5
def f_X12_needs (M : gs_M) (x1 : Int32) (x2 : Int32) (x3 : Int32) : Option (Int32 × gs_M) :=
  gs_b1 (some (gs_up M 147 0 (0 : Int32))) fun M2 =>
  gs_b1 (f_X12_isPerson M2 x1) fun v3 =>
  if v3 = (0 : Int32) then
  some ((-1 : Int32), M2)
  else
  gs_b1 (f_X12_isHour M2 x2) fun v6 =>
  if v6 = (0 : Int32) then
  some ((-1 : Int32), M2)
  else
  gs_b1 (f_X12_isIn (Int32.toInt64 x3) (0 : Int64) (10 : Int64)) fun v9 =>
  if v9 = (0 : Int32) then
  some ((-1 : Int32), M2)
  else
  gs_b1 (f_X12_of M2 x1 (1 : Int32)) fun v12 =>
  gs_b3 (l_X12_needs_50 x1 x2 x3 v12 gs_FU (-1 : Int32) (9 : Int32) M2) fun y14 y15 M16 =>
  gs_b1 (gs_wr M16 158 533 (((6 : Int32) * x1) + (1 : Int32)) v12) fun M19 =>
  some (y14, M19)
def f_X12_watchedBy (M : gs_M) (x1 : Int32) (x2 : Int32) : Option (Int32) :=
  if x1 = (-1 : Int32) then
  some (-1 : Int32)
  else
  gs_b1 (gs_rd M 157 5 x1) fun v2 =>
  if x2 < v2 then
  gs_b1 (gs_rd M 156 45 (((9 : Int32) * x1) + x2)) fun v5 =>
  some (if v5 = (9 : Int32) then (-1 : Int32) else v5 : Int32)
  else
  some (-1 : Int32)
def f_X12_draw (L : gs_L) (x1 : Int32) : Option (Int32 × gs_L) :=
  gs_b1 (some (gs_upl L 147 32 (((L 147 32) * (6364136223846793005 : Int64)) + (1442695040888963407 : Int64)))) fun L2 =>
  gs_b1 (gs_rml ((Int64.toUInt64 (L2 147 32) >>> ((Int32.toInt64 (33 : Int32)).toUInt64 &&& Int64.toUInt64 63)).toInt64) (Int32.toInt64 x1)) fun v3 =>
  some (Int64.toInt32 v3, L2)
def l_X12_write_15 (x1 : Int32) (x2 : Int32) (x3 : Int32) : Nat → Int32 → gs_M → Option (Int32 × gs_M)
  | 0, _, _ => none
  | f + 1, x4, M =>
    if (295 : Int32) < x4 then
    some (x4, M)
    else
    gs_b1 (gs_rd M 158 533 (((51 : Int32) + x4) + (5 : Int32))) fun v2 =>
    gs_b1 (gs_wr M 158 533 ((51 : Int32) + x4) v2) fun M5 =>
    l_X12_write_15 x1 x2 x3 f (x4 + (1 : Int32)) M5
def f_X12_write (M : gs_M) (x1 : Int32) (x2 : Int32) (x3 : Int32) : Option (gs_M) :=
  gs_b1 (gs_rd M 158 533 (51 : Int32)) fun v1 =>
  gs_b1 (if v1 = (60 : Int32) then
  gs_b2 (l_X12_write_15 x1 x2 x3 gs_FU (1 : Int32) M) fun y7 M8 =>
  gs_b1 (gs_rd M8 158 533 (51 : Int32)) fun v10 =>
  gs_b1 (gs_wr M8 158 533 (51 : Int32) (v10 - (1 : Int32))) fun M13 =>
  some (M13)
  else
  some (M)) fun M3 =>
  gs_b1 (gs_rd M3 158 533 (51 : Int32)) fun v14 =>
  gs_b1 (gs_rd M3 158 533 (48 : Int32)) fun v16 =>
  gs_b1 (gs_wr M3 158 533 ((52 : Int32) + ((5 : Int32) * v14)) v16) fun M19 =>
  gs_b1 (gs_wr M19 158 533 (((52 : Int32) + ((5 : Int32) * v14)) + (1 : Int32)) x1) fun M21 =>
  gs_b1 (gs_wr M21 158 533 (((52 : Int32) + ((5 : Int32) * v14)) + (2 : Int32)) x2) fun M23 =>
  gs_b1 (gs_wr M23 158 533 (((52 : Int32) + ((5 : Int32) * v14)) + (3 : Int32)) x3) fun M25 =>
  gs_b1 (f_X12_of M25 x2 (2 : Int32)) fun v26 =>
  gs_b1 (gs_wr M25 158 533 (((52 : Int32) + ((5 : Int32) * v14)) + (4 : Int32)) v26) fun M29 =>
  gs_b1 (gs_rd M29 158 533 (51 : Int32)) fun v30 =>
  gs_b1 (gs_wr M29 158 533 (51 : Int32) (v30 + (1 : Int32))) fun M33 =>
  some M33
def l_X12_goNight_2 (L : gs_L) : Nat → Int32 → gs_M → Option (Int32 × gs_M)
  | 0, _, _ => none
  | f + 1, x1, M =>
    if (M 147 24) ≤ x1 then
    some (x1, M)
    else
    gs_b1 (gs_wr M 159 8 x1 (0 : Int32)) fun M3 =>
    l_X12_goNight_2 L f (x1 + (1 : Int32)) M3
def l_X12_goNight_47 (x1 : Int32) (x2 : Int32) : Nat → Int32 → gs_M → gs_L → Option (Int32 × gs_M × gs_L)
  | 0, _, _, _ => none
  | f + 1, x3, M, L =>
    if (M 147 24) ≤ x3 then
    some (x3, M, L)
    else
    gs_b2 (f_X12_draw L (10 : Int32)) fun v2 L3 =>
    gs_b2 (f_X12_wakesNow M x3 x1) fun v5 M6 =>
    gs_b1 (gs_rd M6 159 8 x3) fun v8 =>
    gs_b1 (gs_wr M6 159 8 x3 (v8 + (if (if v5 ≤ v2 then (0 : Int32) else (1 : Int32) : Int32) = (0 : Int32) then (0 : Int32) else (1 : Int32) : Int32))) fun M11 =>
    gs_b1 (if x3 = x2 then
    gs_b1 (f_X12_of M11 x3 (5 : Int32)) fun v16 =>
    if v16 = (0 : Int32) then
    gs_b1 (if (if v5 ≤ v2 then (0 : Int32) else (1 : Int32) : Int32) = (0 : Int32) then
    gs_b1 (f_X12_of M11 x3 (4 : Int32)) fun v23 =>
    if v23 = (1 : Int32) then
    some ((1 : Int32))
    else
    some ((0 : Int32))
    else
    some ((1 : Int32))) fun y19 =>
    gs_b1 (f_X12_write M11 x1 x3 y19) fun M26 =>
    some (M26)
    else
    some (M11)
    else
    some (M11)) fun M12 =>
    l_X12_goNight_47 x1 x2 f (x3 + (1 : Int32)) M12 L3
def l_X12_goNight_25  : Nat → Int32 → gs_M → gs_L → Option (Int32 × gs_M × gs_L)
  | 0, _, _, _ => none
  | f + 1, x1, M, L =>
    gs_b1 (gs_rd M 152 3 (0 : Int32)) fun v1 =>
    if v1 ≤ x1 then
    some (x1, M, L)
    else
    gs_b1 (f_X12_watchedBy M (M 147 30) x1) fun v4 =>
    gs_b3 (l_X12_goNight_47 x1 v4 gs_FU (0 : Int32) M L) fun y6 M7 L8 =>
    l_X12_goNight_25  f (x1 + (1 : Int32)) M7 L8
def l_X12_goNight_150 (L : gs_L) : Nat → Int32 → gs_M → Option (Int32 × gs_M)
  | 0, _, _ => none
  | f + 1, x1, M =>
    if (M 147 24) ≤ x1 then
    some (x1, M)
    else
    gs_b1 (gs_rd M 159 8 x1) fun v2 =>
    gs_b1 (gs_wr M 158 533 (((6 : Int32) * x1) + (2 : Int32)) (if v2 < (9 : Int32) then v2 else (9 : Int32) : Int32)) fun M5 =>
    gs_b1 (gs_wr M5 158 533 (((6 : Int32) * x1) + (3 : Int32)) (0 : Int32)) fun M7 =>
    gs_b1 (gs_wr M7 158 533 (((6 : Int32) * x1) + (4 : Int32)) (0 : Int32)) fun M9 =>
    l_X12_goNight_150 L f (x1 + (1 : Int32)) M9
def f_X12_goNight (M : gs_M) (L : gs_L) : Option (gs_M × gs_L) :=
  gs_b2 (l_X12_goNight_2 L gs_FU (0 : Int32) M) fun y1 M2 =>
  gs_b3 (l_X12_goNight_25 gs_FU (0 : Int32) M2 L) fun y4 M5 L6 =>
  gs_b2 (l_X12_goNight_150 L6 gs_FU (0 : Int32) M5) fun y8 M9 =>
  gs_b1 (gs_rd M9 158 533 (48 : Int32)) fun v11 =>
  gs_b1 (gs_wr M9 158 533 (48 : Int32) (v11 + (1 : Int32))) fun M14 =>
  some (M14, L6)
def f_X12_night (M : gs_M) (L : gs_L) (x1 : Int64) : Option (Int32 × gs_M × gs_L) :=
  gs_b1 (some (gs_up M 147 0 (0 : Int32))) fun M2 =>
  if (M2 147 24) = (0 : Int32) then
  some ((-1 : Int32), M2, L)
  else
  gs_b1 (gs_rd M2 158 533 (48 : Int32)) fun v4 =>
  if v4 = (999 : Int32) then
  some ((-1 : Int32), M2, L)
  else
  gs_b1 (f_X12_remember M2) fun M7 =>
  gs_b1 (some (gs_upl L 147 32 x1)) fun L10 =>
  gs_b2 (f_X12_goNight M7 L10) fun M11 L12 =>
  gs_b1 (gs_rd M11 158 533 (48 : Int32)) fun v14 =>
  some (v14, M11, L12)
def l_X12_people_30 (x1 : Int32) : Nat → Int32 → Int32 → gs_M → Option (Int32 × Int32 × gs_M)
  | 0, _, _, _ => none
  | f + 1, x2, x3, M =>
    if (M 147 24) ≤ x3 then
    some (x2, x3, M)
    else
    gs_b2 (if x1 = (0 : Int32) then
    gs_b1 (f_X12_of M x3 (5 : Int32)) fun v17 =>
    if v17 = (0 : Int32) then
    some ((1 : Int32), M)
    else
    some ((0 : Int32), M)
    else
    if x1 = (1 : Int32) then
    gs_b1 (f_X12_of M x3 (0 : Int32)) fun v14 =>
    if v14 = (0 : Int32) then
    some ((1 : Int32), M)
    else
    some ((0 : Int32), M)
    else
    gs_b2 (f_X12_caseOf M x3) fun v8 M9 =>
    gs_b1 (gs_rd M9 152 3 (1 : Int32)) fun v11 =>
    if v8 < v11 then
    some ((0 : Int32), M9)
    else
    some ((1 : Int32), M9)) fun y2 M3 =>
    l_X12_people_30 x1 f (x2 ||| (if y2 = (0 : Int32) then (0 : Int32) else ((1 : Int32) <<< (x3 &&& 31)) : Int32)) (x3 + (1 : Int32)) M3
def f_X12_people (M : gs_M) (x1 : Int32) : Option (Int32 × gs_M) :=
  gs_b1 (some (gs_up M 147 0 (0 : Int32))) fun M2 =>
  if (M2 147 24) = (0 : Int32) then
  some ((-1 : Int32), M2)
  else
  gs_b1 (f_X12_isIn (Int32.toInt64 x1) (0 : Int64) (2 : Int64)) fun v4 =>
  if v4 = (0 : Int32) then
  some ((-1 : Int32), M2)
  else
  gs_b3 (l_X12_people_30 x1 gs_FU (0 : Int32) (0 : Int32) M2) fun y7 y8 M9 =>
  some (y7, M9)
def f_X12_person (M : gs_M) (x1 : Int32) (x2 : Int32) : Option (Int32 × gs_M) :=
  gs_b1 (f_X12_isPerson M x1) fun v1 =>
  gs_b1 (if v1 = (0 : Int32) then
  some ((1 : Int32))
  else
  gs_b1 (f_X12_isIn (Int32.toInt64 x2) (0 : Int64) (7 : Int64)) fun v7 =>
  if v7 = (0 : Int32) then
  some ((1 : Int32))
  else
  some ((0 : Int32))) fun y3 =>
  gs_b1 (some (gs_up M 147 0 y3)) fun M11 =>
  if (M11 147 0) ≤ (0 : Int32) then
  if x2 = (0 : Int32) then
  gs_b1 (f_X12_of M11 x1 (0 : Int32)) fun v14 =>
  some (v14, M11)
  else
  if x2 = (1 : Int32) then
  gs_b1 (f_X12_conscience M11 x1) fun v17 =>
  some (v17, M11)
  else
  if x2 = (2 : Int32) then
  gs_b1 (f_X12_of M11 x1 (1 : Int32)) fun v20 =>
  some (v20, M11)
  else
  if x2 = (3 : Int32) then
  gs_b1 (f_X12_of M11 x1 (2 : Int32)) fun v23 =>
  some (v23, M11)
  else
  if x2 = (4 : Int32) then
  gs_b1 (f_X12_married M11 x1) fun v26 =>
  some (v26, M11)
  else
  gs_b1 (f_X12_of M11 x1 (x2 - (2 : Int32))) fun v30 =>
  some (v30, M11)
  else
  some ((0 : Int32), M11)
def f_X12_points (M : gs_M) (x1 : Int32) : Option (Int32 × gs_M) :=
  gs_b1 (some (gs_up M 147 0 (0 : Int32))) fun M2 =>
  gs_b1 (f_X12_isPerson M2 x1) fun v3 =>
  gs_b2 (if v3 = (0 : Int32) then
  some ((-1000000 : Int32), M2)
  else
  gs_b2 (f_X12_caseOf M2 x1) fun v10 M11 =>
  some (v10, M11)) fun y5 M6 =>
  some (y5, M6)
def l_X12_rests_32 (x1 : Int32) (x2 : Int32) (x3 : Int32) : Nat → Int32 → Int32 → gs_M → Option (Int32 × gs_M)
  | 0, _, _, _ => none
  | f + 1, x4, x5, M =>
    if (4 : Int32) ≤ x5 then
    some ((if x2 = (-1 : Int32) then x4 else (-1 : Int32) : Int32), M)
    else
    gs_b1 (gs_dv x5 (2 : Int32)) fun v4 =>
    gs_b1 (gs_rm9 x5 (2 : Int32)) fun v6 =>
    gs_b2 (f_X12_coupleOf M x1 ((1 : Int32) - v4) v6) fun v8 M9 =>
    gs_b2 (f_X12_coupleOf M9 x1 v4 v6) fun v11 M12 =>
    if v11 < v8 then
    l_X12_rests_32 x1 x2 x3 f x4 (x5 + (1 : Int32)) M12
    else
    gs_b2 (f_X12_coupleOf M12 x3 ((1 : Int32) - v6) v4) fun v15 M16 =>
    gs_b2 (f_X12_coupleOf M16 x3 v6 v4) fun v18 M19 =>
    if v15 ≤ v18 then
    if x4 = x2 then
    some (((10 : Int32) * v4) + v6, M19)
    else
    l_X12_rests_32 x1 x2 x3 f (x4 + (1 : Int32)) (x5 + (1 : Int32)) M19
    else
    l_X12_rests_32 x1 x2 x3 f x4 (x5 + (1 : Int32)) M19
def f_X12_rests (M : gs_M) (x1 : Int32) (x2 : Int32) : Option (Int32 × gs_M) :=
  gs_b1 (some (gs_up M 147 0 (0 : Int32))) fun M2 =>
  gs_b1 (f_X12_isCouple M2 x1) fun v3 =>
  if v3 = (0 : Int32) then
  some ((-1 : Int32), M2)
  else
  if (-1 : Int32) ≤ x2 then
  gs_b1 (f_X12_married M2 x1) fun v7 =>
  l_X12_rests_32 x1 x2 v7 gs_FU (0 : Int32) (0 : Int32) M2
  else
  some ((-1 : Int32), M2)
def f_X12_rule (M : gs_M) (x1 : Int32) : Option (Int32 × gs_M) :=
  gs_b1 (some (gs_up M 147 0 (0 : Int32))) fun M2 =>
  gs_b1 (if (M2 147 24) ≤ (0 : Int32) then
  some ((-1 : Int32))
  else
  gs_b1 (f_X12_isIn (Int32.toInt64 x1) (0 : Int64) (2 : Int64)) fun v7 =>
  if v7 = (0 : Int32) then
  some ((-1 : Int32))
  else
  gs_b1 (gs_rd M2 152 3 x1) fun v10 =>
  some (v10)) fun y3 =>
  some (y3, M2)
def f_X12_isWatch (M : gs_M) (x1 : Int32) : Option (Int32) :=
  gs_b1 (gs_ckZ (if x1 < (0 : Int32) then (0 : Int32) else if (M 147 26) ≤ x1 then (0 : Int32) else (1 : Int32) : Int32)) fun z1 =>
  some z1
def l_X12_seem_75 (x1 : Int32) (x2 : Int32) (x3 : Int32) (x4 : Int32) (x5 : Int32) : Nat → Int32 → Int32 → gs_M → Option (Int32 × Int32 × gs_M)
  | 0, _, _, _ => none
  | f + 1, x6, x7, M =>
    gs_b1 (gs_rd M 152 3 (0 : Int32)) fun v1 =>
    if v1 ≤ x7 then
    some (x6, x7, M)
    else
    gs_b1 (f_X12_watchedBy M x2 x7) fun v4 =>
    gs_b2 (if v4 = x1 then
    gs_b1 (f_X12_of M x1 (2 : Int32)) fun v11 =>
    gs_b2 (f_X12_pointsBy M (M 147 29) x1 v11 x7 ((x5 >>> (x7 &&& 31)) &&& (1 : Int32))) fun v13 M14 =>
    some (x6 + v13, M14)
    else
    some (x6, M)) fun y6 M7 =>
    l_X12_seem_75 x1 x2 x3 x4 x5 f y6 (x7 + (1 : Int32)) M7
def l_X12_seem_35 (x1 : Int32) (x2 : Int32) (x4 : Int32) : Nat → Int32 → Int32 → gs_M → Option (Int32 × Int32 × gs_M)
  | 0, _, _, _ => none
  | f + 1, x3, x5, M =>
    gs_b1 (gs_rd M 152 3 (0 : Int32)) fun v1 =>
    if ((1 : Int32) <<< (v1 &&& 31)) ≤ x5 then
    some (x3, x5, M)
    else
    gs_b2 (if x3 = (-1 : Int32) then
    gs_b3 (l_X12_seem_75 x1 x2 x3 x4 x5 gs_FU x4 (0 : Int32) M) fun y9 y10 M11 =>
    gs_b1 (gs_rd M11 152 3 (1 : Int32)) fun v13 =>
    if v13 ≤ y9 then
    some (x3, M11)
    else
    some (x5, M11)
    else
    gs_b1 (f_J6_bitCount_0f7a4 x5) fun v16 =>
    gs_b1 (f_J6_bitCount_0f7a4 x3) fun v18 =>
    if v16 < v18 then
    gs_b3 (l_X12_seem_75 x1 x2 x3 x4 x5 gs_FU x4 (0 : Int32) M) fun y21 y22 M23 =>
    gs_b1 (gs_rd M23 152 3 (1 : Int32)) fun v25 =>
    if v25 ≤ y21 then
    some (x3, M23)
    else
    some (x5, M23)
    else
    some (x3, M)) fun y4 M5 =>
    l_X12_seem_35 x1 x2 x4 f y4 (x5 + (1 : Int32)) M5
def f_X12_seem (M : gs_M) (x1 : Int32) (x2 : Int32) : Option (Int32 × gs_M) :=
  gs_b1 (some (gs_up M 147 0 (0 : Int32))) fun M2 =>
  gs_b1 (f_X12_isPerson M2 x1) fun v3 =>
  if v3 = (0 : Int32) then
  some ((-1 : Int32), M2)
  else
  gs_b1 (f_X12_isWatch M2 x2) fun v6 =>
  if v6 = (0 : Int32) then
  some ((-1 : Int32), M2)
  else
  gs_b2 (f_X12_caseOf M2 x1) fun v9 M10 =>
  gs_b3 (l_X12_seem_35 x1 x2 v9 gs_FU (-1 : Int32) (0 : Int32) M10) fun y12 y13 M14 =>
  some (y12, M14)
def f_X12_sleeps (M : gs_M) (x1 : Int32) : Option (Int32 × gs_M) :=
  gs_b1 (some (gs_up M 147 0 (0 : Int32))) fun M2 =>
  gs_b1 (f_X12_isPerson M2 x1) fun v3 =>
  gs_b2 (if v3 = (0 : Int32) then
  some ((-1 : Int32), M2)
  else
  gs_b2 (f_X12_sleepsOf M2 x1) fun v10 M11 =>
  some (v10, M11)) fun y5 M6 =>
  some (y5, M6)
def l_X12_tells_33 (x1 : Int32) (x2 : Int32) : Nat → Int32 → Int32 → Int32 → gs_M → Option (Int32 × Int32 × Int32 × gs_M)
  | 0, _, _, _, _ => none
  | f + 1, x3, x4, x5, M =>
    gs_b1 (gs_rd M 152 3 (0 : Int32)) fun v1 =>
    if v1 ≤ x5 then
    some (x3, x4, x5, M)
    else
    gs_b2 (f_X12_wakesNow M x1 x5) fun v4 M5 =>
    gs_b2 (f_X12_wakesBy M5 (0 : Int32) x1 x5) fun v7 M8 =>
    l_X12_tells_33 x1 x2 f (if x4 < (if 0 ≤ (v4 - v7) then (v4 - v7) else 0 - (v4 - v7) : Int32) then x5 else x3 : Int32) (if x4 < (if 0 ≤ (v4 - v7) then (v4 - v7) else 0 - (v4 - v7) : Int32) then (if 0 ≤ (v4 - v7) then (v4 - v7) else 0 - (v4 - v7) : Int32) else x4 : Int32) (x5 + (1 : Int32)) M8
def f_X12_tells (M : gs_M) (x1 : Int32) (x2 : Int32) : Option (Int32 × gs_M) :=
  gs_b1 (some (gs_up M 147 0 (0 : Int32))) fun M2 =>
  gs_b1 (f_X12_isPerson M2 x1) fun v3 =>
  if v3 = (0 : Int32) then
  some ((-1 : Int32), M2)
  else
  gs_b1 (f_X12_isIn (Int32.toInt64 x2) (0 : Int64) (1 : Int64)) fun v6 =>
  if v6 = (0 : Int32) then
  some ((-1 : Int32), M2)
  else
  gs_b4 (l_X12_tells_33 x1 x2 gs_FU (0 : Int32) (-1 : Int32) (0 : Int32) M2) fun y9 y10 y11 M12 =>
  some ((if x2 = (0 : Int32) then y9 else y10 : Int32), M12)
def l_X12_text_214 (x1 : Int32) (x2 : Int32) : Nat → Int32 → gs_M → Option (Int32 × gs_M)
  | 0, _, _ => none
  | f + 1, x3, M =>
    if (3 : Int32) ≤ x3 then
    some (x3, M)
    else
    gs_b1 (gs_rd M 153 3 x3) fun v2 =>
    gs_b1 (gs_wr M 152 3 x3 v2) fun M5 =>
    l_X12_text_214 x1 x2 f (x3 + (1 : Int32)) M5
def l_X12_text_239 (x1 : Int32) (x2 : Int32) : Nat → Int32 → gs_M → Option (Int32 × gs_M)
  | 0, _, _ => none
  | f + 1, x3, M =>
    if (40 : Int32) ≤ x3 then
    some (x3, M)
    else
    gs_b1 (gs_rd M 155 40 x3) fun v2 =>
    gs_b1 (gs_wr M 154 40 x3 v2) fun M5 =>
    l_X12_text_239 x1 x2 f (x3 + (1 : Int32)) M5
def l_X12_text_265 (x1 : Int32) (x2 : Int32) : Nat → Int32 → gs_M → Option (Int32 × gs_M)
  | 0, _, _ => none
  | f + 1, x3, M =>
    if (533 : Int32) ≤ x3 then
    some (x3, M)
    else
    gs_b1 (gs_wr M 158 533 x3 (0 : Int32)) fun M3 =>
    l_X12_text_265 x1 x2 f (x3 + (1 : Int32)) M3
def l_X12_text_287 (x1 : Int32) (x2 : Int32) : Nat → Int32 → gs_M → Option (Int32 × gs_M)
  | 0, _, _ => none
  | f + 1, x3, M =>
    if (M 147 24) ≤ x3 then
    some (x3, M)
    else
    gs_b1 (gs_rd M 154 40 ((5 : Int32) * x3)) fun v2 =>
    gs_b1 (gs_wr M 158 533 (((6 : Int32) * x3) + (0 : Int32)) v2) fun M5 =>
    gs_b1 (gs_rd M5 154 40 (((5 : Int32) * x3) + (2 : Int32))) fun v6 =>
    gs_b1 (gs_wr M5 158 533 (((6 : Int32) * x3) + (1 : Int32)) v6) fun M9 =>
    gs_b1 (gs_rd M9 154 40 (((5 : Int32) * x3) + (3 : Int32))) fun v10 =>
    gs_b1 (gs_wr M9 158 533 (((6 : Int32) * x3) + (2 : Int32)) v10) fun M13 =>
    l_X12_text_287 x1 x2 f (x3 + (1 : Int32)) M13
def l_X12_text_137 (x1 : Int32) (x2 : Int32) : Nat → Int32 → gs_M → Option (Int32 × gs_M)
  | 0, _, _ => none
  | f + 1, x3, M =>
    if (9 : Int32) ≤ x3 then
    some (x3, M)
    else
    gs_b1 (gs_rd M 156 45 ((36 : Int32) + x3)) fun v2 =>
    gs_b1 (gs_wr M 156 45 (((9 : Int32) * (M 147 26)) + x3) v2) fun M5 =>
    l_X12_text_137 x1 x2 f (x3 + (1 : Int32)) M5
def l_X12_text_71 (x1 : Int32) (x2 : Int32) : Nat → Int32 → gs_M → Option (Int32 × gs_M)
  | 0, _, _ => none
  | f + 1, x3, M =>
    if x2 ≤ x3 then
    some (x3, M)
    else
    gs_b1 (gs_rd M 148 240 x3) fun v2 =>
    gs_b1 (gs_wr M 149 960 (((240 : Int32) * (M 147 7)) + x3) (vp_nar .byte v2)) fun M5 =>
    l_X12_text_71 x1 x2 f (x3 + (1 : Int32)) M5
def f_X12_text (M : gs_M) (x1 : Int32) : Option (Int32 × gs_M) :=
  gs_b1 (some (gs_up M 147 0 (0 : Int32))) fun M2 =>
  gs_b1 (f_X12_isIn (Int32.toInt64 x1) (0 : Int64) (2 : Int64)) fun v3 =>
  if v3 = (0 : Int32) then
  some ((-1 : Int32), M2)
  else
  if x1 = (1 : Int32) then
  if (M2 147 7) = (4 : Int32) then
  some ((-1 : Int32), M2)
  else
  if x1 = (2 : Int32) then
  if (M2 147 26) = (4 : Int32) then
  some ((-1 : Int32), M2)
  else
  gs_b2 (f_X12_fault M2 x1) fun v144 M145 =>
  if v144 = (-1 : Int32) then
  gs_b1 (some (gs_up M145 147 6 (0 : Int32))) fun M149 =>
  if x1 = (1 : Int32) then
  gs_b2 (l_X12_text_71 x1 (M145 147 6) gs_FU (0 : Int32) M149) fun y181 M182 =>
  gs_b1 (gs_wr M182 150 4 (M182 147 7) (M145 147 6)) fun M185 =>
  gs_b1 (some (gs_up M185 147 7 ((M185 147 7) + (1 : Int32)))) fun M187 =>
  some ((M187 147 7) - (1 : Int32), M187)
  else
  if x1 = (2 : Int32) then
  gs_b2 (l_X12_text_137 x1 (M145 147 6) gs_FU (0 : Int32) M149) fun y172 M173 =>
  gs_b1 (gs_rd M173 157 5 (4 : Int32)) fun v175 =>
  gs_b1 (gs_wr M173 157 5 (M173 147 26) v175) fun M178 =>
  gs_b1 (some (gs_up M178 147 26 ((M178 147 26) + (1 : Int32)))) fun M180 =>
  some ((M180 147 26) - (1 : Int32), M180)
  else
  gs_b1 (some (gs_up M149 147 24 (M149 147 25))) fun M153 =>
  gs_b2 (l_X12_text_214 x1 (M145 147 6) gs_FU (0 : Int32) M153) fun y154 M155 =>
  gs_b2 (l_X12_text_239 x1 (M145 147 6) gs_FU (0 : Int32) M155) fun y157 M158 =>
  gs_b2 (l_X12_text_265 x1 (M145 147 6) gs_FU (0 : Int32) M158) fun y160 M161 =>
  gs_b2 (l_X12_text_287 x1 (M145 147 6) gs_FU (0 : Int32) M161) fun y163 M164 =>
  gs_b1 (some (gs_up M164 147 40 (0 : Int32))) fun M167 =>
  gs_b1 (some (gs_up M167 147 35 (0 : Int32))) fun M169 =>
  gs_b1 (some (gs_up M169 147 46 (0 : Int32))) fun M171 =>
  some (M171 147 24, M171)
  else
  some ((-1 : Int32), M145)
  else
  gs_b2 (f_X12_fault M2 x1) fun v99 M100 =>
  if v99 = (-1 : Int32) then
  gs_b1 (some (gs_up M100 147 6 (0 : Int32))) fun M104 =>
  if x1 = (1 : Int32) then
  gs_b2 (l_X12_text_71 x1 (M100 147 6) gs_FU (0 : Int32) M104) fun y136 M137 =>
  gs_b1 (gs_wr M137 150 4 (M137 147 7) (M100 147 6)) fun M140 =>
  gs_b1 (some (gs_up M140 147 7 ((M140 147 7) + (1 : Int32)))) fun M142 =>
  some ((M142 147 7) - (1 : Int32), M142)
  else
  if x1 = (2 : Int32) then
  gs_b2 (l_X12_text_137 x1 (M100 147 6) gs_FU (0 : Int32) M104) fun y127 M128 =>
  gs_b1 (gs_rd M128 157 5 (4 : Int32)) fun v130 =>
  gs_b1 (gs_wr M128 157 5 (M128 147 26) v130) fun M133 =>
  gs_b1 (some (gs_up M133 147 26 ((M133 147 26) + (1 : Int32)))) fun M135 =>
  some ((M135 147 26) - (1 : Int32), M135)
  else
  gs_b1 (some (gs_up M104 147 24 (M104 147 25))) fun M108 =>
  gs_b2 (l_X12_text_214 x1 (M100 147 6) gs_FU (0 : Int32) M108) fun y109 M110 =>
  gs_b2 (l_X12_text_239 x1 (M100 147 6) gs_FU (0 : Int32) M110) fun y112 M113 =>
  gs_b2 (l_X12_text_265 x1 (M100 147 6) gs_FU (0 : Int32) M113) fun y115 M116 =>
  gs_b2 (l_X12_text_287 x1 (M100 147 6) gs_FU (0 : Int32) M116) fun y118 M119 =>
  gs_b1 (some (gs_up M119 147 40 (0 : Int32))) fun M122 =>
  gs_b1 (some (gs_up M122 147 35 (0 : Int32))) fun M124 =>
  gs_b1 (some (gs_up M124 147 46 (0 : Int32))) fun M126 =>
  some (M126 147 24, M126)
  else
  some ((-1 : Int32), M100)
  else
  if x1 = (2 : Int32) then
  if (M2 147 26) = (4 : Int32) then
  some ((-1 : Int32), M2)
  else
  gs_b2 (f_X12_fault M2 x1) fun v53 M54 =>
  if v53 = (-1 : Int32) then
  gs_b1 (some (gs_up M54 147 6 (0 : Int32))) fun M58 =>
  if x1 = (1 : Int32) then
  gs_b2 (l_X12_text_71 x1 (M54 147 6) gs_FU (0 : Int32) M58) fun y90 M91 =>
  gs_b1 (gs_wr M91 150 4 (M91 147 7) (M54 147 6)) fun M94 =>
  gs_b1 (some (gs_up M94 147 7 ((M94 147 7) + (1 : Int32)))) fun M96 =>
  some ((M96 147 7) - (1 : Int32), M96)
  else
  if x1 = (2 : Int32) then
  gs_b2 (l_X12_text_137 x1 (M54 147 6) gs_FU (0 : Int32) M58) fun y81 M82 =>
  gs_b1 (gs_rd M82 157 5 (4 : Int32)) fun v84 =>
  gs_b1 (gs_wr M82 157 5 (M82 147 26) v84) fun M87 =>
  gs_b1 (some (gs_up M87 147 26 ((M87 147 26) + (1 : Int32)))) fun M89 =>
  some ((M89 147 26) - (1 : Int32), M89)
  else
  gs_b1 (some (gs_up M58 147 24 (M58 147 25))) fun M62 =>
  gs_b2 (l_X12_text_214 x1 (M54 147 6) gs_FU (0 : Int32) M62) fun y63 M64 =>
  gs_b2 (l_X12_text_239 x1 (M54 147 6) gs_FU (0 : Int32) M64) fun y66 M67 =>
  gs_b2 (l_X12_text_265 x1 (M54 147 6) gs_FU (0 : Int32) M67) fun y69 M70 =>
  gs_b2 (l_X12_text_287 x1 (M54 147 6) gs_FU (0 : Int32) M70) fun y72 M73 =>
  gs_b1 (some (gs_up M73 147 40 (0 : Int32))) fun M76 =>
  gs_b1 (some (gs_up M76 147 35 (0 : Int32))) fun M78 =>
  gs_b1 (some (gs_up M78 147 46 (0 : Int32))) fun M80 =>
  some (M80 147 24, M80)
  else
  some ((-1 : Int32), M54)
  else
  gs_b2 (f_X12_fault M2 x1) fun v8 M9 =>
  if v8 = (-1 : Int32) then
  gs_b1 (some (gs_up M9 147 6 (0 : Int32))) fun M13 =>
  if x1 = (1 : Int32) then
  gs_b2 (l_X12_text_71 x1 (M9 147 6) gs_FU (0 : Int32) M13) fun y45 M46 =>
  gs_b1 (gs_wr M46 150 4 (M46 147 7) (M9 147 6)) fun M49 =>
  gs_b1 (some (gs_up M49 147 7 ((M49 147 7) + (1 : Int32)))) fun M51 =>
  some ((M51 147 7) - (1 : Int32), M51)
  else
  if x1 = (2 : Int32) then
  gs_b2 (l_X12_text_137 x1 (M9 147 6) gs_FU (0 : Int32) M13) fun y36 M37 =>
  gs_b1 (gs_rd M37 157 5 (4 : Int32)) fun v39 =>
  gs_b1 (gs_wr M37 157 5 (M37 147 26) v39) fun M42 =>
  gs_b1 (some (gs_up M42 147 26 ((M42 147 26) + (1 : Int32)))) fun M44 =>
  some ((M44 147 26) - (1 : Int32), M44)
  else
  gs_b1 (some (gs_up M13 147 24 (M13 147 25))) fun M17 =>
  gs_b2 (l_X12_text_214 x1 (M9 147 6) gs_FU (0 : Int32) M17) fun y18 M19 =>
  gs_b2 (l_X12_text_239 x1 (M9 147 6) gs_FU (0 : Int32) M19) fun y21 M22 =>
  gs_b2 (l_X12_text_265 x1 (M9 147 6) gs_FU (0 : Int32) M22) fun y24 M25 =>
  gs_b2 (l_X12_text_287 x1 (M9 147 6) gs_FU (0 : Int32) M25) fun y27 M28 =>
  gs_b1 (some (gs_up M28 147 40 (0 : Int32))) fun M31 =>
  gs_b1 (some (gs_up M31 147 35 (0 : Int32))) fun M33 =>
  gs_b1 (some (gs_up M33 147 46 (0 : Int32))) fun M35 =>
  some (M35 147 24, M35)
  else
  some ((-1 : Int32), M9)
def f_X12_thrown (M : gs_M) : Option (Int32) :=
  some (M 147 0)
def l_X12_gainOf_5 (M : gs_M) (x1 : Int32) (x2 : Int32) : Nat → Int32 → Int32 → Option (Int32)
  | 0, _, _ => none
  | f + 1, x3, x4 =>
    gs_b1 (gs_rd M 152 3 (0 : Int32)) fun v1 =>
    if v1 ≤ x4 then
    some x3
    else
    gs_b1 (f_X12_has x2 x4) fun v4 =>
    if v4 = (0 : Int32) then
    l_X12_gainOf_5 M x1 x2 f x3 (x4 + (1 : Int32))
    else
    gs_b1 (gs_rd M 168 9 x4) fun v7 =>
    if v7 = (-1 : Int32) then
    gs_b1 (gs_rd M 167 72 (((9 : Int32) * x1) + x4)) fun v10 =>
    l_X12_gainOf_5 M x1 x2 f (x3 + v10) (x4 + (1 : Int32))
    else
    gs_b1 (gs_rd M 168 9 x4) fun v12 =>
    if v12 = x1 then
    gs_b1 (gs_rd M 167 72 (((9 : Int32) * x1) + x4)) fun v15 =>
    l_X12_gainOf_5 M x1 x2 f (x3 + v15) (x4 + (1 : Int32))
    else
    some (-1000000 : Int32)
def f_X12_gainOf (M : gs_M) (x1 : Int32) (x2 : Int32) : Option (Int32) :=
  l_X12_gainOf_5 M x1 x2 gs_FU (0 : Int32) (0 : Int32)
def l_X12_mostBy_13 (x1 : Int32) (x2 : Int32) : Nat → Int32 → gs_M → Option (Int32 × gs_M)
  | 0, _, _ => none
  | f + 1, x3, M =>
    if x2 < x3 then
    some (x3, M)
    else
    gs_b1 (gs_wr M 165 512 x3 (if x3 = (0 : Int32) then (0 : Int32) else (-1000000 : Int32) : Int32)) fun M3 =>
    l_X12_mostBy_13 x1 x2 f (x3 + (1 : Int32)) M3
def l_X12_mostBy_67 (x1 : Int32) (x2 : Int32) (x3 : Int32) : Nat → Int32 → gs_M → Option (Int32 × gs_M)
  | 0, _, _ => none
  | f + 1, x4, M =>
    if x2 < x4 then
    some (x4, M)
    else
    gs_b1 (gs_wr M 166 512 x4 (-1000000 : Int32)) fun M3 =>
    l_X12_mostBy_67 x1 x2 x3 f (x4 + (1 : Int32)) M3
def l_X12_mostBy_122 (x1 : Int32) (x2 : Int32) (x3 : Int32) (x4 : Int32) (x5 : Int32) : Nat → Int32 → gs_M → Option (Int32 × gs_M)
  | 0, _, _ => none
  | f + 1, x6, M =>
    if x2 < x6 then
    some (x6, M)
    else
    if x5 < (0 : Int32) then
    some (x6, M)
    else
    gs_b1 (if (x6 &&& x4) = (0 : Int32) then
    gs_b1 (gs_rd M 165 512 x6) fun v7 =>
    if v7 < (0 : Int32) then
    some (M)
    else
    gs_b1 (gs_rd M 166 512 (x6 ||| x4)) fun v10 =>
    gs_b1 (gs_rd M 165 512 x6) fun v12 =>
    gs_b1 (gs_wr M 166 512 (x6 ||| x4) (if v10 < (v12 + x5) then (v12 + x5) else v10 : Int32)) fun M15 =>
    some (M15)
    else
    some (M)) fun M3 =>
    l_X12_mostBy_122 x1 x2 x3 x4 x5 f (x6 + (1 : Int32)) M3
def l_X12_mostBy_92 (x1 : Int32) (x2 : Int32) (x3 : Int32) : Nat → Int32 → gs_M → Option (Int32 × gs_M)
  | 0, _, _ => none
  | f + 1, x4, M =>
    if x2 < x4 then
    some (x4, M)
    else
    gs_b1 (f_J6_bitCount_0f7a4 x4) fun v2 =>
    gs_b1 (if v2 ≤ x1 then
    gs_b1 (f_X12_gainOf M x3 x4) fun v8 =>
    gs_b2 (l_X12_mostBy_122 x1 x2 x3 x4 v8 gs_FU (0 : Int32) M) fun y10 M11 =>
    some (M11)
    else
    some (M)) fun M4 =>
    l_X12_mostBy_92 x1 x2 x3 f (x4 + (1 : Int32)) M4
def l_X12_mostBy_199 (x1 : Int32) (x2 : Int32) (x3 : Int32) : Nat → Int32 → gs_M → Option (Int32 × gs_M)
  | 0, _, _ => none
  | f + 1, x4, M =>
    if x2 < x4 then
    some (x4, M)
    else
    gs_b1 (gs_rd M 166 512 x4) fun v2 =>
    gs_b1 (gs_wr M 165 512 x4 v2) fun M5 =>
    l_X12_mostBy_199 x1 x2 x3 f (x4 + (1 : Int32)) M5
def l_X12_mostBy_43 (x1 : Int32) (x2 : Int32) : Nat → Int32 → gs_M → Option (Int32 × gs_M)
  | 0, _, _ => none
  | f + 1, x3, M =>
    if (M 147 24) ≤ x3 then
    some (x3, M)
    else
    gs_b1 (f_X12_of M x3 (5 : Int32)) fun v2 =>
    gs_b1 (if v2 = (1 : Int32) then
    some (M)
    else
    gs_b2 (l_X12_mostBy_67 x1 x2 x3 gs_FU (0 : Int32) M) fun y8 M9 =>
    gs_b2 (l_X12_mostBy_92 x1 x2 x3 gs_FU (0 : Int32) M9) fun y11 M12 =>
    gs_b2 (l_X12_mostBy_199 x1 x2 x3 gs_FU (0 : Int32) M12) fun y14 M15 =>
    some (M15)) fun M4 =>
    l_X12_mostBy_43 x1 x2 f (x3 + (1 : Int32)) M4
def f_X12_mostBy (M : gs_M) (x1 : Int32) : Option (Int32 × gs_M) :=
  gs_b1 (gs_rd M 152 3 (0 : Int32)) fun v1 =>
  gs_b2 (l_X12_mostBy_13 x1 (((1 : Int32) <<< (v1 &&& 31)) - (1 : Int32)) gs_FU (0 : Int32) M) fun y3 M4 =>
  gs_b2 (l_X12_mostBy_43 x1 (((1 : Int32) <<< (v1 &&& 31)) - (1 : Int32)) gs_FU (0 : Int32) M4) fun y6 M7 =>
  gs_b1 (gs_rd M7 165 512 (((1 : Int32) <<< (v1 &&& 31)) - (1 : Int32))) fun v9 =>
  some (v9, M7)
def l_X12_timetable_49 (x1 : Int32) (x2 : Int32) (x3 : Int32) : Nat → Int32 → gs_M → Option (Int32 × gs_M)
  | 0, _, _ => none
  | f + 1, x4, M =>
    gs_b1 (gs_rd M 152 3 (0 : Int32)) fun v1 =>
    if v1 ≤ x4 then
    some (x4, M)
    else
    gs_b2 (f_X12_wakesNow M x3 x4) fun v4 M5 =>
    gs_b1 (gs_wr M5 167 72 (((9 : Int32) * x3) + x4) ((10 : Int32) - v4)) fun M8 =>
    l_X12_timetable_49 x1 x2 x3 f (x4 + (1 : Int32)) M8
def l_X12_timetable_38 (x1 : Int32) (x2 : Int32) : Nat → Int32 → gs_M → Option (Int32 × gs_M)
  | 0, _, _ => none
  | f + 1, x3, M =>
    if (M 147 24) ≤ x3 then
    some (x3, M)
    else
    gs_b2 (l_X12_timetable_49 x1 x2 x3 gs_FU (0 : Int32) M) fun y2 M3 =>
    l_X12_timetable_38 x1 x2 f (x3 + (1 : Int32)) M3
def l_X12_timetable_96 (x1 : Int32) (x2 : Int32) : Nat → Int32 → gs_M → Option (Int32 × gs_M)
  | 0, _, _ => none
  | f + 1, x3, M =>
    if (9 : Int32) ≤ x3 then
    some (x3, M)
    else
    gs_b1 (gs_wr M 168 9 x3 (-1 : Int32)) fun M3 =>
    l_X12_timetable_96 x1 x2 f (x3 + (1 : Int32)) M3
def l_X12_timetable_159 (x1 : Int32) (x2 : Int32) (x3 : Int32) (x4 : Int32) (x5 : Int32) : Nat → gs_M → Option (gs_M)
  | 0, _ => none
  | f + 1, M =>
    gs_b2 (f_X12_mostBy M x1) fun v1 M2 =>
    if v1 = x3 then
    some (M2)
    else
    gs_b1 (gs_rd M2 168 9 x5) fun v5 =>
    gs_b1 (gs_wr M2 168 9 x5 (v5 + (1 : Int32))) fun M8 =>
    l_X12_timetable_159 x1 x2 x3 x4 x5 f M8
def l_X12_timetable_140 (x1 : Int32) (x2 : Int32) (x3 : Int32) : Nat → Int32 → Int32 → gs_M → Option (Int32 × Int32 × gs_M)
  | 0, _, _, _ => none
  | f + 1, x4, x5, M =>
    gs_b1 (gs_rd M 152 3 (0 : Int32)) fun v1 =>
    if v1 ≤ x5 then
    some (x4, x5, M)
    else
    gs_b1 (gs_wr M 168 9 x5 (0 : Int32)) fun M5 =>
    gs_b1 (l_X12_timetable_159 x1 x2 x3 x4 x5 gs_FU M5) fun M6 =>
    gs_b1 (gs_rd M6 168 9 x5) fun v8 =>
    l_X12_timetable_140 x1 x2 x3 f (((10 : Int32) * x4) + v8) (x5 + (1 : Int32)) M6
def f_X12_timetable (M : gs_M) (x1 : Int32) (x2 : Int32) : Option (Int32 × gs_M) :=
  gs_b1 (some (gs_up M 147 0 (0 : Int32))) fun M2 =>
  if (M2 147 24) = (0 : Int32) then
  some ((-1 : Int32), M2)
  else
  gs_b1 (f_X12_isIn (Int32.toInt64 x1) (1 : Int64) (2 : Int64)) fun v4 =>
  if v4 = (0 : Int32) then
  some ((-1 : Int32), M2)
  else
  gs_b1 (f_X12_isIn (Int32.toInt64 x2) (0 : Int64) (1 : Int64)) fun v7 =>
  if v7 = (0 : Int32) then
  some ((-1 : Int32), M2)
  else
  gs_b2 (l_X12_timetable_38 x1 x2 gs_FU (0 : Int32) M2) fun y10 M11 =>
  gs_b2 (l_X12_timetable_96 x1 x2 gs_FU (0 : Int32) M11) fun y13 M14 =>
  gs_b2 (f_X12_mostBy M14 x1) fun v16 M17 =>
  if (0 : Int32) ≤ v16 then
  if x2 = (1 : Int32) then
  some (v16, M17)
  else
  gs_b3 (l_X12_timetable_140 x1 x2 v16 gs_FU (0 : Int32) (0 : Int32) M17) fun y21 y22 M23 =>
  some (y21, M23)
  else
  some ((-1 : Int32), M17)
def l_X12_undo_26  : Nat → Int32 → gs_M → Option (Int32 × gs_M)
  | 0, _, _ => none
  | f + 1, x1, M =>
    if (533 : Int32) ≤ x1 then
    some (x1, M)
    else
    gs_b1 (gs_rd M 160 21320 (((533 : Int32) * (M 147 35)) + x1)) fun v2 =>
    gs_b1 (gs_wr M 158 533 x1 v2) fun M5 =>
    l_X12_undo_26  f (x1 + (1 : Int32)) M5
def f_X12_undo (M : gs_M) : Option (Int32 × gs_M) :=
  gs_b1 (some (gs_up M 147 0 (0 : Int32))) fun M2 =>
  if (M2 147 35) = (0 : Int32) then
  some ((-1 : Int32), M2)
  else
  gs_b1 (some (gs_up M2 147 35 ((M2 147 35) - (1 : Int32)))) fun M5 =>
  gs_b2 (l_X12_undo_26 gs_FU (0 : Int32) M5) fun y6 M7 =>
  some (M7 147 35, M7)
def f_X12_wakes (M : gs_M) (x1 : Int32) (x2 : Int32) : Option (Int32 × gs_M) :=
  gs_b1 (some (gs_up M 147 0 (0 : Int32))) fun M2 =>
  gs_b1 (f_X12_isPerson M2 x1) fun v3 =>
  gs_b2 (if v3 = (0 : Int32) then
  some ((-1 : Int32), M2)
  else
  gs_b1 (f_X12_isHour M2 x2) fun v10 =>
  if v10 = (0 : Int32) then
  some ((-1 : Int32), M2)
  else
  gs_b2 (f_X12_wakesNow M2 x1 x2) fun v13 M14 =>
  some (v13, M14)) fun y5 M6 =>
  some (y5, M6)
def f_X12_watch (M : gs_M) (x1 : Int32) : Option (Int32 × gs_M) :=
  gs_b1 (some (gs_up M 147 0 (0 : Int32))) fun M2 =>
  if x1 = (-1 : Int32) then
  gs_b1 (some (gs_up M2 147 30 x1)) fun M5 =>
  some ((1 : Int32), M5)
  else
  gs_b1 (f_X12_isIn (Int32.toInt64 x1) (0 : Int64) (Int32.toInt64 ((M2 147 26) - (1 : Int32)))) fun v6 =>
  if v6 = (0 : Int32) then
  some ((0 : Int32), M2)
  else
  gs_b1 (some (gs_up M2 147 30 x1)) fun M10 =>
  some ((1 : Int32), M10)
def f_X12_watched (M : gs_M) (x1 : Int32) (x2 : Int32) : Option (Int32 × gs_M) :=
  gs_b1 (some (gs_up M 147 0 (0 : Int32))) fun M2 =>
  gs_b1 (f_X12_isWatch M2 x1) fun v3 =>
  gs_b1 (if v3 = (0 : Int32) then
  some ((-1000000 : Int32))
  else
  gs_b1 (f_X12_isIn (Int32.toInt64 x2) (0 : Int64) (8 : Int64)) fun v9 =>
  if v9 = (0 : Int32) then
  some ((-1000000 : Int32))
  else
  gs_b1 (f_X12_watchedBy M2 x1 x2) fun v12 =>
  some (v12)) fun y5 =>
  some (y5, M2)
def l_X12_held_5 (x1 : Int32) (x2 : Int32) : Nat → Int64 → Int32 → gs_M → Option (Int64 × Int32 × gs_M)
  | 0, _, _, _ => none
  | f + 1, x3, x5, M =>
    if (M 147 40) ≤ x5 then
    some (x3, x5, M)
    else
    gs_b1 (gs_rd M 162 12 x5) fun v2 =>
    gs_b1 (gs_rd M 162 12 x5) fun v4 =>
    gs_b1 (gs_rd M 163 12 x5) fun v6 =>
    gs_b2 (f_X12_wakesBy M (if v2 = x1 then x2 else (0 : Int32) : Int32) v4 v6) fun v8 M9 =>
    gs_b1 (gs_rd M9 164 12 x5) fun v11 =>
    l_X12_held_5 x1 x2 f (x3 * (if v11 = (0 : Int32) then (Int32.toInt64 ((10 : Int32) - v8)) else (Int32.toInt64 v8) : Int64)) (x5 + (1 : Int32)) M9
def f_X12_held (M : gs_M) (x1 : Int32) (x2 : Int32) : Option (Int64 × gs_M) :=
  gs_b3 (l_X12_held_5 x1 x2 gs_FU (1 : Int64) (0 : Int32) M) fun y1 y2 M3 =>
  some (y1, M3)
def l_X12_whoBy_4 (x1 : Int32) : Nat → Int32 → Int32 → gs_M → Option (Int32 × Int32 × gs_M)
  | 0, _, _, _ => none
  | f + 1, x2, x3, M =>
    if (M 147 24) ≤ x3 then
    some (x2, x3, M)
    else
    gs_b2 (f_X12_held M x3 x1) fun v2 M3 =>
    gs_b2 (f_X12_held M3 x2 x1) fun v5 M6 =>
    l_X12_whoBy_4 x1 f (if (lg_cmp v2 v5) ≤ (0 : Int32) then x2 else x3 : Int32) (x3 + (1 : Int32)) M6
def f_X12_whoBy (M : gs_M) (x1 : Int32) : Option (Int32 × gs_M) :=
  gs_b3 (l_X12_whoBy_4 x1 gs_FU (0 : Int32) (1 : Int32) M) fun y1 y2 M3 =>
  some (y1, M3)
def l_X12_askBy_4 (x1 : Int32) : Nat → Int32 → Int32 → gs_M → Option (Int32 × Int32 × gs_M)
  | 0, _, _, _ => none
  | f + 1, x2, x3, M =>
    if (M 147 24) ≤ x3 then
    some (x2, x3, M)
    else
    gs_b2 (f_X12_held M x3 x1) fun v2 M3 =>
    l_X12_askBy_4 x1 f (x2 ||| (if (lg_cmp v2 (0 : Int64)) ≤ (0 : Int32) then (0 : Int32) else ((1 : Int32) <<< (x3 &&& 31)) : Int32)) (x3 + (1 : Int32)) M3
def l_X12_askBy_82 (x1 : Int32) (x2 : Int32) (x3 : Int32) (x4 : Int32) (x5 : Int32) (x6 : Int32) : Nat → Int32 → Int32 → gs_M → Option (Int32 × Int32 × gs_M)
  | 0, _, _, _ => none
  | f + 1, x7, x8, M =>
    if (M 147 24) ≤ x8 then
    some (x7, x8, M)
    else
    gs_b1 (f_X12_has x2 x8) fun v2 =>
    gs_b2 (if v2 = (0 : Int32) then
    some (x7, M)
    else
    gs_b2 (f_X12_wakesBy M (if x8 = x5 then x1 else (0 : Int32) : Int32) x5 x6) fun v9 M10 =>
    some (x7 + (if v9 < (5 : Int32) then (-1 : Int32) else (1 : Int32) : Int32), M10)) fun y4 M5 =>
    l_X12_askBy_82 x1 x2 x3 x4 x5 x6 f y4 (x8 + (1 : Int32)) M5
def l_X12_askBy_65 (x1 : Int32) (x2 : Int32) (x5 : Int32) : Nat → Int32 → Int32 → Int32 → gs_M → Option (Int32 × Int32 × Int32 × gs_M)
  | 0, _, _, _, _ => none
  | f + 1, x3, x4, x6, M =>
    gs_b1 (gs_rd M 152 3 (0 : Int32)) fun v1 =>
    if v1 ≤ x6 then
    some (x3, x4, x6, M)
    else
    gs_b3 (l_X12_askBy_82 x1 x2 x3 x4 x5 x6 gs_FU (0 : Int32) (0 : Int32) M) fun y4 y5 M6 =>
    l_X12_askBy_65 x1 x2 x5 f (if x3 = (-1 : Int32) then (((10 : Int32) * x5) + x6) else if (if 0 ≤ y4 then y4 else 0 - y4 : Int32) < x4 then (((10 : Int32) * x5) + x6) else x3 : Int32) (if x3 = (-1 : Int32) then (if 0 ≤ y4 then y4 else 0 - y4 : Int32) else if (if 0 ≤ y4 then y4 else 0 - y4 : Int32) < x4 then (if 0 ≤ y4 then y4 else 0 - y4 : Int32) else x4 : Int32) (x6 + (1 : Int32)) M6
def l_X12_askBy_53 (x1 : Int32) (x2 : Int32) : Nat → Int32 → Int32 → Int32 → gs_M → Option (Int32 × Int32 × Int32 × gs_M)
  | 0, _, _, _, _ => none
  | f + 1, x3, x4, x5, M =>
    if (M 147 24) ≤ x5 then
    some (x3, x4, x5, M)
    else
    gs_b4 (l_X12_askBy_65 x1 x2 x5 gs_FU x3 x4 (0 : Int32) M) fun y2 y3 y4 M5 =>
    l_X12_askBy_53 x1 x2 f y2 y3 (x5 + (1 : Int32)) M5
def f_X12_askBy (M : gs_M) (x1 : Int32) : Option (Int32 × gs_M) :=
  gs_b3 (l_X12_askBy_4 x1 gs_FU (0 : Int32) (0 : Int32) M) fun y1 y2 M3 =>
  if y1 = (0 : Int32) then
  some ((-1 : Int32), M3)
  else
  gs_b4 (l_X12_askBy_53 x1 y1 gs_FU (-1 : Int32) (0 : Int32) (0 : Int32) M3) fun y6 y7 y8 M9 =>
  some (y6, M9)
def l_X12_who_67 (x1 : Int32) (x2 : Int32) (x3 : Int32) : Nat → Int64 → Int32 → gs_M → Option (Int64 × Int32 × gs_M)
  | 0, _, _, _ => none
  | f + 1, x4, x6, M =>
    if (M 147 24) ≤ x6 then
    some (x4, x6, M)
    else
    gs_b2 (f_X12_held M x6 x1) fun v2 M3 =>
    l_X12_who_67 x1 x2 x3 f (x4 + v2) (x6 + (1 : Int32)) M3
def f_X12_who (M : gs_M) (x1 : Int32) (x2 : Int32) : Option (Int32 × gs_M) :=
  gs_b1 (some (gs_up M 147 0 (0 : Int32))) fun M2 =>
  if (M2 147 24) = (0 : Int32) then
  some ((-1 : Int32), M2)
  else
  gs_b1 (f_X12_isIn (Int32.toInt64 x1) (1 : Int64) (9 : Int64)) fun v4 =>
  if v4 = (0 : Int32) then
  some ((-1 : Int32), M2)
  else
  gs_b1 (f_X12_isIn (Int32.toInt64 x2) (0 : Int64) (2 : Int64)) fun v7 =>
  if v7 = (0 : Int32) then
  some ((-1 : Int32), M2)
  else
  if x2 = (2 : Int32) then
  gs_b2 (f_X12_askBy M2 x1) fun v29 M30 =>
  some (v29, M30)
  else
  gs_b2 (f_X12_whoBy M2 x1) fun v11 M12 =>
  if x2 = (0 : Int32) then
  some (v11, M12)
  else
  gs_b3 (l_X12_who_67 x1 x2 v11 gs_FU (0 : Int64) (0 : Int32) M12) fun y15 y16 M17 =>
  gs_b2 (if (lg_cmp y15 (0 : Int64)) = (0 : Int32) then
  some ((0 : Int32), M17)
  else
  gs_b2 (f_X12_held M17 v11 x1) fun v24 M25 =>
  gs_b1 (gs_dvl ((1000 : Int64) * v24) y15) fun v27 =>
  some (Int64.toInt32 v27, M25)) fun y19 M20 =>
  some (y19, M20)
def f_X12_worry (M : gs_M) (x1 : Int32) (x2 : Int32) : Option (Int32 × gs_M) :=
  gs_b1 (some (gs_up M 147 0 (0 : Int32))) fun M2 =>
  gs_b1 (f_X12_isPerson M2 x1) fun v3 =>
  if v3 = (0 : Int32) then
  some ((-1 : Int32), M2)
  else
  gs_b1 (f_X12_isIn (Int32.toInt64 x2) (0 : Int64) (9 : Int64)) fun v6 =>
  if v6 = (0 : Int32) then
  some ((-1 : Int32), M2)
  else
  gs_b1 (f_X12_of M2 x1 (1 : Int32)) fun v9 =>
  if v9 = x2 then
  some ((-1 : Int32), M2)
  else
  gs_b1 (f_X12_remember M2) fun M12 =>
  gs_b1 (f_X12_of M12 x1 (1 : Int32)) fun v14 =>
  gs_b1 (gs_wr M12 158 533 (((6 : Int32) * x1) + (1 : Int32)) x2) fun M17 =>
  some (v14, M17)
def f_X12_wronged (M : gs_M) (x1 : Int32) : Option (Int32 × gs_M) :=
  gs_b1 (some (gs_up M 147 0 (0 : Int32))) fun M2 =>
  gs_b2 (if (M2 147 24) ≤ (0 : Int32) then
  some ((-1 : Int32), M2)
  else
  gs_b1 (f_X12_isIn (Int32.toInt64 x1) (-1 : Int64) (Int32.toInt64 ((M2 147 7) - (1 : Int32)))) fun v8 =>
  if v8 = (0 : Int32) then
  some ((-1 : Int32), M2)
  else
  gs_b2 (f_X12_wrongBy M2 x1) fun v11 M12 =>
  some (v11, M12)) fun y3 M4 =>
  some (y3, M4)
def l_X12_years_49 (x1 : Int32) (x2 : Int64) : Nat → Int32 → gs_M → gs_L → Option (Int32 × gs_M × gs_L)
  | 0, _, _, _ => none
  | f + 1, x4, M, L =>
    if x1 ≤ x4 then
    some (x4, M, L)
    else
    gs_b1 (f_X12_remember M) fun M2 =>
    gs_b2 (f_X12_draw L (M2 147 24)) fun v4 L5 =>
    gs_b2 (f_X12_draw L5 (10 : Int32)) fun v7 L8 =>
    gs_b1 (gs_wr M2 158 533 (((6 : Int32) * v4) + (1 : Int32)) v7) fun M11 =>
    gs_b2 (f_X12_draw L8 (10 : Int32)) fun v12 L13 =>
    gs_b2 (if (M11 147 31) ≤ v12 then
    some (M11, L13)
    else
    gs_b2 (f_X12_draw L13 (M11 147 24)) fun v20 L21 =>
    gs_b1 (f_X12_of M11 v20 (0 : Int32)) fun v23 =>
    gs_b1 (gs_wr M11 158 533 (((6 : Int32) * v20) + (0 : Int32)) (if (v23 + (3 : Int32)) < (9 : Int32) then (v23 + (3 : Int32)) else (9 : Int32) : Int32)) fun M26 =>
    some (M26, L21)) fun M15 L16 =>
    gs_b2 (f_X12_goNight M15 L16) fun M27 L28 =>
    l_X12_years_49 x1 x2 f (x4 + (1 : Int32)) M27 L28
def f_X12_years (M : gs_M) (L : gs_L) (x1 : Int32) (x2 : Int64) : Option (Int32 × gs_M × gs_L) :=
  gs_b1 (some (gs_up M 147 0 (0 : Int32))) fun M2 =>
  if (M2 147 24) = (0 : Int32) then
  some ((-1 : Int32), M2, L)
  else
  gs_b1 (f_X12_isIn (Int32.toInt64 x1) (1 : Int64) (30 : Int64)) fun v4 =>
  if v4 = (0 : Int32) then
  some ((-1 : Int32), M2, L)
  else
  gs_b1 (gs_rd M2 158 533 (48 : Int32)) fun v7 =>
  if (v7 + x1) ≤ (999 : Int32) then
  gs_b1 (some (gs_upl L 147 32 x2)) fun L11 =>
  gs_b3 (l_X12_years_49 x1 x2 gs_FU (0 : Int32) M2 L11) fun y12 M13 L14 =>
  gs_b1 (gs_rd M13 158 533 (48 : Int32)) fun v16 =>
  some (v16, M13, L14)
  else
  some ((-1 : Int32), M2, L)
