/-! each method as a function, by program out of its instructions: none where the machine would throw or a loop outlasts its measure -/
def f_X8_isLife (x0 : Int32) : Option (Int32) :=
  if x0 < 1 then
    some 0
  else
    if 50 < x0 then
      some 0
    else
      some 1

def f_X8_zone_18 (σ : zt_St) : Option (Int32 × Int32 × zt_St) :=
  some (1, 0, σ)
def f_X8_zone_51 (σ : zt_St) : Option (Int32 × Int32 × zt_St) :=
  some (2, 0, σ)
def f_X8_zone (σ : zt_St) (x1 : Int32) (x2 : Int32) : Option (Int32 × Int32 × zt_St) :=
  if x1 = 0 then
    f_X8_zone_18 σ
  else
    zt_bd (f_X3_isName x1) fun v2 =>
    if v2 = 0 then
      f_X8_zone_18 σ
    else
      zt_bd (f_X8_isLife x2) fun v5 =>
      if v5 = 0 then
        f_X8_zone_18 σ
      else
        if 6 ≤ (σ 1 1) then
          f_X8_zone_51 σ
        else
          zt_bd (f_X7_isOneAt σ x1) fun v9 =>
          if v9 = 0 then
            zt_bd (f_X7_make σ x1 x2) fun q14 => zt_lt q14.1 fun v12 => zt_lt q14.2 fun σ13 =>
            some (0, v12, σ13)
          else
            f_X8_zone_51 σ

def f_X8_isSort (x0 : Int32) : Option (Int32) :=
  if x0 < 0 then
    some 0
  else
    if 4 < x0 then
      some 0
    else
      some 1

def f_X8_checkPlaceAndSort_14 (σ : zt_St) : Option (Int32 × Int32 × zt_St) :=
  some (1, 0, σ)
def f_X8_checkPlaceAndSort (σ : zt_St) (x0 : Int32) (x1 : Int32) : Option (Int32 × Int32 × zt_St) :=
  zt_bd (f_X3_isPlace x0) fun v1 =>
  if v1 = 0 then
    f_X8_checkPlaceAndSort_14 σ
  else
    zt_bd (f_X8_isSort x1) fun v4 =>
    if v4 = 0 then
      f_X8_checkPlaceAndSort_14 σ
    else
      some (0, 0, σ)

def f_X8_checkRoomToTell (σ : zt_St) : Option (Int32 × Int32 × zt_St) :=
  if (σ 69 5) < 10 then
    some (0, 0, σ)
  else
    some (2, 0, σ)

def f_X8_need_22 (σ : zt_St) (y0 : Int32) (u1 : Int32) (u2 : Int32) : Option (Int32 × Int32 × zt_St) :=
  zt_bd (f_X1_tell σ y0 u1 u2 0 0) fun q8 => zt_lt q8.1 fun v6 => zt_lt q8.2 fun σ7 =>
  some (0, v6, σ7)
def f_X8_need (σ : zt_St) (x1 : Int32) (x2 : Int32) (x3 : Int32) : Option (Int32 × Int32 × zt_St) :=
  zt_bx (f_X8_checkPlaceAndSort σ x1 x2) fun v1 σ2 =>
  zt_bx (f_X8_checkRoomToTell σ2) fun v3 σ4 =>
  if x3 = 0 then
    f_X8_need_22 σ4 1 x1 x2
  else
    f_X8_need_22 σ4 0 x1 x2

def f_X8_isNumberOf_10 (u1 : Int32) : Option (Int32) :=
  zt_bd (f_X3_isName u1) fun v5 =>
  zt_gd (v5 == 0 || v5 == 1) <|
  some v5
def f_X8_isNumberOf_36 (y0 : Int32) (u1 : Int32) : Option (Int32) :=
  if u1 < 0 then
    some 0
  else
    if y0 < u1 then
      some 0
    else
      some 1
def f_X8_isNumberOf (x0 : Int32) (x1 : Int32) : Option (Int32) :=
  if x0 = 1 then
    f_X8_isNumberOf_10 x1
  else
    if x0 = 2 then
      f_X8_isNumberOf_10 x1
    else
      if x0 = 0 then
        f_X8_isNumberOf_36 99 x1
      else
        if x0 = 3 then
          f_X8_isNumberOf_36 5 x1
        else
          f_X8_isNumberOf_36 996 x1

def f_X8_put_21 (σ : zt_St) : Option (Int32 × Int32 × zt_St) :=
  some (1, 0, σ)
def f_X8_put (σ : zt_St) (x1 : Int32) (x2 : Int32) (x3 : Int32) (x4 : Int32) : Option (Int32 × Int32 × zt_St) :=
  zt_bx (f_X8_checkPlaceAndSort σ x1 x2) fun v1 σ2 =>
  zt_bd (f_X8_isNumberOf x2 x3) fun v3 =>
  if v3 = 0 then
    f_X8_put_21 σ2
  else
    zt_bd (f_X8_isLife x4) fun v6 =>
    if v6 = 0 then
      f_X8_put_21 σ2
    else
      zt_bx (f_X8_checkRoomToTell σ2) fun v9 σ10 =>
      zt_bd (f_X1_tell σ10 2 x1 x2 x3 x4) fun q13 => zt_lt q13.1 fun v11 => zt_lt q13.2 fun σ12 =>
      some (0, v11, σ12)

def f_X8_drop (σ : zt_St) (x1 : Int32) (x2 : Int32) : Option (Int32 × Int32 × zt_St) :=
  zt_bx (f_X8_checkPlaceAndSort σ x1 x2) fun v1 σ2 =>
  zt_bx (f_X8_checkRoomToTell σ2) fun v3 σ4 =>
  zt_bd (f_X1_tell σ4 3 x1 x2 0 0) fun q7 => zt_lt q7.1 fun v5 => zt_lt q7.2 fun σ6 =>
  some (0, v5, σ6)

def f_X8_checkZone_15 (σ : zt_St) : Option (Int32 × Int32 × zt_St) :=
  some (3, 0, σ)
def f_X8_checkZone (σ : zt_St) (x1 : Int32) : Option (Int32 × Int32 × zt_St) :=
  if x1 < 0 then
    f_X8_checkZone_15 σ
  else
    if x1 < (σ 1 1) then
      some (0, 0, σ)
    else
      f_X8_checkZone_15 σ

def f_X8_update (σ : zt_St) (x1 : Int32) : Option (Int32 × Int32 × zt_St) :=
  zt_bx (f_X8_checkZone σ x1) fun v1 σ2 =>
  zt_bd (f_X7_at σ2 x1) fun z5 => zt_gd (decide (zt_kd z5 = 5)) <|
  zt_bd (f_X1_doTo σ2 z5) fun q9 => zt_lt q9.1 fun v7 => zt_lt q9.2 fun σ8 =>
  zt_gd (v7 == 0 || v7 == 1) <|
  some (0, v7, σ8)

def f_X8_zoneHas_14 (σ : zt_St) : Option (Int32 × Int32 × zt_St) :=
  some (1, 0, σ)
def f_X8_zoneHas (σ : zt_St) (x1 : Int32) (x2 : Int32) : Option (Int32 × Int32 × zt_St) :=
  zt_bx (f_X8_checkZone σ x1) fun v1 σ2 =>
  if x2 < 0 then
    f_X8_zoneHas_14 σ2
  else
    if x2 ≤ 4 then
      zt_bd (f_X7_at σ2 x1) fun z7 => zt_gd (decide (zt_kd z7 = 5)) <|
      zt_bd (f_X6_detail σ2 z7 x2) fun v9 =>
      some (0, v9, σ2)
    else
      f_X8_zoneHas_14 σ2

def f_X8_record (σ : zt_St) (x1 : Int32) (x2 : Int32) (x3 : Int32) : Option (Int32 × Int32 × zt_St) :=
  zt_bx (f_X8_checkZone σ x1) fun v1 σ2 =>
  zt_bx (f_X8_checkPlaceAndSort σ2 x2 x3) fun v3 σ4 =>
  zt_bd (f_X7_at σ4 x1) fun z7 => zt_gd (decide (zt_kd z7 = 5)) <|
  zt_bd (f_X4_rowOf σ4 (z7 + 1) x2 x3) fun v9 =>
  zt_bd (f_X4_numberAt σ4 (z7 + 1) v9) fun v11 =>
  some (0, v11, σ4)

def f_X8_bringUp (σ : zt_St) (x1 : Int32) : Option (Int32 × Int32 × zt_St) :=
  zt_bx (f_X8_checkZone σ x1) fun v1 σ2 =>
  zt_bd (f_X7_at σ2 x1) fun z5 => zt_gd (decide (zt_kd z5 = 5)) <|
  zt_bd (f_X6_renewCopy σ2 z5) fun q9 => zt_lt q9.1 fun v7 => zt_lt q9.2 fun σ8 =>
  some (0, v7, σ8)

def f_X8_setDead (σ : zt_St) (x1 : Int32) (x2 : Int32) : Option (Int32 × Int32 × zt_St) :=
  zt_bx (f_X8_checkZone σ x1) fun v1 σ2 =>
  zt_bd (f_X7_at σ2 x1) fun z5 => zt_gd (decide (zt_kd z5 = 5)) <|
  zt_gd (x2 == 0 || x2 == 1) <|
  zt_lt (zt_st σ2 z5 4 x2) fun σ8 =>
  some (0, 0, σ8)

def f_X8_checkNameAndSort_14 (σ : zt_St) : Option (Int32 × Int32 × zt_St) :=
  some (1, 0, σ)
def f_X8_checkNameAndSort (σ : zt_St) (x0 : Int32) (x1 : Int32) : Option (Int32 × Int32 × zt_St) :=
  zt_bd (f_X3_isName x0) fun v1 =>
  if v1 = 0 then
    f_X8_checkNameAndSort_14 σ
  else
    zt_bd (f_X8_isSort x1) fun v4 =>
    if v4 = 0 then
      f_X8_checkNameAndSort_14 σ
    else
      some (0, 0, σ)

def f_X8_ask (σ : zt_St) (x1 : Int32) (x2 : Int32) (x3 : Int32) : Option (Int32 × Int32 × zt_St) :=
  zt_bx (f_X8_checkZone σ x1) fun v1 σ2 =>
  zt_bx (f_X8_checkNameAndSort σ2 x2 x3) fun v3 σ4 =>
  zt_bd (f_X7_at σ4 x1) fun z7 => zt_gd (decide (zt_kd z7 = 5)) <|
  zt_bd (f_X3_isUnder x2 (σ4 z7 0)) fun v9 =>
  if v9 = 0 then
    some (2, 0, σ4)
  else
    zt_bd (f_X6_answer σ4 z7 (z7 + 1) x2 x3 92) fun σ13 =>
    zt_lt (zt_st σ13 92 4 1) fun σ14 =>
    zt_lt (zt_st σ14 92 5 0) fun σ15 =>
    some (0, (σ15 92 0), σ15)

def f_X8_told_9 (σ : zt_St) : Option (Int32 × Int32 × zt_St) :=
  some (1, 0, σ)
def f_X8_told (σ : zt_St) (x1 : Int32) : Option (Int32 × Int32 × zt_St) :=
  if x1 < 0 then
    f_X8_told_9 σ
  else
    if x1 ≤ 4 then
      zt_bd (f_X0_detail σ 92 x1) fun v3 =>
      some (0, v3, σ)
    else
      f_X8_told_9 σ

def f_X8_neighbour (σ : zt_St) (x1 : Int32) (x2 : Int32) (x3 : Int32) : Option (Int32 × Int32 × zt_St) :=
  zt_bx (f_X8_checkZone σ x1) fun v1 σ2 =>
  zt_bd (f_X3_isPlace x2) fun v3 =>
  if v3 = 0 then
    some (1, 0, σ2)
  else
    zt_bd (f_X7_at σ2 x1) fun z8 => zt_gd (decide (zt_kd z8 = 5)) <|
    zt_bd (f_X6_nearest σ2 z8 x2 x3) fun v10 =>
    some (0, v10, σ2)

def f_X8_resolve (σ : zt_St) (x1 : Int32) (x2 : Int32) : Option (Int32 × Int32 × zt_St) :=
  zt_bx (f_X8_checkNameAndSort σ x1 x2) fun v1 σ2 =>
  zt_bd (f_X5_run σ2 x1 x2 0 92) fun σ4 =>
  some (0, (σ4 92 0), σ4)

def f_X8_resolveAnew (σ : zt_St) (x1 : Int32) (x2 : Int32) : Option (Int32 × Int32 × zt_St) :=
  zt_bx (f_X8_checkNameAndSort σ x1 x2) fun v1 σ2 =>
  zt_bd (f_X5_run σ2 x1 x2 1 92) fun σ4 =>
  some (0, (σ4 92 0), σ4)

def f_X8_forget (σ : zt_St) : Option (Int32 × zt_St) :=
  zt_bd (f_X2_clear σ (σ 80 3)) fun q3 => zt_lt q3.1 fun v1 => zt_lt q3.2 fun σ2 =>
  some (v1, σ2)

def f_X8_pass_11 (σ : zt_St) : Option (Int32 × Int32 × zt_St) :=
  some (1, 0, σ)
def f_X8_pass (σ : zt_St) (x1 : Int32) : Option (Int32 × Int32 × zt_St) :=
  if x1 < 1 then
    f_X8_pass_11 σ
  else
    if x1 ≤ 100 then
      zt_lt (zt_st σ 80 3 ((σ 80 3) + x1)) fun σ3 =>
      some (0, (σ3 80 3), σ3)
    else
      f_X8_pass_11 σ

def f_X8_isKeyOrNone_15 : Option (Int32) :=
  some 1
def f_X8_isKeyOrNone (x0 : Int32) : Option (Int32) :=
  if x0 = (-1) then
    f_X8_isKeyOrNone_15
  else
    if x0 < 0 then
      some 0
    else
      if 100 ≤ x0 then
        some 0
      else
        f_X8_isKeyOrNone_15

def f_X8_setKey_21 (σ : zt_St) : Option (Int32 × Int32 × zt_St) :=
  some (1, 0, σ)
def f_X8_setKey (σ : zt_St) (x1 : Int32) (x2 : Int32) (x3 : Int32) : Option (Int32 × Int32 × zt_St) :=
  zt_bx (f_X8_checkZone σ x1) fun v1 σ2 =>
  if x2 < 0 then
    f_X8_setKey_21 σ2
  else
    if 1 < x2 then
      f_X8_setKey_21 σ2
    else
      zt_bd (f_X8_isKeyOrNone x3) fun v5 =>
      if v5 = 0 then
        f_X8_setKey_21 σ2
      else
        zt_bd (f_X7_at σ2 x1) fun z10 => zt_gd (decide (zt_kd z10 = 5)) <|
        zt_bd (f_X6_changeKey σ2 z10 x2 x3) fun q14 => zt_lt q14.1 fun v12 => zt_lt q14.2 fun σ13 =>
        some (0, v12, σ13)

def f_X8_setWindow_21 (σ : zt_St) : Option (Int32 × Int32 × zt_St) :=
  some (1, 0, σ)
def f_X8_setWindow (σ : zt_St) (x1 : Int32) (x2 : Int32) (x3 : Int32) : Option (Int32 × Int32 × zt_St) :=
  zt_bx (f_X8_checkZone σ x1) fun v1 σ2 =>
  if x2 < 0 then
    f_X8_setWindow_21 σ2
  else
    if x3 < x2 then
      f_X8_setWindow_21 σ2
    else
      if x3 ≤ 10000 then
        zt_bd (f_X7_at σ2 x1) fun z8 => zt_gd (decide (zt_kd z8 = 5)) <|
        zt_lt (zt_st σ2 z8 7 x2) fun σ10 =>
        zt_lt (zt_st σ10 z8 8 x3) fun σ11 =>
        some (0, 0, σ11)
      else
        f_X8_setWindow_21 σ2

def f_X8_setAnchor (σ : zt_St) (x1 : Int32) : Option (Int32 × Int32 × zt_St) :=
  zt_bd (f_X8_isKeyOrNone x1) fun v1 =>
  if v1 = 0 then
    some (1, 0, σ)
  else
    zt_lt (zt_st σ 80 4 x1) fun σ4 =>
    some (0, (σ 80 4), σ4)

def f_X8_trust (σ : zt_St) (x1 : Int32) (x2 : Int32) : Option (Int32 × Int32 × zt_St) :=
  zt_bx (f_X8_checkNameAndSort σ x1 x2) fun v1 σ2 =>
  zt_bd (f_X5_run σ2 x1 x2 1 93) fun σ4 =>
  if (σ4 93 0) = 6 then
    some (0, (-1), σ4)
  else
    some (0, (σ4 80 14), σ4)
