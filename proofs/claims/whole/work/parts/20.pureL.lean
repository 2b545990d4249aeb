/-! each method as a function, by program out of its instructions: none where the machine would throw or a loop outlasts its measure -/
def f_L_zone (σ : zt_St) (x1 : Int32) (x2 : Int32) : Option (Int32 × zt_St) :=
  zt_bl (f_X8_zone σ x1 x2)
    (fun v1 σ2 =>
      zt_lt (zt_st σ2 122 0 v1) fun σ3 =>
      some (0, σ3))
    (fun e1 σ2 => if e1 = 1 then some (1, σ2) else if e1 = 2 then some (2, σ2) else none)

def f_L_need (σ : zt_St) (x1 : Int32) (x2 : Int32) (x3 : Int32) : Option (Int32 × zt_St) :=
  zt_bl (f_X8_need σ x1 x2 x3)
    (fun v1 σ2 =>
      zt_lt (zt_st σ2 122 0 v1) fun σ3 =>
      some (0, σ3))
    (fun e1 σ2 => if e1 = 1 then some (1, σ2) else if e1 = 2 then some (2, σ2) else none)

def f_L_put (σ : zt_St) (x1 : Int32) (x2 : Int32) (x3 : Int32) (x4 : Int32) : Option (Int32 × zt_St) :=
  zt_bl (f_X8_put σ x1 x2 x3 x4)
    (fun v1 σ2 =>
      zt_lt (zt_st σ2 122 0 v1) fun σ3 =>
      some (0, σ3))
    (fun e1 σ2 => if e1 = 1 then some (1, σ2) else if e1 = 2 then some (2, σ2) else none)

def f_L_drop (σ : zt_St) (x1 : Int32) (x2 : Int32) : Option (Int32 × zt_St) :=
  zt_bl (f_X8_drop σ x1 x2)
    (fun v1 σ2 =>
      zt_lt (zt_st σ2 122 0 v1) fun σ3 =>
      some (0, σ3))
    (fun e1 σ2 => if e1 = 1 then some (1, σ2) else if e1 = 2 then some (2, σ2) else none)

def f_L_update_15 (σ : zt_St) (y0 : Int32) : Option (Int32 × zt_St) :=
  zt_lt (zt_st σ 122 0 y0) fun σ4 =>
  some (0, σ4)
def f_L_update (σ : zt_St) (x1 : Int32) : Option (Int32 × zt_St) :=
  zt_bl (f_X8_update σ x1)
    (fun v1 σ2 =>
      if v1 = 0 then
        f_L_update_15 σ2 0
      else
        f_L_update_15 σ2 1)
    (fun e1 σ2 => if e1 = 3 then some (1, σ2) else none)

def f_L_zoneHas (σ : zt_St) (x1 : Int32) (x2 : Int32) : Option (Int32 × zt_St) :=
  zt_bl (f_X8_zoneHas σ x1 x2)
    (fun v1 σ2 =>
      zt_lt (zt_st σ2 122 0 v1) fun σ3 =>
      some (0, σ3))
    (fun e1 σ2 => if e1 = 3 then some (1, σ2) else if e1 = 1 then some (2, σ2) else none)

def f_L_record (σ : zt_St) (x1 : Int32) (x2 : Int32) (x3 : Int32) : Option (Int32 × zt_St) :=
  zt_bl (f_X8_record σ x1 x2 x3)
    (fun v1 σ2 =>
      zt_lt (zt_st σ2 122 0 v1) fun σ3 =>
      some (0, σ3))
    (fun e1 σ2 => if e1 = 3 then some (1, σ2) else if e1 = 1 then some (2, σ2) else none)

def f_L_bringUp (σ : zt_St) (x1 : Int32) : Option (Int32 × zt_St) :=
  zt_bl (f_X8_bringUp σ x1)
    (fun v1 σ2 =>
      zt_lt (zt_st σ2 122 0 v1) fun σ3 =>
      some (0, σ3))
    (fun e1 σ2 => if e1 = 3 then some (1, σ2) else none)

def f_L_setDead (σ : zt_St) (x1 : Int32) (x2 : Int32) : Option (Int32 × zt_St) :=
  zt_bl (f_X8_setDead σ x1 x2)
    (fun v1 σ2 =>
      some (0, σ2))
    (fun e1 σ2 => if e1 = 3 then some (1, σ2) else none)

def f_L_ask (σ : zt_St) (x1 : Int32) (x2 : Int32) (x3 : Int32) : Option (Int32 × zt_St) :=
  zt_bl (f_X8_ask σ x1 x2 x3)
    (fun v1 σ2 =>
      zt_lt (zt_st σ2 122 0 v1) fun σ3 =>
      some (0, σ3))
    (fun e1 σ2 => if e1 = 3 then some (1, σ2) else if e1 = 1 then some (2, σ2) else if e1 = 2 then some (3, σ2) else none)

def f_L_told (σ : zt_St) (x1 : Int32) : Option (Int32 × zt_St) :=
  zt_bl (f_X8_told σ x1)
    (fun v1 σ2 =>
      zt_lt (zt_st σ2 122 0 v1) fun σ3 =>
      some (0, σ3))
    (fun e1 σ2 => if e1 = 1 then some (1, σ2) else none)

def f_L_neighbour (σ : zt_St) (x1 : Int32) (x2 : Int32) (x3 : Int32) : Option (Int32 × zt_St) :=
  zt_bl (f_X8_neighbour σ x1 x2 x3)
    (fun v1 σ2 =>
      zt_lt (zt_st σ2 122 0 v1) fun σ3 =>
      some (0, σ3))
    (fun e1 σ2 => if e1 = 3 then some (1, σ2) else if e1 = 1 then some (2, σ2) else none)

def f_L_resolve (σ : zt_St) (x1 : Int32) (x2 : Int32) : Option (Int32 × zt_St) :=
  zt_bl (f_X8_resolve σ x1 x2)
    (fun v1 σ2 =>
      zt_lt (zt_st σ2 122 0 v1) fun σ3 =>
      some (0, σ3))
    (fun e1 σ2 => if e1 = 1 then some (1, σ2) else none)

def f_L_resolveAnew (σ : zt_St) (x1 : Int32) (x2 : Int32) : Option (Int32 × zt_St) :=
  zt_bl (f_X8_resolveAnew σ x1 x2)
    (fun v1 σ2 =>
      zt_lt (zt_st σ2 122 0 v1) fun σ3 =>
      some (0, σ3))
    (fun e1 σ2 => if e1 = 1 then some (1, σ2) else none)

def f_L_pass (σ : zt_St) (x1 : Int32) : Option (Int32 × zt_St) :=
  zt_bl (f_X8_pass σ x1)
    (fun v1 σ2 =>
      zt_lt (zt_st σ2 122 0 v1) fun σ3 =>
      some (0, σ3))
    (fun e1 σ2 => if e1 = 1 then some (1, σ2) else none)

def f_L_setKey (σ : zt_St) (x1 : Int32) (x2 : Int32) (x3 : Int32) : Option (Int32 × zt_St) :=
  zt_bl (f_X8_setKey σ x1 x2 x3)
    (fun v1 σ2 =>
      zt_lt (zt_st σ2 122 0 v1) fun σ3 =>
      some (0, σ3))
    (fun e1 σ2 => if e1 = 3 then some (1, σ2) else if e1 = 1 then some (2, σ2) else none)

def f_L_setWindow (σ : zt_St) (x1 : Int32) (x2 : Int32) (x3 : Int32) : Option (Int32 × zt_St) :=
  zt_bl (f_X8_setWindow σ x1 x2 x3)
    (fun v1 σ2 =>
      some (0, σ2))
    (fun e1 σ2 => if e1 = 3 then some (1, σ2) else if e1 = 1 then some (2, σ2) else none)

def f_L_setAnchor (σ : zt_St) (x1 : Int32) : Option (Int32 × zt_St) :=
  zt_bl (f_X8_setAnchor σ x1)
    (fun v1 σ2 =>
      zt_lt (zt_st σ2 122 0 v1) fun σ3 =>
      some (0, σ3))
    (fun e1 σ2 => if e1 = 1 then some (1, σ2) else none)

def f_L_trust (σ : zt_St) (x1 : Int32) (x2 : Int32) : Option (Int32 × zt_St) :=
  zt_bl (f_X8_trust σ x1 x2)
    (fun v1 σ2 =>
      zt_lt (zt_st σ2 122 0 v1) fun σ3 =>
      some (0, σ3))
    (fun e1 σ2 => if e1 = 1 then some (1, σ2) else none)

def f_L_law_1488 (xs : Nat → Int32) (L : Nat) (rc23 : zt_St → Int32 → Option Int32) (σ : zt_St) (u4 : Int32) : Option Int32 :=
  rc23 σ (u4 + 5)
def f_L_law_197 (xs : Nat → Int32) (L : Nat) (rc23 : zt_St → Int32 → Option Int32) (σ : zt_St) (u4 : Int32) : Option Int32 :=
  f_L_law_1488 xs L rc23 σ u4
def f_L_law_293 (xs : Nat → Int32) (L : Nat) (rc23 : zt_St → Int32 → Option Int32) (σ : zt_St) (u4 : Int32) : Option Int32 :=
  f_L_law_1488 xs L rc23 σ u4
def f_L_law_260 (xs : Nat → Int32) (L : Nat) (rc23 : zt_St → Int32 → Option Int32) (σ : zt_St) (y0 : Int32) (y1 : Int32) (y2 : Int32) (u4 : Int32) (u5 : Int32) : Option Int32 :=
  zt_bd (f_X9_need σ y2 y1 y0) fun q284 => zt_lt q284.1 fun v282 => zt_lt q284.2 fun σ283 =>
  zt_bd (f_X9_thrown σ283) fun v285 =>
  if v285 = u5 then
    if u5 = 0 then
      if (lg_cmp ((σ283 122 0) : Int32).toInt64 (v282 : Int32).toInt64) = 0 then
        f_L_law_293 xs L rc23 σ283 u4
      else
        some 0
    else
      f_L_law_293 xs L rc23 σ283 u4
  else
    some 0
def f_L_law_227 (xs : Nat → Int32) (L : Nat) (rc23 : zt_St → Int32 → Option Int32) (σ : zt_St) (y0 : Int32) (y1 : Int32) (y2 : Int32) (u4 : Int32) : Option Int32 :=
  zt_bd (f_L_need σ y2 y1 y0) fun qv264 => zt_lt qv264.1 fun v264 => zt_lt qv264.2 fun σ265 =>
  zt_gd (zt_gI (u4 + 1) L) <|
  zt_gd (zt_gI (u4 + 2) L) <|
  zt_gd (zt_gI (u4 + 3) L) <|
  if (xs (u4 + 3).toNatClampNeg) = 0 then
    f_L_law_260 xs L rc23 σ265 0 (xs (u4 + 2).toNatClampNeg) (xs (u4 + 1).toNatClampNeg) u4 v264
  else
    f_L_law_260 xs L rc23 σ265 1 (xs (u4 + 2).toNatClampNeg) (xs (u4 + 1).toNatClampNeg) u4 v264
def f_L_law_385 (xs : Nat → Int32) (L : Nat) (rc23 : zt_St → Int32 → Option Int32) (σ : zt_St) (u4 : Int32) : Option Int32 :=
  f_L_law_1488 xs L rc23 σ u4
def f_L_law_453 (xs : Nat → Int32) (L : Nat) (rc23 : zt_St → Int32 → Option Int32) (σ : zt_St) (u4 : Int32) : Option Int32 :=
  f_L_law_1488 xs L rc23 σ u4
def f_L_law_516 (xs : Nat → Int32) (L : Nat) (rc23 : zt_St → Int32 → Option Int32) (σ : zt_St) (u4 : Int32) : Option Int32 :=
  f_L_law_1488 xs L rc23 σ u4
def f_L_law_510 (xs : Nat → Int32) (L : Nat) (rc23 : zt_St → Int32 → Option Int32) (σ : zt_St) (y0 : Int32) (y1 : Int32) (u4 : Int32) : Option Int32 :=
  if (lg_cmp (y1 : Int32).toInt64 (y0 : Int32).toInt64) = 0 then
    f_L_law_516 xs L rc23 σ u4
  else
    some 0
def f_L_law_584 (xs : Nat → Int32) (L : Nat) (rc23 : zt_St → Int32 → Option Int32) (σ : zt_St) (u4 : Int32) : Option Int32 :=
  f_L_law_1488 xs L rc23 σ u4
def f_L_law_664 (xs : Nat → Int32) (L : Nat) (rc23 : zt_St → Int32 → Option Int32) (σ : zt_St) (u4 : Int32) : Option Int32 :=
  f_L_law_1488 xs L rc23 σ u4
def f_L_law_720 (xs : Nat → Int32) (L : Nat) (rc23 : zt_St → Int32 → Option Int32) (σ : zt_St) (u4 : Int32) : Option Int32 :=
  f_L_law_1488 xs L rc23 σ u4
def f_L_law_770 (xs : Nat → Int32) (L : Nat) (rc23 : zt_St → Int32 → Option Int32) (σ : zt_St) (y0 : Int32) (y1 : Int32) (u4 : Int32) (u5 : Int32) : Option Int32 :=
  zt_bd (f_X9_setDead σ y1 y0) fun σ291 =>
  zt_bd (f_X9_thrown σ291) fun v292 =>
  if v292 = u5 then
    f_L_law_1488 xs L rc23 σ291 u4
  else
    some 0
def f_L_law_744 (xs : Nat → Int32) (L : Nat) (rc23 : zt_St → Int32 → Option Int32) (σ : zt_St) (y0 : Int32) (y1 : Int32) (u4 : Int32) : Option Int32 :=
  zt_bd (f_L_setDead σ y1 y0) fun qv271 => zt_lt qv271.1 fun v271 => zt_lt qv271.2 fun σ272 =>
  zt_gd (zt_gI (u4 + 1) L) <|
  zt_gd (zt_gI (u4 + 2) L) <|
  if (xs (u4 + 2).toNatClampNeg) = 0 then
    f_L_law_770 xs L rc23 σ272 0 (xs (u4 + 1).toNatClampNeg) u4 v271
  else
    f_L_law_770 xs L rc23 σ272 1 (xs (u4 + 1).toNatClampNeg) u4 v271
def f_L_law_864 (xs : Nat → Int32) (L : Nat) (rc23 : zt_St → Int32 → Option Int32) (σ : zt_St) (u4 : Int32) : Option Int32 :=
  f_L_law_1488 xs L rc23 σ u4
def f_L_law_920 (xs : Nat → Int32) (L : Nat) (rc23 : zt_St → Int32 → Option Int32) (σ : zt_St) (u4 : Int32) : Option Int32 :=
  f_L_law_1488 xs L rc23 σ u4
def f_L_law_1016 (xs : Nat → Int32) (L : Nat) (rc23 : zt_St → Int32 → Option Int32) (σ : zt_St) (u4 : Int32) : Option Int32 :=
  f_L_law_1488 xs L rc23 σ u4
def f_L_law_983 (xs : Nat → Int32) (L : Nat) (rc23 : zt_St → Int32 → Option Int32) (σ : zt_St) (y0 : Int32) (y1 : Int32) (y2 : Int32) (u4 : Int32) (u5 : Int32) : Option Int32 :=
  zt_bd (f_X9_neighbour σ y2 y1 y0) fun q297 => zt_lt q297.1 fun v295 => zt_lt q297.2 fun σ296 =>
  zt_bd (f_X9_thrown σ296) fun v298 =>
  if v298 = u5 then
    if u5 = 0 then
      if (lg_cmp ((σ296 122 0) : Int32).toInt64 (v295 : Int32).toInt64) = 0 then
        f_L_law_1016 xs L rc23 σ296 u4
      else
        some 0
    else
      f_L_law_1016 xs L rc23 σ296 u4
  else
    some 0
def f_L_law_950 (xs : Nat → Int32) (L : Nat) (rc23 : zt_St → Int32 → Option Int32) (σ : zt_St) (y0 : Int32) (y1 : Int32) (y2 : Int32) (u4 : Int32) : Option Int32 :=
  zt_bd (f_L_neighbour σ y2 y1 y0) fun qv276 => zt_lt qv276.1 fun v276 => zt_lt qv276.2 fun σ277 =>
  zt_gd (zt_gI (u4 + 1) L) <|
  zt_gd (zt_gI (u4 + 2) L) <|
  zt_gd (zt_gI (u4 + 3) L) <|
  if (xs (u4 + 3).toNatClampNeg) = 0 then
    f_L_law_983 xs L rc23 σ277 0 (xs (u4 + 2).toNatClampNeg) (xs (u4 + 1).toNatClampNeg) u4 v276
  else
    f_L_law_983 xs L rc23 σ277 1 (xs (u4 + 2).toNatClampNeg) (xs (u4 + 1).toNatClampNeg) u4 v276
def f_L_law_1084 (xs : Nat → Int32) (L : Nat) (rc23 : zt_St → Int32 → Option Int32) (σ : zt_St) (u4 : Int32) : Option Int32 :=
  f_L_law_1488 xs L rc23 σ u4
def f_L_law_1152 (xs : Nat → Int32) (L : Nat) (rc23 : zt_St → Int32 → Option Int32) (σ : zt_St) (u4 : Int32) : Option Int32 :=
  f_L_law_1488 xs L rc23 σ u4
def f_L_law_1221 (xs : Nat → Int32) (L : Nat) (rc23 : zt_St → Int32 → Option Int32) (σ : zt_St) (u4 : Int32) : Option Int32 :=
  f_L_law_1488 xs L rc23 σ u4
def f_L_law_1301 (xs : Nat → Int32) (L : Nat) (rc23 : zt_St → Int32 → Option Int32) (σ : zt_St) (u4 : Int32) : Option Int32 :=
  f_L_law_1488 xs L rc23 σ u4
def f_L_law_1417 (xs : Nat → Int32) (L : Nat) (rc23 : zt_St → Int32 → Option Int32) (σ : zt_St) (u4 : Int32) : Option Int32 :=
  f_L_law_1488 xs L rc23 σ u4
def f_L_law_1485 (xs : Nat → Int32) (L : Nat) (rc23 : zt_St → Int32 → Option Int32) (σ : zt_St) (u4 : Int32) : Option Int32 :=
  f_L_law_1488 xs L rc23 σ u4
def f_L_law_23b (xs : Nat → Int32) (L : Nat) (rc23 : zt_St → Int32 → Option Int32) (σ : zt_St) (u4 : Int32) : Option Int32 :=
  if ((Int32.ofNat L) - 5) < u4 then
    some 1
  else
    zt_gd (zt_gI u4 L) <|
    if ((xs u4.toNatClampNeg) &&& 31) = 0 then
      zt_gd (zt_gI (u4 + 1) L) <|
      zt_gd (zt_gI (u4 + 2) L) <|
      zt_bd (f_L_zone σ (xs (u4 + 1).toNatClampNeg) (xs (u4 + 2).toNatClampNeg)) fun qv6 => zt_lt qv6.1 fun v6 => zt_lt qv6.2 fun σ7 =>
      zt_gd (zt_gI (u4 + 1) L) <|
      zt_gd (zt_gI (u4 + 2) L) <|
      zt_bd (f_X9_zone σ7 (xs (u4 + 1).toNatClampNeg) (xs (u4 + 2).toNatClampNeg)) fun q12 => zt_lt q12.1 fun v10 => zt_lt q12.2 fun σ11 =>
      zt_bd (f_X9_thrown σ11) fun v13 =>
      if v13 = v6 then
        if v6 = 0 then
          if (lg_cmp ((σ11 122 0) : Int32).toInt64 (v10 : Int32).toInt64) = 0 then
            f_L_law_197 xs L rc23 σ11 u4
          else
            some 0
        else
          f_L_law_197 xs L rc23 σ11 u4
      else
        some 0
    else
      if ((xs u4.toNatClampNeg) &&& 31) = 1 then
        zt_gd (zt_gI (u4 + 1) L) <|
        zt_gd (zt_gI (u4 + 2) L) <|
        zt_gd (zt_gI (u4 + 3) L) <|
        if (xs (u4 + 3).toNatClampNeg) = 0 then
          f_L_law_227 xs L rc23 σ 0 (xs (u4 + 2).toNatClampNeg) (xs (u4 + 1).toNatClampNeg) u4
        else
          f_L_law_227 xs L rc23 σ 1 (xs (u4 + 2).toNatClampNeg) (xs (u4 + 1).toNatClampNeg) u4
      else
        if ((xs u4.toNatClampNeg) &&& 31) = 2 then
          zt_gd (zt_gI (u4 + 1) L) <|
          zt_gd (zt_gI (u4 + 2) L) <|
          zt_gd (zt_gI (u4 + 3) L) <|
          zt_gd (zt_gI (u4 + 4) L) <|
          zt_bd (f_L_put σ (xs (u4 + 1).toNatClampNeg) (xs (u4 + 2).toNatClampNeg) (xs (u4 + 3).toNatClampNeg) (xs (u4 + 4).toNatClampNeg)) fun qv28 => zt_lt qv28.1 fun v28 => zt_lt qv28.2 fun σ29 =>
          zt_gd (zt_gI (u4 + 1) L) <|
          zt_gd (zt_gI (u4 + 2) L) <|
          zt_gd (zt_gI (u4 + 3) L) <|
          zt_gd (zt_gI (u4 + 4) L) <|
          zt_bd (f_X9_put σ29 (xs (u4 + 1).toNatClampNeg) (xs (u4 + 2).toNatClampNeg) (xs (u4 + 3).toNatClampNeg) (xs (u4 + 4).toNatClampNeg)) fun q36 => zt_lt q36.1 fun v34 => zt_lt q36.2 fun σ35 =>
          zt_bd (f_X9_thrown σ35) fun v37 =>
          if v37 = v28 then
            if v28 = 0 then
              if (lg_cmp ((σ35 122 0) : Int32).toInt64 (v34 : Int32).toInt64) = 0 then
                f_L_law_385 xs L rc23 σ35 u4
              else
                some 0
            else
              f_L_law_385 xs L rc23 σ35 u4
          else
            some 0
        else
          if ((xs u4.toNatClampNeg) &&& 31) = 3 then
            zt_gd (zt_gI (u4 + 1) L) <|
            zt_gd (zt_gI (u4 + 2) L) <|
            zt_bd (f_L_drop σ (xs (u4 + 1).toNatClampNeg) (xs (u4 + 2).toNatClampNeg)) fun qv45 => zt_lt qv45.1 fun v45 => zt_lt qv45.2 fun σ46 =>
            zt_gd (zt_gI (u4 + 1) L) <|
            zt_gd (zt_gI (u4 + 2) L) <|
            zt_bd (f_X9_drop σ46 (xs (u4 + 1).toNatClampNeg) (xs (u4 + 2).toNatClampNeg)) fun q51 => zt_lt q51.1 fun v49 => zt_lt q51.2 fun σ50 =>
            zt_bd (f_X9_thrown σ50) fun v52 =>
            if v52 = v45 then
              if v45 = 0 then
                if (lg_cmp ((σ50 122 0) : Int32).toInt64 (v49 : Int32).toInt64) = 0 then
                  f_L_law_453 xs L rc23 σ50 u4
                else
                  some 0
              else
                f_L_law_453 xs L rc23 σ50 u4
            else
              some 0
          else
            if ((xs u4.toNatClampNeg) &&& 31) = 4 then
              zt_gd (zt_gI (u4 + 1) L) <|
              zt_bd (f_L_update σ (xs (u4 + 1).toNatClampNeg)) fun qv59 => zt_lt qv59.1 fun v59 => zt_lt qv59.2 fun σ60 =>
              zt_gd (zt_gI (u4 + 1) L) <|
              zt_bd (f_X9_update σ60 (xs (u4 + 1).toNatClampNeg)) fun q64 => zt_lt q64.1 fun v62 => zt_lt q64.2 fun σ63 =>
              zt_bd (f_X9_thrown σ63) fun v65 =>
              if v65 = v59 then
                if v59 = 0 then
                  if v62 = 0 then
                    f_L_law_510 xs L rc23 σ63 0 (σ63 122 0) u4
                  else
                    f_L_law_510 xs L rc23 σ63 1 (σ63 122 0) u4
                else
                  f_L_law_516 xs L rc23 σ63 u4
              else
                some 0
            else
              if ((xs u4.toNatClampNeg) &&& 31) = 5 then
                zt_gd (zt_gI (u4 + 1) L) <|
                zt_gd (zt_gI (u4 + 2) L) <|
                zt_bd (f_L_zoneHas σ (xs (u4 + 1).toNatClampNeg) (xs (u4 + 2).toNatClampNeg)) fun qv73 => zt_lt qv73.1 fun v73 => zt_lt qv73.2 fun σ74 =>
                zt_gd (zt_gI (u4 + 1) L) <|
                zt_gd (zt_gI (u4 + 2) L) <|
                zt_bd (f_X9_zoneHas σ74 (xs (u4 + 1).toNatClampNeg) (xs (u4 + 2).toNatClampNeg)) fun q79 => zt_lt q79.1 fun v77 => zt_lt q79.2 fun σ78 =>
                zt_bd (f_X9_thrown σ78) fun v80 =>
                if v80 = v73 then
                  if v73 = 0 then
                    if (lg_cmp ((σ78 122 0) : Int32).toInt64 (v77 : Int32).toInt64) = 0 then
                      f_L_law_584 xs L rc23 σ78 u4
                    else
                      some 0
                  else
                    f_L_law_584 xs L rc23 σ78 u4
                else
                  some 0
              else
                if ((xs u4.toNatClampNeg) &&& 31) = 6 then
                  zt_gd (zt_gI (u4 + 1) L) <|
                  zt_gd (zt_gI (u4 + 2) L) <|
                  zt_gd (zt_gI (u4 + 3) L) <|
                  zt_bd (f_L_record σ (xs (u4 + 1).toNatClampNeg) (xs (u4 + 2).toNatClampNeg) (xs (u4 + 3).toNatClampNeg)) fun qv89 => zt_lt qv89.1 fun v89 => zt_lt qv89.2 fun σ90 =>
                  zt_gd (zt_gI (u4 + 1) L) <|
                  zt_gd (zt_gI (u4 + 2) L) <|
                  zt_gd (zt_gI (u4 + 3) L) <|
                  zt_bd (f_X9_record σ90 (xs (u4 + 1).toNatClampNeg) (xs (u4 + 2).toNatClampNeg) (xs (u4 + 3).toNatClampNeg)) fun q96 => zt_lt q96.1 fun v94 => zt_lt q96.2 fun σ95 =>
                  zt_bd (f_X9_thrown σ95) fun v97 =>
                  if v97 = v89 then
                    if v89 = 0 then
                      if (lg_cmp ((σ95 122 0) : Int32).toInt64 (v94 : Int32).toInt64) = 0 then
                        f_L_law_664 xs L rc23 σ95 u4
                      else
                        some 0
                    else
                      f_L_law_664 xs L rc23 σ95 u4
                  else
                    some 0
                else
                  if ((xs u4.toNatClampNeg) &&& 31) = 7 then
                    zt_gd (zt_gI (u4 + 1) L) <|
                    zt_bd (f_L_bringUp σ (xs (u4 + 1).toNatClampNeg)) fun qv104 => zt_lt qv104.1 fun v104 => zt_lt qv104.2 fun σ105 =>
                    zt_gd (zt_gI (u4 + 1) L) <|
                    zt_bd (f_X9_bringUp σ105 (xs (u4 + 1).toNatClampNeg)) fun q109 => zt_lt q109.1 fun v107 => zt_lt q109.2 fun σ108 =>
                    zt_bd (f_X9_thrown σ108) fun v110 =>
                    if v110 = v104 then
                      if v104 = 0 then
                        if (lg_cmp ((σ108 122 0) : Int32).toInt64 (v107 : Int32).toInt64) = 0 then
                          f_L_law_720 xs L rc23 σ108 u4
                        else
                          some 0
                      else
                        f_L_law_720 xs L rc23 σ108 u4
                    else
                      some 0
                  else
                    if ((xs u4.toNatClampNeg) &&& 31) = 8 then
                      zt_gd (zt_gI (u4 + 1) L) <|
                      zt_gd (zt_gI (u4 + 2) L) <|
                      if (xs (u4 + 2).toNatClampNeg) = 0 then
                        f_L_law_744 xs L rc23 σ 0 (xs (u4 + 1).toNatClampNeg) u4
                      else
                        f_L_law_744 xs L rc23 σ 1 (xs (u4 + 1).toNatClampNeg) u4
                    else
                      if ((xs u4.toNatClampNeg) &&& 31) = 9 then
                        zt_gd (zt_gI (u4 + 1) L) <|
                        zt_gd (zt_gI (u4 + 2) L) <|
                        zt_gd (zt_gI (u4 + 3) L) <|
                        zt_bd (f_L_ask σ (xs (u4 + 1).toNatClampNeg) (xs (u4 + 2).toNatClampNeg) (xs (u4 + 3).toNatClampNeg)) fun qv123 => zt_lt qv123.1 fun v123 => zt_lt qv123.2 fun σ124 =>
                        zt_gd (zt_gI (u4 + 1) L) <|
                        zt_gd (zt_gI (u4 + 2) L) <|
                        zt_gd (zt_gI (u4 + 3) L) <|
                        zt_bd (f_X9_ask σ124 (xs (u4 + 1).toNatClampNeg) (xs (u4 + 2).toNatClampNeg) (xs (u4 + 3).toNatClampNeg)) fun q130 => zt_lt q130.1 fun v128 => zt_lt q130.2 fun σ129 =>
                        zt_bd (f_X9_thrown σ129) fun v131 =>
                        if v131 = v123 then
                          if v123 = 0 then
                            if (lg_cmp ((σ129 122 0) : Int32).toInt64 (v128 : Int32).toInt64) = 0 then
                              f_L_law_864 xs L rc23 σ129 u4
                            else
                              some 0
                          else
                            f_L_law_864 xs L rc23 σ129 u4
                        else
                          some 0
                      else
                        if ((xs u4.toNatClampNeg) &&& 31) = 10 then
                          zt_gd (zt_gI (u4 + 1) L) <|
                          zt_bd (f_L_told σ (xs (u4 + 1).toNatClampNeg)) fun qv138 => zt_lt qv138.1 fun v138 => zt_lt qv138.2 fun σ139 =>
                          zt_gd (zt_gI (u4 + 1) L) <|
                          zt_bd (f_X9_told σ139 (xs (u4 + 1).toNatClampNeg)) fun q143 => zt_lt q143.1 fun v141 => zt_lt q143.2 fun σ142 =>
                          zt_bd (f_X9_thrown σ142) fun v144 =>
                          if v144 = v138 then
                            if v138 = 0 then
                              if (lg_cmp ((σ142 122 0) : Int32).toInt64 (v141 : Int32).toInt64) = 0 then
                                f_L_law_920 xs L rc23 σ142 u4
                              else
                                some 0
                            else
                              f_L_law_920 xs L rc23 σ142 u4
                          else
                            some 0
                        else
                          if ((xs u4.toNatClampNeg) &&& 31) = 11 then
                            zt_gd (zt_gI (u4 + 1) L) <|
                            zt_gd (zt_gI (u4 + 2) L) <|
                            zt_gd (zt_gI (u4 + 3) L) <|
                            if (xs (u4 + 3).toNatClampNeg) = 0 then
                              f_L_law_950 xs L rc23 σ 0 (xs (u4 + 2).toNatClampNeg) (xs (u4 + 1).toNatClampNeg) u4
                            else
                              f_L_law_950 xs L rc23 σ 1 (xs (u4 + 2).toNatClampNeg) (xs (u4 + 1).toNatClampNeg) u4
                          else
                            if ((xs u4.toNatClampNeg) &&& 31) = 12 then
                              zt_gd (zt_gI (u4 + 1) L) <|
                              zt_gd (zt_gI (u4 + 2) L) <|
                              zt_bd (f_L_resolve σ (xs (u4 + 1).toNatClampNeg) (xs (u4 + 2).toNatClampNeg)) fun qv157 => zt_lt qv157.1 fun v157 => zt_lt qv157.2 fun σ158 =>
                              zt_gd (zt_gI (u4 + 1) L) <|
                              zt_gd (zt_gI (u4 + 2) L) <|
                              zt_bd (f_X9_resolve σ158 (xs (u4 + 1).toNatClampNeg) (xs (u4 + 2).toNatClampNeg)) fun q163 => zt_lt q163.1 fun v161 => zt_lt q163.2 fun σ162 =>
                              zt_bd (f_X9_thrown σ162) fun v164 =>
                              if v164 = v157 then
                                if v157 = 0 then
                                  if (lg_cmp ((σ162 122 0) : Int32).toInt64 (v161 : Int32).toInt64) = 0 then
                                    f_L_law_1084 xs L rc23 σ162 u4
                                  else
                                    some 0
                                else
                                  f_L_law_1084 xs L rc23 σ162 u4
                              else
                                some 0
                            else
                              if ((xs u4.toNatClampNeg) &&& 31) = 13 then
                                zt_gd (zt_gI (u4 + 1) L) <|
                                zt_gd (zt_gI (u4 + 2) L) <|
                                zt_bd (f_L_resolveAnew σ (xs (u4 + 1).toNatClampNeg) (xs (u4 + 2).toNatClampNeg)) fun qv172 => zt_lt qv172.1 fun v172 => zt_lt qv172.2 fun σ173 =>
                                zt_gd (zt_gI (u4 + 1) L) <|
                                zt_gd (zt_gI (u4 + 2) L) <|
                                zt_bd (f_X9_resolveAnew σ173 (xs (u4 + 1).toNatClampNeg) (xs (u4 + 2).toNatClampNeg)) fun q178 => zt_lt q178.1 fun v176 => zt_lt q178.2 fun σ177 =>
                                zt_bd (f_X9_thrown σ177) fun v179 =>
                                if v179 = v172 then
                                  if v172 = 0 then
                                    if (lg_cmp ((σ177 122 0) : Int32).toInt64 (v176 : Int32).toInt64) = 0 then
                                      f_L_law_1152 xs L rc23 σ177 u4
                                    else
                                      some 0
                                  else
                                    f_L_law_1152 xs L rc23 σ177 u4
                                else
                                  some 0
                              else
                                if ((xs u4.toNatClampNeg) &&& 31) = 14 then
                                  zt_bd (f_X8_forget σ) fun q187 => zt_lt q187.1 fun v185 => zt_lt q187.2 fun σ186 =>
                                  zt_bd (f_X9_forget σ186) fun q190 => zt_lt q190.1 fun v188 => zt_lt q190.2 fun σ189 =>
                                  if v185 = v188 then
                                    f_L_law_1488 xs L rc23 σ189 u4
                                  else
                                    some 0
                                else
                                  if ((xs u4.toNatClampNeg) &&& 31) = 15 then
                                    zt_gd (zt_gI (u4 + 1) L) <|
                                    zt_bd (f_L_pass σ (xs (u4 + 1).toNatClampNeg)) fun qv194 => zt_lt qv194.1 fun v194 => zt_lt qv194.2 fun σ195 =>
                                    zt_gd (zt_gI (u4 + 1) L) <|
                                    zt_bd (f_X9_pass σ195 (xs (u4 + 1).toNatClampNeg)) fun q199 => zt_lt q199.1 fun v197 => zt_lt q199.2 fun σ198 =>
                                    zt_bd (f_X9_thrown σ198) fun v200 =>
                                    if v200 = v194 then
                                      if v194 = 0 then
                                        if (lg_cmp ((σ198 122 0) : Int32).toInt64 (v197 : Int32).toInt64) = 0 then
                                          f_L_law_1221 xs L rc23 σ198 u4
                                        else
                                          some 0
                                      else
                                        f_L_law_1221 xs L rc23 σ198 u4
                                    else
                                      some 0
                                  else
                                    if ((xs u4.toNatClampNeg) &&& 31) = 16 then
                                      zt_gd (zt_gI (u4 + 1) L) <|
                                      zt_gd (zt_gI (u4 + 2) L) <|
                                      zt_gd (zt_gI (u4 + 3) L) <|
                                      zt_bd (f_L_setKey σ (xs (u4 + 1).toNatClampNeg) (xs (u4 + 2).toNatClampNeg) (xs (u4 + 3).toNatClampNeg)) fun qv209 => zt_lt qv209.1 fun v209 => zt_lt qv209.2 fun σ210 =>
                                      zt_gd (zt_gI (u4 + 1) L) <|
                                      zt_gd (zt_gI (u4 + 2) L) <|
                                      zt_gd (zt_gI (u4 + 3) L) <|
                                      zt_bd (f_X9_setKey σ210 (xs (u4 + 1).toNatClampNeg) (xs (u4 + 2).toNatClampNeg) (xs (u4 + 3).toNatClampNeg)) fun q216 => zt_lt q216.1 fun v214 => zt_lt q216.2 fun σ215 =>
                                      zt_bd (f_X9_thrown σ215) fun v217 =>
                                      if v217 = v209 then
                                        if v209 = 0 then
                                          if (lg_cmp ((σ215 122 0) : Int32).toInt64 (v214 : Int32).toInt64) = 0 then
                                            f_L_law_1301 xs L rc23 σ215 u4
                                          else
                                            some 0
                                        else
                                          f_L_law_1301 xs L rc23 σ215 u4
                                      else
                                        some 0
                                    else
                                      if ((xs u4.toNatClampNeg) &&& 31) = 17 then
                                        zt_gd (zt_gI (u4 + 1) L) <|
                                        zt_gd (zt_gI (u4 + 2) L) <|
                                        zt_gd (zt_gI (u4 + 3) L) <|
                                        zt_bd (f_L_setWindow σ (xs (u4 + 1).toNatClampNeg) (xs (u4 + 2).toNatClampNeg) (xs (u4 + 3).toNatClampNeg)) fun qv226 => zt_lt qv226.1 fun v226 => zt_lt qv226.2 fun σ227 =>
                                        zt_gd (zt_gI (u4 + 1) L) <|
                                        zt_gd (zt_gI (u4 + 2) L) <|
                                        zt_gd (zt_gI (u4 + 3) L) <|
                                        zt_bd (f_X9_setWindow σ227 (xs (u4 + 1).toNatClampNeg) (xs (u4 + 2).toNatClampNeg) (xs (u4 + 3).toNatClampNeg)) fun σ232 =>
                                        zt_bd (f_X9_thrown σ232) fun v233 =>
                                        if v233 = v226 then
                                          f_L_law_1488 xs L rc23 σ232 u4
                                        else
                                          some 0
                                      else
                                        if ((xs u4.toNatClampNeg) &&& 31) = 18 then
                                          zt_gd (zt_gI (u4 + 1) L) <|
                                          zt_bd (f_L_setAnchor σ (xs (u4 + 1).toNatClampNeg)) fun qv238 => zt_lt qv238.1 fun v238 => zt_lt qv238.2 fun σ239 =>
                                          zt_gd (zt_gI (u4 + 1) L) <|
                                          zt_bd (f_X9_setAnchor σ239 (xs (u4 + 1).toNatClampNeg)) fun q243 => zt_lt q243.1 fun v241 => zt_lt q243.2 fun σ242 =>
                                          zt_bd (f_X9_thrown σ242) fun v244 =>
                                          if v244 = v238 then
                                            if v238 = 0 then
                                              if (lg_cmp ((σ242 122 0) : Int32).toInt64 (v241 : Int32).toInt64) = 0 then
                                                f_L_law_1417 xs L rc23 σ242 u4
                                              else
                                                some 0
                                            else
                                              f_L_law_1417 xs L rc23 σ242 u4
                                          else
                                            some 0
                                        else
                                          if ((xs u4.toNatClampNeg) &&& 31) = 19 then
                                            zt_gd (zt_gI (u4 + 1) L) <|
                                            zt_gd (zt_gI (u4 + 2) L) <|
                                            zt_bd (f_L_trust σ (xs (u4 + 1).toNatClampNeg) (xs (u4 + 2).toNatClampNeg)) fun qv252 => zt_lt qv252.1 fun v252 => zt_lt qv252.2 fun σ253 =>
                                            zt_gd (zt_gI (u4 + 1) L) <|
                                            zt_gd (zt_gI (u4 + 2) L) <|
                                            zt_bd (f_X9_trust σ253 (xs (u4 + 1).toNatClampNeg) (xs (u4 + 2).toNatClampNeg)) fun q258 => zt_lt q258.1 fun v256 => zt_lt q258.2 fun σ257 =>
                                            zt_bd (f_X9_thrown σ257) fun v259 =>
                                            if v259 = v252 then
                                              if v252 = 0 then
                                                if (lg_cmp ((σ257 122 0) : Int32).toInt64 (v256 : Int32).toInt64) = 0 then
                                                  f_L_law_1485 xs L rc23 σ257 u4
                                                else
                                                  some 0
                                              else
                                                f_L_law_1485 xs L rc23 σ257 u4
                                            else
                                              some 0
                                          else
                                            f_L_law_1488 xs L rc23 σ u4
def f_L_law_23 (xs : Nat → Int32) (L : Nat) : Nat → zt_St → Int32 → Option Int32
  | 0, _, _ => none
  | n + 1, σ, u4 => f_L_law_23b xs L (f_L_law_23 xs L n) σ u4
