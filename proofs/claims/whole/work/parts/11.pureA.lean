/-! each method as a function, by program out of its instructions: none where the machine would throw or a loop outlasts its measure -/
def f_X0_tell (σ : zt_St) (k0 : Nat) (x1 : Int32) (x2 : Int32) (x3 : Int32) (x4 : Int32) : Option (zt_St) :=
  zt_lt (zt_st σ k0 0 x1) fun σ1 =>
  zt_lt (zt_st σ1 k0 1 x2) fun σ2 =>
  zt_lt (zt_st σ2 k0 2 x3) fun σ3 =>
  zt_lt (zt_st σ3 k0 3 x4) fun σ4 =>
  some σ4

def f_X0_detail (σ : zt_St) (k0 : Nat) (x1 : Int32) : Option (Int32) :=
  if (σ k0 0) = (-1) then
    some (-1)
  else
    if x1 = 0 then
      some (σ k0 1)
    else
      if x1 = 1 then
        some (σ k0 2)
      else
        if x1 = 2 then
          some (σ k0 3)
        else
          if x1 = 3 then
            some (σ k0 4)
          else
            if (σ k0 5) = 0 then
              some 0
            else
              some 1

def f_X1_tell (σ : zt_St) (x1 : Int32) (x2 : Int32) (x3 : Int32) (x4 : Int32) (x5 : Int32) : Option (Int32 × zt_St) :=
  if (σ 69 5) < 0 then
    some ((σ 69 5), σ)
  else
    if 10 ≤ (σ 69 5) then
      some ((σ 69 5), σ)
    else
      zt_gd (zt_gI (σ 69 5) 10) <|
      zt_lt (zt_st σ 70 (σ 69 5).toNatClampNeg x1) fun σ4 =>
      zt_gd (zt_gI (σ4 69 5) 10) <|
      zt_lt (zt_st σ4 71 (σ4 69 5).toNatClampNeg x2) fun σ6 =>
      zt_gd (zt_gI (σ6 69 5) 10) <|
      zt_lt (zt_st σ6 72 (σ6 69 5).toNatClampNeg x3) fun σ8 =>
      zt_gd (zt_gI (σ8 69 5) 10) <|
      zt_lt (zt_st σ8 73 (σ8 69 5).toNatClampNeg x4) fun σ10 =>
      zt_gd (zt_gI (σ10 69 5) 10) <|
      zt_lt (zt_st σ10 74 (σ10 69 5).toNatClampNeg x5) fun σ12 =>
      zt_lt (zt_st σ12 69 5 ((σ12 69 5) + 1)) fun σ13 =>
      some ((σ13 69 5), σ13)

def f_X4_placeAt (σ : zt_St) (k0 : Nat) (x1 : Int32) : Option (Int32) :=
  if x1 < 0 then
    some (-1)
  else
    if (σ k0 4) ≤ x1 then
      some (-1)
    else
      if (Int32.ofNat (zt_ln (k0 + 1))) ≤ x1 then
        some (-1)
      else
        zt_gd (zt_gI x1 (zt_ln (k0 + 1))) <|
        some (σ (k0 + 1) x1.toNatClampNeg)

def f_X4_sortAt (σ : zt_St) (k0 : Nat) (x1 : Int32) : Option (Int32) :=
  if x1 < 0 then
    some (-1)
  else
    if (σ k0 4) ≤ x1 then
      some (-1)
    else
      if (Int32.ofNat (zt_ln (k0 + 2))) ≤ x1 then
        some (-1)
      else
        zt_gd (zt_gI x1 (zt_ln (k0 + 2))) <|
        some (σ (k0 + 2) x1.toNatClampNeg)

def f_X4_numberAt (σ : zt_St) (k0 : Nat) (x1 : Int32) : Option (Int32) :=
  if x1 < 0 then
    some (-1)
  else
    if (σ k0 4) ≤ x1 then
      some (-1)
    else
      if (Int32.ofNat (zt_ln (k0 + 3))) ≤ x1 then
        some (-1)
      else
        zt_gd (zt_gI x1 (zt_ln (k0 + 3))) <|
        some (σ (k0 + 3) x1.toNatClampNeg)

def f_X4_lifeAt (σ : zt_St) (k0 : Nat) (x1 : Int32) : Option (Int32) :=
  if x1 < 0 then
    some 0
  else
    if (σ k0 4) ≤ x1 then
      some 0
    else
      if (Int32.ofNat (zt_ln (k0 + 4))) ≤ x1 then
        some 0
      else
        zt_gd (zt_gI x1 (zt_ln (k0 + 4))) <|
        some (σ (k0 + 4) x1.toNatClampNeg)

def f_X4_become_18b (k0 : Nat) (k1 : Nat) (rc18 : zt_St → Int32 → Option (zt_St)) (σ : zt_St) (u2 : Int32) : Option (zt_St) :=
  if (σ k0 4) ≤ u2 then
    some σ
  else
    zt_bd (f_X4_placeAt σ k1 u2) fun v3 =>
    zt_gd (zt_gI u2 (zt_ln (k0 + 1))) <|
    zt_lt (zt_st σ (k0 + 1) u2.toNatClampNeg v3) fun σ6 =>
    zt_bd (f_X4_sortAt σ6 k1 u2) fun v7 =>
    zt_gd (zt_gI u2 (zt_ln (k0 + 2))) <|
    zt_lt (zt_st σ6 (k0 + 2) u2.toNatClampNeg v7) fun σ10 =>
    zt_bd (f_X4_numberAt σ10 k1 u2) fun v11 =>
    zt_gd (zt_gI u2 (zt_ln (k0 + 3))) <|
    zt_lt (zt_st σ10 (k0 + 3) u2.toNatClampNeg v11) fun σ14 =>
    zt_bd (f_X4_lifeAt σ14 k1 u2) fun v15 =>
    zt_gd (zt_gI u2 (zt_ln (k0 + 4))) <|
    zt_lt (zt_st σ14 (k0 + 4) u2.toNatClampNeg v15) fun σ18 =>
    rc18 σ18 (u2 + 1)
def f_X4_become_18 (k0 : Nat) (k1 : Nat) : Nat → zt_St → Int32 → Option (zt_St)
  | 0, _, _ => none
  | n + 1, σ, u2 => f_X4_become_18b k0 k1 (f_X4_become_18 k0 k1 n) σ u2
def f_X4_become (σ : zt_St) (k0 : Nat) (k1 : Nat) : Option (zt_St) :=
  zt_lt (zt_st σ k0 4 (if (Int32.ofNat (zt_ln (k0 + 1))) < (σ k1 4) then (Int32.ofNat (zt_ln (k0 + 1))) else (σ k1 4))) fun σ1 =>
  f_X4_become_18 k0 k1 zt_FU σ1 0

def f_X4_rowOf_41 (σ : zt_St) (k0 : Nat) (rc2 : Int32 → Int32 → Int32 → Option (Int32)) (u1 : Int32) (u2 : Int32) (u3 : Int32) : Option (Int32) :=
  rc2 u1 u2 (u3 + 1)
def f_X4_rowOf_2b (σ : zt_St) (k0 : Nat) (rc2 : Int32 → Int32 → Int32 → Option (Int32)) (u1 : Int32) (u2 : Int32) (u3 : Int32) : Option (Int32) :=
  if (σ k0 4) ≤ u3 then
    some (-1)
  else
    if (Int32.ofNat (zt_ln (k0 + 1))) ≤ u3 then
      some (-1)
    else
      zt_gd (zt_gI u3 (zt_ln (k0 + 1))) <|
      if (σ (k0 + 1) u3.toNatClampNeg) = u1 then
        zt_gd (zt_gI u3 (zt_ln (k0 + 2))) <|
        if (σ (k0 + 2) u3.toNatClampNeg) = u2 then
          some u3
        else
          f_X4_rowOf_41 σ k0 rc2 u1 u2 u3
      else
        f_X4_rowOf_41 σ k0 rc2 u1 u2 u3
def f_X4_rowOf_2 (σ : zt_St) (k0 : Nat) : Nat → Int32 → Int32 → Int32 → Option (Int32)
  | 0, _, _, _ => none
  | n + 1, u1, u2, u3 => f_X4_rowOf_2b σ k0 (f_X4_rowOf_2 σ k0 n) u1 u2 u3
def f_X4_rowOf (σ : zt_St) (k0 : Nat) (x1 : Int32) (x2 : Int32) : Option (Int32) :=
  f_X4_rowOf_2 σ k0 zt_FU x1 x2 0

def f_X1_areMet_74 (σ : zt_St) (k1 : Nat) (rc2 : Int32 → Option (Int32)) (u2 : Int32) : Option (Int32) :=
  rc2 (u2 + 1)
def f_X1_areMet_58 (σ : zt_St) (k1 : Nat) (rc2 : Int32 → Option (Int32)) (u2 : Int32) (u3 : Int32) : Option (Int32) :=
  zt_gd (zt_gI u2 10) <|
  if (σ 70 u2.toNatClampNeg) = 1 then
    if u3 = 0 then
      f_X1_areMet_74 σ k1 rc2 u2
    else
      some 0
  else
    f_X1_areMet_74 σ k1 rc2 u2
def f_X1_areMet_44 (σ : zt_St) (k1 : Nat) (rc2 : Int32 → Option (Int32)) (y0 : Int32) (u2 : Int32) : Option (Int32) :=
  zt_gd (zt_gI u2 10) <|
  if (σ 70 u2.toNatClampNeg) = 0 then
    if y0 = 0 then
      some 0
    else
      f_X1_areMet_58 σ k1 rc2 u2 y0
  else
    f_X1_areMet_58 σ k1 rc2 u2 y0
def f_X1_areMet_2b (σ : zt_St) (k1 : Nat) (rc2 : Int32 → Option (Int32)) (u2 : Int32) : Option (Int32) :=
  if (σ 69 5) ≤ u2 then
    some 1
  else
    if 10 ≤ u2 then
      some 1
    else
      zt_gd (zt_gI u2 10) <|
      zt_gd (zt_gI u2 10) <|
      zt_bd (f_X4_rowOf σ k1 (σ 71 u2.toNatClampNeg) (σ 72 u2.toNatClampNeg)) fun v5 =>
      if v5 = (-1) then
        f_X1_areMet_44 σ k1 rc2 0 u2
      else
        f_X1_areMet_44 σ k1 rc2 1 u2
def f_X1_areMet_2 (σ : zt_St) (k1 : Nat) : Nat → Int32 → Option (Int32)
  | 0, _ => none
  | n + 1, u2 => f_X1_areMet_2b σ k1 (f_X1_areMet_2 σ k1 n) u2
def f_X1_areMet (σ : zt_St) (k1 : Nat) : Option (Int32) :=
  f_X1_areMet_2 σ k1 zt_FU 0

def f_X4_set_42 (k0 : Nat) (σ : zt_St) (u1 : Int32) (u2 : Int32) (u3 : Int32) (u4 : Int32) (u5 : Int32) : Option (zt_St) :=
  if u5 < 0 then
    some σ
  else
    if (Int32.ofNat (zt_ln (k0 + 1))) ≤ u5 then
      some σ
    else
      zt_gd (zt_gI u5 (zt_ln (k0 + 1))) <|
      zt_lt (zt_st σ (k0 + 1) u5.toNatClampNeg u1) fun σ9 =>
      zt_gd (zt_gI u5 (zt_ln (k0 + 2))) <|
      zt_lt (zt_st σ9 (k0 + 2) u5.toNatClampNeg u2) fun σ11 =>
      zt_gd (zt_gI u5 (zt_ln (k0 + 3))) <|
      zt_lt (zt_st σ11 (k0 + 3) u5.toNatClampNeg u3) fun σ13 =>
      zt_gd (zt_gI u5 (zt_ln (k0 + 4))) <|
      zt_lt (zt_st σ13 (k0 + 4) u5.toNatClampNeg u4) fun σ15 =>
      some σ15
def f_X4_set (σ : zt_St) (k0 : Nat) (x1 : Int32) (x2 : Int32) (x3 : Int32) (x4 : Int32) : Option (zt_St) :=
  zt_bd (f_X4_rowOf σ k0 x1 x2) fun v1 =>
  if v1 = (-1) then
    if (Int32.ofNat (zt_ln (k0 + 1))) ≤ (σ k0 4) then
      f_X4_set_42 k0 σ x1 x2 x3 x4 v1
    else
      zt_lt (zt_st σ k0 4 ((σ k0 4) + 1)) fun σ5 =>
      f_X4_set_42 k0 σ5 x1 x2 x3 x4 (σ k0 4)
  else
    f_X4_set_42 k0 σ x1 x2 x3 x4 v1

def f_X4_remove (σ : zt_St) (k0 : Nat) (x1 : Int32) (x2 : Int32) : Option (Int32 × zt_St) :=
  zt_bd (f_X4_rowOf σ k0 x1 x2) fun v1 =>
  if v1 < 0 then
    some (0, σ)
  else
    if v1 < (Int32.ofNat (zt_ln (k0 + 1))) then
      zt_bd (f_X4_placeAt σ k0 ((σ k0 4) - 1)) fun v5 =>
      zt_gd (zt_gI v1 (zt_ln (k0 + 1))) <|
      zt_lt (zt_st σ (k0 + 1) v1.toNatClampNeg v5) fun σ8 =>
      zt_bd (f_X4_sortAt σ8 k0 ((σ k0 4) - 1)) fun v9 =>
      zt_gd (zt_gI v1 (zt_ln (k0 + 2))) <|
      zt_lt (zt_st σ8 (k0 + 2) v1.toNatClampNeg v9) fun σ12 =>
      zt_bd (f_X4_numberAt σ12 k0 ((σ k0 4) - 1)) fun v13 =>
      zt_gd (zt_gI v1 (zt_ln (k0 + 3))) <|
      zt_lt (zt_st σ12 (k0 + 3) v1.toNatClampNeg v13) fun σ16 =>
      zt_bd (f_X4_lifeAt σ16 k0 ((σ k0 4) - 1)) fun v17 =>
      zt_gd (zt_gI v1 (zt_ln (k0 + 4))) <|
      zt_lt (zt_st σ16 (k0 + 4) v1.toNatClampNeg v17) fun σ20 =>
      zt_lt (zt_st σ20 k0 4 ((σ k0 4) - 1)) fun σ21 =>
      some (1, σ21)
    else
      some (0, σ)

def f_X1_areMade_94 (rc2 : zt_St → Int32 → Option (Int32 × zt_St)) (σ : zt_St) (u1 : Int32) : Option (Int32 × zt_St) :=
  rc2 σ (u1 + 1)
def f_X1_areMade_60 (rc2 : zt_St → Int32 → Option (Int32 × zt_St)) (σ : zt_St) (u1 : Int32) : Option (Int32 × zt_St) :=
  zt_gd (zt_gI u1 10) <|
  if (σ 70 u1.toNatClampNeg) = 3 then
    zt_gd (zt_gI u1 10) <|
    zt_gd (zt_gI u1 10) <|
    zt_bd (f_X4_remove σ 75 (σ 71 u1.toNatClampNeg) (σ 72 u1.toNatClampNeg)) fun q17 => zt_lt q17.1 fun v15 => zt_lt q17.2 fun σ16 =>
    if v15 = 0 then
      some (0, σ16)
    else
      f_X1_areMade_94 rc2 σ16 u1
  else
    f_X1_areMade_94 rc2 σ u1
def f_X1_areMade_2b (rc2 : zt_St → Int32 → Option (Int32 × zt_St)) (σ : zt_St) (u1 : Int32) : Option (Int32 × zt_St) :=
  if (σ 69 5) ≤ u1 then
    some (1, σ)
  else
    if 10 ≤ u1 then
      some (1, σ)
    else
      zt_gd (zt_gI u1 10) <|
      if (σ 70 u1.toNatClampNeg) = 2 then
        zt_gd (zt_gI u1 10) <|
        zt_gd (zt_gI u1 10) <|
        zt_gd (zt_gI u1 10) <|
        zt_gd (zt_gI u1 10) <|
        zt_bd (f_X4_set σ 75 (σ 71 u1.toNatClampNeg) (σ 72 u1.toNatClampNeg) (σ 73 u1.toNatClampNeg) (σ 74 u1.toNatClampNeg)) fun σ10 =>
        f_X1_areMade_60 rc2 σ10 u1
      else
        f_X1_areMade_60 rc2 σ u1
def f_X1_areMade_2 : Nat → zt_St → Int32 → Option (Int32 × zt_St)
  | 0, _, _ => none
  | n + 1, σ, u1 => f_X1_areMade_2b (f_X1_areMade_2 n) σ u1
def f_X1_areMade (σ : zt_St) : Option (Int32 × zt_St) :=
  f_X1_areMade_2 zt_FU σ 0

def f_X3_nameOf (x0 : Int32) : Option (Int32) :=
  if (x0 - x0 / 10 * 10) = 0 then
    some (x0 / 10)
  else
    some x0

def f_X3_isUnder_25 (u1 : Int32) (u2 : Int32) : Option (Int32) :=
  if u2 = u1 then
    some 1
  else
    some 0
def f_X3_isUnder_4b (rc4 : Int32 → Int32 → Int32 → Option (Int32)) (u1 : Int32) (u2 : Int32) (u3 : Int32) : Option (Int32) :=
  if 4 ≤ u3 then
    f_X3_isUnder_25 u1 u2
  else
    if u2 ≤ u1 then
      f_X3_isUnder_25 u1 u2
    else
      rc4 u1 (u2 / 10) (u3 + 1)
def f_X3_isUnder_4 : Nat → Int32 → Int32 → Int32 → Option (Int32)
  | 0, _, _, _ => none
  | n + 1, u1, u2, u3 => f_X3_isUnder_4b (f_X3_isUnder_4 n) u1 u2 u3
def f_X3_isUnder (x0 : Int32) (x1 : Int32) : Option (Int32) :=
  f_X3_isUnder_4 zt_FU x1 x0 0

def f_X4_countAt_34 (σ : zt_St) (k0 : Nat) (rc4 : Int32 → Int32 → Int32 → Option (Int32)) (u1 : Int32) (u2 : Int32) (u3 : Int32) : Option (Int32) :=
  rc4 u1 u2 (u3 + 1)
def f_X4_countAt_4b (σ : zt_St) (k0 : Nat) (rc4 : Int32 → Int32 → Int32 → Option (Int32)) (u1 : Int32) (u2 : Int32) (u3 : Int32) : Option (Int32) :=
  if (σ k0 4) ≤ u3 then
    some u2
  else
    if (Int32.ofNat (zt_ln (k0 + 1))) ≤ u3 then
      some u2
    else
      zt_gd (zt_gI u3 (zt_ln (k0 + 1))) <|
      if (σ (k0 + 1) u3.toNatClampNeg) = u1 then
        f_X4_countAt_34 σ k0 rc4 u1 (u2 + 1) u3
      else
        f_X4_countAt_34 σ k0 rc4 u1 u2 u3
def f_X4_countAt_4 (σ : zt_St) (k0 : Nat) : Nat → Int32 → Int32 → Int32 → Option (Int32)
  | 0, _, _, _ => none
  | n + 1, u1, u2, u3 => f_X4_countAt_4b σ k0 (f_X4_countAt_4 σ k0 n) u1 u2 u3
def f_X4_countAt (σ : zt_St) (k0 : Nat) (x1 : Int32) : Option (Int32) :=
  f_X4_countAt_4 σ k0 zt_FU x1 0 0

def f_X3_isName_17b (rc17 : Int32 → Int32 → Option (Int32)) (u1 : Int32) (u2 : Int32) : Option (Int32) :=
  if 4 ≤ u2 then
    some 1
  else
    if u1 ≤ 0 then
      some 1
    else
      if (u1 - u1 / 10 * 10) = 0 then
        some 0
      else
        rc17 (u1 / 10) (u2 + 1)
def f_X3_isName_17 : Nat → Int32 → Int32 → Option (Int32)
  | 0, _, _ => none
  | n + 1, u1, u2 => f_X3_isName_17b (f_X3_isName_17 n) u1 u2
def f_X3_isName (x0 : Int32) : Option (Int32) :=
  if x0 < 0 then
    some 0
  else
    if x0 ≤ 9999 then
      f_X3_isName_17 zt_FU x0 0
    else
      some 0

def f_X3_isStar (x0 : Int32) : Option (Int32) :=
  if x0 < 10 then
    some 0
  else
    if (x0 - x0 / 10 * 10) = 0 then
      zt_bd (f_X3_isName (x0 / 10)) fun v3 =>
      if v3 = 0 then
        some 0
      else
        if 9990 < x0 then
          some 0
        else
          some 1
    else
      some 0

def f_X4_isAnyElseUnder_47 (σ : zt_St) (k0 : Nat) (rc2 : Int32 → Int32 → Option (Int32)) (u1 : Int32) (u2 : Int32) : Option (Int32) :=
  rc2 u1 (u2 + 1)
def f_X4_isAnyElseUnder_2b (σ : zt_St) (k0 : Nat) (rc2 : Int32 → Int32 → Option (Int32)) (u1 : Int32) (u2 : Int32) : Option (Int32) :=
  if (σ k0 4) ≤ u2 then
    some 0
  else
    if (Int32.ofNat (zt_ln (k0 + 1))) ≤ u2 then
      some 0
    else
      zt_gd (zt_gI u2 (zt_ln (k0 + 1))) <|
      if (σ (k0 + 1) u2.toNatClampNeg) = u1 then
        f_X4_isAnyElseUnder_47 σ k0 rc2 u1 u2
      else
        zt_gd (zt_gI u2 (zt_ln (k0 + 1))) <|
        zt_bd (f_X3_nameOf (σ (k0 + 1) u2.toNatClampNeg)) fun v6 =>
        zt_bd (f_X3_isUnder v6 u1) fun v8 =>
        if v8 = 0 then
          f_X4_isAnyElseUnder_47 σ k0 rc2 u1 u2
        else
          some 1
def f_X4_isAnyElseUnder_2 (σ : zt_St) (k0 : Nat) : Nat → Int32 → Int32 → Option (Int32)
  | 0, _, _ => none
  | n + 1, u1, u2 => f_X4_isAnyElseUnder_2b σ k0 (f_X4_isAnyElseUnder_2 σ k0 n) u1 u2
def f_X4_isAnyElseUnder (σ : zt_St) (k0 : Nat) (x1 : Int32) : Option (Int32) :=
  f_X4_isAnyElseUnder_2 σ k0 zt_FU x1 0

def f_X7_at_30 (σ : zt_St) : Option (Nat) :=
  zt_gd (zt_gI 0 6) <|
  zt_gd (decide (zt_kd (3 + 11 * (0 : Int32).toNatClampNeg) = 5)) <|
  some (3 + 11 * (0 : Int32).toNatClampNeg)
def f_X7_at (σ : zt_St) (x1 : Int32) : Option (Nat) :=
  if x1 < 0 then
    f_X7_at_30 σ
  else
    if (σ 1 1) ≤ x1 then
      f_X7_at_30 σ
    else
      if 6 ≤ x1 then
        f_X7_at_30 σ
      else
        zt_gd (zt_gI x1 6) <|
        zt_gd (decide (zt_kd (3 + 11 * x1.toNatClampNeg) = 5)) <|
        some (3 + 11 * x1.toNatClampNeg)

def f_X7_isAt (σ : zt_St) (x1 : Int32) (x2 : Int32) : Option (Int32) :=
  if x1 < 0 then
    some 0
  else
    if (σ 1 1) ≤ x1 then
      some 0
    else
      zt_bd (f_X7_at σ x1) fun z5 => zt_gd (decide (zt_kd z5 = 5)) <|
      if (σ z5 0) = x2 then
        some 1
      else
        some 0

def f_X6_isRowFit (σ : zt_St) (k0 : Nat) (k1 : Nat) (x2 : Int32) : Option (Int32) :=
  zt_bd (f_X4_placeAt σ k1 x2) fun v1 =>
  zt_bd (f_X4_sortAt σ k1 x2) fun v3 =>
  zt_bd (f_X3_nameOf v1) fun v5 =>
  zt_bd (f_X3_isUnder v5 (σ k0 0)) fun v7 =>
  if v7 = 0 then
    some 0
  else
    if v3 = 1 then
      zt_bd (f_X4_countAt σ k1 v1) fun v11 =>
      if v11 = 1 then
        some 1
      else
        some 0
    else
      if v3 = 2 then
        zt_bd (f_X3_isStar v1) fun v15 =>
        if v15 = 0 then
          zt_bd (f_X4_isAnyElseUnder σ k1 v1) fun v18 =>
          if v18 = 0 then
            some 1
          else
            some 0
        else
          some 0
      else
        if v3 = 3 then
          if v1 = (σ k0 0) then
            some 0
          else
            zt_bd (f_X4_numberAt σ k1 x2) fun v23 =>
            zt_bd (f_X7_isAt σ v23 v1) fun v25 =>
            if v25 = 0 then
              some 0
            else
              some 1
        else
          if v3 = 4 then
            zt_bd (f_X4_rowOf σ k1 v1 3) fun v29 =>
            if v29 = (-1) then
              some 0
            else
              some 1
          else
            some 1

def f_X6_isFit_18b (σ : zt_St) (k0 : Nat) (k1 : Nat) (rc18 : Int32 → Int32 → Option (Int32)) (u3 : Int32) (u4 : Int32) : Option (Int32) :=
  if (σ k1 4) ≤ u4 then
    zt_gd (u3 == 0 || u3 == 1) <|
    some u3
  else
    if u3 = 0 then
      zt_gd (u3 == 0 || u3 == 1) <|
      some u3
    else
      zt_bd (f_X6_isRowFit σ k0 k1 u4) fun v6 =>
      rc18 v6 (u4 + 1)
def f_X6_isFit_18 (σ : zt_St) (k0 : Nat) (k1 : Nat) : Nat → Int32 → Int32 → Option (Int32)
  | 0, _, _ => none
  | n + 1, u3, u4 => f_X6_isFit_18b σ k0 k1 (f_X6_isFit_18 σ k0 k1 n) u3 u4
def f_X6_isFit_14 (σ : zt_St) (k0 : Nat) (k1 : Nat) (y0 : Int32) : Option (Int32) :=
  f_X6_isFit_18 σ k0 k1 zt_FU y0 0
def f_X6_isFit (σ : zt_St) (k0 : Nat) (k1 : Nat) : Option (Int32) :=
  if 20 < (σ k1 4) then
    f_X6_isFit_14 σ k0 k1 0
  else
    f_X6_isFit_14 σ k0 k1 1

def f_X6_take_30 (k0 : Nat) (k1 : Nat) (σ : zt_St) (y0 : Int32) : Option (zt_St) :=
  zt_lt (zt_st σ k0 2 y0) fun σ4 =>
  some σ4
def f_X6_take (σ : zt_St) (k0 : Nat) (k1 : Nat) : Option (zt_St) :=
  zt_bd (f_X4_become σ (k0 + 1) k1) fun σ2 =>
  if 16 ≤ ((σ2 k0 2) + 1) then
    f_X6_take_30 k0 k1 σ2 0
  else
    f_X6_take_30 k0 k1 σ2 ((σ2 k0 2) + 1)

def f_X1_doTo_59 (k1 : Nat) (σ : zt_St) (u3 : Int32) : Option (Int32 × zt_St) :=
  zt_lt (zt_st σ 69 5 0) fun σ16 =>
  zt_gd (u3 == 0 || u3 == 1) <|
  some (u3, σ16)
def f_X1_doTo_46 (k1 : Nat) (σ : zt_St) (y0 : Int32) : Option (Int32 × zt_St) :=
  if y0 = 0 then
    f_X1_doTo_59 k1 σ y0
  else
    zt_bd (f_X6_take σ k1 75) fun σ15 =>
    f_X1_doTo_59 k1 σ15 y0
def f_X1_doTo_45 (k1 : Nat) (σ : zt_St) : Option (Int32 × zt_St) :=
  f_X1_doTo_46 k1 σ 0
def f_X1_doTo (σ : zt_St) (k1 : Nat) : Option (Int32 × zt_St) :=
  zt_bd (f_X4_become σ 75 (k1 + 1)) fun σ2 =>
  zt_bd (f_X1_areMet σ2 (k1 + 1)) fun v3 =>
  if v3 = 0 then
    f_X1_doTo_45 k1 σ2
  else
    zt_bd (f_X1_areMade σ2) fun q8 => zt_lt q8.1 fun v6 => zt_lt q8.2 fun σ7 =>
    if v6 = 0 then
      f_X1_doTo_45 k1 σ7
    else
      zt_bd (f_X6_isFit σ7 k1 75) fun v10 =>
      if v10 = 0 then
        f_X1_doTo_45 k1 σ7
      else
        f_X1_doTo_46 k1 σ7 1

def f_X2_isRow (σ : zt_St) (x1 : Int32) : Option (Int32) :=
  if x1 < 0 then
    some 0
  else
    if (σ 81 8) ≤ x1 then
      some 0
    else
      if 40 ≤ x1 then
        some 0
      else
        some 1

def f_X2_rowOf_41 (σ : zt_St) (rc2 : Int32 → Int32 → Int32 → Option (Int32)) (u1 : Int32) (u2 : Int32) (u3 : Int32) : Option (Int32) :=
  rc2 u1 u2 (u3 + 1)
def f_X2_rowOf_2b (σ : zt_St) (rc2 : Int32 → Int32 → Int32 → Option (Int32)) (u1 : Int32) (u2 : Int32) (u3 : Int32) : Option (Int32) :=
  if (σ 81 8) ≤ u3 then
    some (-1)
  else
    if 40 ≤ u3 then
      some (-1)
    else
      zt_gd (zt_gI u3 40) <|
      if (σ 82 u3.toNatClampNeg) = u1 then
        zt_gd (zt_gI u3 40) <|
        if (σ 83 u3.toNatClampNeg) = u2 then
          some u3
        else
          f_X2_rowOf_41 σ rc2 u1 u2 u3
      else
        f_X2_rowOf_41 σ rc2 u1 u2 u3
def f_X2_rowOf_2 (σ : zt_St) : Nat → Int32 → Int32 → Int32 → Option (Int32)
  | 0, _, _, _ => none
  | n + 1, u1, u2, u3 => f_X2_rowOf_2b σ (f_X2_rowOf_2 σ n) u1 u2 u3
def f_X2_rowOf (σ : zt_St) (x1 : Int32) (x2 : Int32) : Option (Int32) :=
  f_X2_rowOf_2 σ zt_FU x1 x2 0

def f_X2_isHolding (σ : zt_St) (x1 : Int32) (x2 : Int32) : Option (Int32) :=
  zt_bd (f_X2_isRow σ x1) fun v1 =>
  if v1 = 0 then
    some 0
  else
    zt_gd (zt_gI x1 40) <|
    zt_gd (zt_gI x1 40) <|
    if ((σ 88 x1.toNatClampNeg) + (σ 87 x1.toNatClampNeg)) ≤ x2 then
      some 0
    else
      some 1

def f_X2_isUsableAsOld (σ : zt_St) (x1 : Int32) (x2 : Int32) : Option (Int32) :=
  zt_bd (f_X2_isRow σ x1) fun v1 =>
  if v1 = 0 then
    some 0
  else
    zt_gd (zt_gI x1 40) <|
    if 60 ≤ (x2 - (σ 88 x1.toNatClampNeg)) then
      some 0
    else
      some 1

def f_X2_read (σ : zt_St) (x1 : Int32) (x2 : Int32) (k3 : Nat) : Option (zt_St) :=
  zt_bd (f_X2_isRow σ x1) fun v1 =>
  if v1 = 0 then
    some σ
  else
    zt_gd (zt_gI x1 40) <|
    zt_gd (zt_gI x1 40) <|
    zt_gd (zt_gI x1 40) <|
    zt_gd (zt_gI x1 40) <|
    zt_gd (zt_gI x1 40) <|
    zt_bd (f_X0_tell σ k3 (σ 84 x1.toNatClampNeg) (σ 85 x1.toNatClampNeg) (σ 86 x1.toNatClampNeg) (((σ 88 x1.toNatClampNeg) + (σ 87 x1.toNatClampNeg)) - x2)) fun σ10 =>
    some σ10

def f_X2_rowToKeepIn_99 (rc55 : zt_St → Int32 → Int32 → Int32 → Option (Int32 × zt_St)) (σ : zt_St) (u4 : Int32) (u5 : Int32) (u6 : Int32) : Option (Int32 × zt_St) :=
  rc55 σ u4 u5 (u6 + 1)
def f_X2_rowToKeepIn_55b (rc55 : zt_St → Int32 → Int32 → Int32 → Option (Int32 × zt_St)) (σ : zt_St) (u4 : Int32) (u5 : Int32) (u6 : Int32) : Option (Int32 × zt_St) :=
  if (σ 81 8) ≤ u6 then
    some (u4, σ)
  else
    if 40 ≤ u6 then
      some (u4, σ)
    else
      zt_gd (zt_gI u6 40) <|
      if u5 ≤ (σ 89 u6.toNatClampNeg) then
        f_X2_rowToKeepIn_99 rc55 σ u4 u5 u6
      else
        zt_gd (zt_gI u6 40) <|
        f_X2_rowToKeepIn_99 rc55 σ u6 (σ 89 u6.toNatClampNeg) u6
def f_X2_rowToKeepIn_55 : Nat → zt_St → Int32 → Int32 → Int32 → Option (Int32 × zt_St)
  | 0, _, _, _, _ => none
  | n + 1, σ, u4, u5, u6 => f_X2_rowToKeepIn_55b (f_X2_rowToKeepIn_55 n) σ u4 u5 u6
def f_X2_rowToKeepIn (σ : zt_St) (x1 : Int32) (x2 : Int32) : Option (Int32 × zt_St) :=
  zt_bd (f_X2_rowOf σ x1 x2) fun v1 =>
  if v1 = (-1) then
    if 40 ≤ (σ 81 8) then
      f_X2_rowToKeepIn_55 zt_FU σ (-1) (σ 81 9) 0
    else
      zt_lt (zt_st σ 81 8 ((σ 81 8) + 1)) fun σ5 =>
      some (((σ5 81 8) - 1), σ5)
  else
    some (v1, σ)

def f_X2_keepAnswer (σ : zt_St) (x1 : Int32) (x2 : Int32) (k3 : Nat) (x4 : Int32) : Option (zt_St) :=
  zt_bd (f_X2_rowToKeepIn σ x1 x2) fun q3 => zt_lt q3.1 fun v1 => zt_lt q3.2 fun σ2 =>
  zt_bd (f_X2_isRow σ2 v1) fun v4 =>
  if v4 = 0 then
    some σ2
  else
    zt_gd (zt_gI v1 40) <|
    zt_lt (zt_st σ2 82 v1.toNatClampNeg x1) fun σ8 =>
    zt_gd (zt_gI v1 40) <|
    zt_lt (zt_st σ8 83 v1.toNatClampNeg x2) fun σ10 =>
    zt_gd (zt_gI v1 40) <|
    zt_lt (zt_st σ10 84 v1.toNatClampNeg (σ10 k3 0)) fun σ12 =>
    zt_gd (zt_gI v1 40) <|
    zt_lt (zt_st σ12 85 v1.toNatClampNeg (σ12 k3 1)) fun σ14 =>
    zt_gd (zt_gI v1 40) <|
    zt_lt (zt_st σ14 86 v1.toNatClampNeg (σ14 k3 2)) fun σ16 =>
    zt_gd (zt_gI v1 40) <|
    zt_lt (zt_st σ16 87 v1.toNatClampNeg (σ16 k3 3)) fun σ18 =>
    zt_gd (zt_gI v1 40) <|
    zt_lt (zt_st σ18 88 v1.toNatClampNeg x4) fun σ20 =>
    zt_gd (zt_gI v1 40) <|
    zt_lt (zt_st σ20 89 v1.toNatClampNeg (σ20 81 9)) fun σ22 =>
    zt_lt (zt_st σ22 81 9 ((σ22 81 9) + 1)) fun σ23 =>
    some σ23

def f_X2_keepZone (σ : zt_St) (x1 : Int32) (x2 : Int32) (x3 : Int32) : Option (zt_St) :=
  if x1 < 0 then
    some σ
  else
    if 6 ≤ x1 then
      some σ
    else
      zt_gd (zt_gI x1 6) <|
      zt_lt (zt_st σ 90 x1.toNatClampNeg (x3 + x2)) fun σ4 =>
      some σ4

def f_X2_isZoneHolding (σ : zt_St) (x1 : Int32) (x2 : Int32) : Option (Int32) :=
  if x1 < 0 then
    some 0
  else
    if 6 ≤ x1 then
      some 0
    else
      zt_gd (zt_gI x1 6) <|
      if (σ 90 x1.toNatClampNeg) ≤ x2 then
        some 0
      else
        some 1

def f_X2_clear_37b (rc37 : zt_St → Int32 → Int32 → Option (Int32 × zt_St)) (σ : zt_St) (u2 : Int32) (u3 : Int32) : Option (Int32 × zt_St) :=
  if 6 ≤ u3 then
    some (u2, σ)
  else
    zt_gd (zt_gI u3 6) <|
    zt_lt (zt_st σ 90 u3.toNatClampNeg 0) fun σ8 =>
    rc37 σ8 u2 (u3 + 1)
def f_X2_clear_37 : Nat → zt_St → Int32 → Int32 → Option (Int32 × zt_St)
  | 0, _, _, _ => none
  | n + 1, σ, u2, u3 => f_X2_clear_37b (f_X2_clear_37 n) σ u2 u3
def f_X2_clear_24 (rc4 : zt_St → Int32 → Int32 → Int32 → Option (Int32 × zt_St)) (σ : zt_St) (u1 : Int32) (u2 : Int32) (u3 : Int32) : Option (Int32 × zt_St) :=
  rc4 σ u1 u2 (u3 + 1)
def f_X2_clear_4b (rc4 : zt_St → Int32 → Int32 → Int32 → Option (Int32 × zt_St)) (σ : zt_St) (u1 : Int32) (u2 : Int32) (u3 : Int32) : Option (Int32 × zt_St) :=
  if (σ 81 8) ≤ u3 then
    zt_lt (zt_st σ 81 8 0) fun σ2 =>
    f_X2_clear_37 zt_FU σ2 u2 0
  else
    zt_bd (f_X2_isHolding σ u3 u1) fun v3 =>
    if v3 = 0 then
      f_X2_clear_24 rc4 σ u1 u2 u3
    else
      f_X2_clear_24 rc4 σ u1 (u2 + 1) u3
def f_X2_clear_4 : Nat → zt_St → Int32 → Int32 → Int32 → Option (Int32 × zt_St)
  | 0, _, _, _, _ => none
  | n + 1, σ, u1, u2, u3 => f_X2_clear_4b (f_X2_clear_4 n) σ u1 u2 u3
def f_X2_clear (σ : zt_St) (x1 : Int32) : Option (Int32 × zt_St) :=
  f_X2_clear_4 zt_FU σ x1 0 0

def f_X3_isPlace_14 : Option (Int32) :=
  some 1
def f_X3_isPlace (x0 : Int32) : Option (Int32) :=
  zt_bd (f_X3_isName x0) fun v1 =>
  if v1 = 0 then
    zt_bd (f_X3_isStar x0) fun v4 =>
    if v4 = 0 then
      some 0
    else
      f_X3_isPlace_14
  else
    f_X3_isPlace_14

def f_X3_power (x0 : Int32) : Option (Int32) :=
  if x0 < 0 then
    some 1
  else
    if 5 ≤ x0 then
      some 1
    else
      zt_gd (zt_gI x0 5) <|
      some (zt_pw x0.toNatClampNeg)

def f_X3_figures_4b (rc4 : Int32 → Int32 → Int32 → Option (Int32)) (u0 : Int32) (u1 : Int32) (u2 : Int32) : Option (Int32) :=
  if 4 ≤ u2 then
    some u1
  else
    zt_bd (f_X3_power u2) fun v2 =>
    if u0 < v2 then
      some u1
    else
      rc4 u0 (u1 + 1) (u2 + 1)
def f_X3_figures_4 : Nat → Int32 → Int32 → Int32 → Option (Int32)
  | 0, _, _, _ => none
  | n + 1, u0, u1, u2 => f_X3_figures_4b (f_X3_figures_4 n) u0 u1 u2
def f_X3_figures (x0 : Int32) : Option (Int32) :=
  f_X3_figures_4 zt_FU x0 0 0

def f_X3_moved (x0 : Int32) (x1 : Int32) (x2 : Int32) : Option (Int32) :=
  zt_bd (f_X3_figures x0) fun v1 =>
  zt_bd (f_X3_figures x1) fun v3 =>
  zt_bd (f_X3_figures x2) fun v5 =>
  if ((v1 - v3) + v5) ≤ 4 then
    zt_bd (f_X3_power (v1 - v3)) fun v8 =>
    if 1 ≤ v8 then
      zt_gd (!(v8 == 0)) <|
      some ((x2 * v8) + (x0 - x0 / v8 * v8))
    else
      some (-1)
  else
    some (-1)

def f_X3_order_49 (rc9 : Int32 → Int32 → Int32 → Int32 → Option (Int32)) (y0 : Int32) (y1 : Int32) (u0 : Int32) (u1 : Int32) (u3 : Int32) : Option (Int32) :=
  rc9 u0 u1 (y1 + y0) (u3 + 1)
def f_X3_order_48 (rc9 : Int32 → Int32 → Int32 → Int32 → Option (Int32)) (y0 : Int32) (u0 : Int32) (u1 : Int32) (u3 : Int32) : Option (Int32) :=
  f_X3_order_49 rc9 0 y0 u0 u1 u3
def f_X3_order_9b (rc9 : Int32 → Int32 → Int32 → Int32 → Option (Int32)) (u0 : Int32) (u1 : Int32) (u2 : Int32) (u3 : Int32) : Option (Int32) :=
  if 4 < u3 then
    some u2
  else
    zt_bd (f_X3_power (u1 - u3)) fun v4 =>
    if u1 < u3 then
      f_X3_order_48 rc9 (u2 * 11) u0 u1 u3
    else
      if v4 ≤ 0 then
        f_X3_order_48 rc9 (u2 * 11) u0 u1 u3
      else
        zt_gd (!(v4 == 0)) <|
        f_X3_order_49 rc9 (((u0 / v4) - (u0 / v4) / 10 * 10) + 1) (u2 * 11) u0 u1 u3
def f_X3_order_9 : Nat → Int32 → Int32 → Int32 → Int32 → Option (Int32)
  | 0, _, _, _, _ => none
  | n + 1, u0, u1, u2, u3 => f_X3_order_9b (f_X3_order_9 n) u0 u1 u2 u3
def f_X3_order (x0 : Int32) : Option (Int32) :=
  zt_bd (f_X3_figures x0) fun v1 =>
  f_X3_order_9 zt_FU x0 v1 0 1

def f_X4_isThereBy_2b (σ : zt_St) (k0 : Nat) (rc2 : Int32 → Int32 → Int32 → Option (Int32)) (u1 : Int32) (u2 : Int32) (u3 : Int32) : Option (Int32) :=
  if u1 ≤ u3 then
    some 0
  else
    if (Int32.ofNat (zt_ln (k0 + 1))) ≤ u3 then
      some 0
    else
      zt_gd (zt_gI u3 (zt_ln (k0 + 1))) <|
      zt_bd (f_X3_nameOf (σ (k0 + 1) u3.toNatClampNeg)) fun v4 =>
      zt_bd (f_X3_isUnder v4 u2) fun v6 =>
      if v6 = 0 then
        rc2 u1 u2 (u3 + 1)
      else
        some 1
def f_X4_isThereBy_2 (σ : zt_St) (k0 : Nat) : Nat → Int32 → Int32 → Int32 → Option (Int32)
  | 0, _, _, _ => none
  | n + 1, u1, u2, u3 => f_X4_isThereBy_2b σ k0 (f_X4_isThereBy_2 σ k0 n) u1 u2 u3
def f_X4_isThereBy (σ : zt_St) (k0 : Nat) (x1 : Int32) (x2 : Int32) : Option (Int32) :=
  f_X4_isThereBy_2 σ k0 zt_FU x1 x2 0

def f_X4_cutOver_90 (σ : zt_St) (k0 : Nat) (rc7 : Int32 → Int32 → Int32 → Int32 → Option (Int32)) (u1 : Int32) (u2 : Int32) (u3 : Int32) (u4 : Int32) : Option (Int32) :=
  rc7 u1 u2 u3 (u4 + 1)
def f_X4_cutOver_79 (σ : zt_St) (k0 : Nat) (rc7 : Int32 → Int32 → Int32 → Int32 → Option (Int32)) (u1 : Int32) (u4 : Int32) : Option (Int32) :=
  zt_gd (zt_gI u4 (zt_ln (k0 + 1))) <|
  f_X4_cutOver_90 σ k0 rc7 u1 u4 (σ (k0 + 1) u4.toNatClampNeg) u4
def f_X4_cutOver_56 (σ : zt_St) (k0 : Nat) (rc7 : Int32 → Int32 → Int32 → Int32 → Option (Int32)) (y0 : Int32) (u1 : Int32) (u2 : Int32) (u3 : Int32) (u4 : Int32) : Option (Int32) :=
  if y0 = 0 then
    f_X4_cutOver_90 σ k0 rc7 u1 u2 u3 u4
  else
    if u2 = (-1) then
      f_X4_cutOver_79 σ k0 rc7 u1 u4
    else
      zt_gd (zt_gI u4 (zt_ln (k0 + 1))) <|
      if u3 ≤ (σ (k0 + 1) u4.toNatClampNeg) then
        f_X4_cutOver_90 σ k0 rc7 u1 u2 u3 u4
      else
        f_X4_cutOver_79 σ k0 rc7 u1 u4
def f_X4_cutOver_55 (σ : zt_St) (k0 : Nat) (rc7 : Int32 → Int32 → Int32 → Int32 → Option (Int32)) (u1 : Int32) (u2 : Int32) (u3 : Int32) (u4 : Int32) : Option (Int32) :=
  f_X4_cutOver_56 σ k0 rc7 0 u1 u2 u3 u4
def f_X4_cutOver_7b (σ : zt_St) (k0 : Nat) (rc7 : Int32 → Int32 → Int32 → Int32 → Option (Int32)) (u1 : Int32) (u2 : Int32) (u3 : Int32) (u4 : Int32) : Option (Int32) :=
  if (σ k0 4) ≤ u4 then
    some u2
  else
    if (Int32.ofNat (zt_ln (k0 + 1))) ≤ u4 then
      some u2
    else
      zt_gd (zt_gI u4 (zt_ln (k0 + 2))) <|
      if (σ (k0 + 2) u4.toNatClampNeg) = 3 then
        zt_gd (zt_gI u4 (zt_ln (k0 + 1))) <|
        zt_bd (f_X3_isUnder u1 (σ (k0 + 1) u4.toNatClampNeg)) fun v6 =>
        if v6 = 0 then
          f_X4_cutOver_55 σ k0 rc7 u1 u2 u3 u4
        else
          f_X4_cutOver_56 σ k0 rc7 1 u1 u2 u3 u4
      else
        f_X4_cutOver_55 σ k0 rc7 u1 u2 u3 u4
def f_X4_cutOver_7 (σ : zt_St) (k0 : Nat) : Nat → Int32 → Int32 → Int32 → Int32 → Option (Int32)
  | 0, _, _, _, _ => none
  | n + 1, u1, u2, u3, u4 => f_X4_cutOver_7b σ k0 (f_X4_cutOver_7 σ k0 n) u1 u2 u3 u4
def f_X4_cutOver (σ : zt_St) (k0 : Nat) (x1 : Int32) : Option (Int32) :=
  f_X4_cutOver_7 σ k0 zt_FU x1 (-1) (-1) 0

def f_X4_treeOver_54 (σ : zt_St) (k0 : Nat) (rc2 : Int32 → Int32 → Option (Int32)) (u1 : Int32) (u2 : Int32) : Option (Int32) :=
  rc2 u1 (u2 + 1)
def f_X4_treeOver_2b (σ : zt_St) (k0 : Nat) (rc2 : Int32 → Int32 → Option (Int32)) (u1 : Int32) (u2 : Int32) : Option (Int32) :=
  if (σ k0 4) ≤ u2 then
    some (-1)
  else
    if (Int32.ofNat (zt_ln (k0 + 1))) ≤ u2 then
      some (-1)
    else
      zt_gd (zt_gI u2 (zt_ln (k0 + 2))) <|
      if (σ (k0 + 2) u2.toNatClampNeg) = 2 then
        zt_gd (zt_gI u2 (zt_ln (k0 + 1))) <|
        if (σ (k0 + 1) u2.toNatClampNeg) = u1 then
          f_X4_treeOver_54 σ k0 rc2 u1 u2
        else
          zt_gd (zt_gI u2 (zt_ln (k0 + 1))) <|
          zt_bd (f_X3_isUnder u1 (σ (k0 + 1) u2.toNatClampNeg)) fun v8 =>
          if v8 = 0 then
            f_X4_treeOver_54 σ k0 rc2 u1 u2
          else
            some u2
      else
        f_X4_treeOver_54 σ k0 rc2 u1 u2
def f_X4_treeOver_2 (σ : zt_St) (k0 : Nat) : Nat → Int32 → Int32 → Option (Int32)
  | 0, _, _ => none
  | n + 1, u1, u2 => f_X4_treeOver_2b σ k0 (f_X4_treeOver_2 σ k0 n) u1 u2
def f_X4_treeOver (σ : zt_St) (k0 : Nat) (x1 : Int32) : Option (Int32) :=
  f_X4_treeOver_2 σ k0 zt_FU x1 0

def f_X4_isOwn_23 (σ : zt_St) (k0 : Nat) : Option (Int32) :=
  some 1
def f_X4_isOwn (σ : zt_St) (k0 : Nat) (x1 : Int32) : Option (Int32) :=
  zt_bd (f_X3_nameOf x1) fun v1 =>
  zt_bd (f_X4_cutOver σ k0 v1) fun v3 =>
  if v3 = (-1) then
    f_X4_isOwn_23 σ k0
  else
    zt_bd (f_X4_placeAt σ k0 v3) fun v6 =>
    if v6 = x1 then
      f_X4_isOwn_23 σ k0
    else
      some 0

def f_X4_countNotIn_65 (σ : zt_St) (k0 : Nat) (k1 : Nat) (rc4 : Int32 → Int32 → Option (Int32)) (u2 : Int32) (u3 : Int32) : Option (Int32) :=
  rc4 u2 (u3 + 1)
def f_X4_countNotIn_62 (σ : zt_St) (k0 : Nat) (k1 : Nat) (rc4 : Int32 → Int32 → Option (Int32)) (u2 : Int32) (u3 : Int32) : Option (Int32) :=
  f_X4_countNotIn_65 σ k0 k1 rc4 (u2 + 1) u3
def f_X4_countNotIn_4b (σ : zt_St) (k0 : Nat) (k1 : Nat) (rc4 : Int32 → Int32 → Option (Int32)) (u2 : Int32) (u3 : Int32) : Option (Int32) :=
  if (σ k0 4) ≤ u3 then
    some u2
  else
    zt_bd (f_X4_placeAt σ k0 u3) fun v2 =>
    zt_bd (f_X4_sortAt σ k0 u3) fun v4 =>
    zt_bd (f_X4_rowOf σ k1 v2 v4) fun v6 =>
    if v6 = (-1) then
      f_X4_countNotIn_62 σ k0 k1 rc4 u2 u3
    else
      zt_bd (f_X4_numberAt σ k1 v6) fun v9 =>
      zt_bd (f_X4_numberAt σ k0 u3) fun v11 =>
      if v9 = v11 then
        zt_bd (f_X4_lifeAt σ k1 v6) fun v14 =>
        zt_bd (f_X4_lifeAt σ k0 u3) fun v16 =>
        if v14 = v16 then
          f_X4_countNotIn_65 σ k0 k1 rc4 u2 u3
        else
          f_X4_countNotIn_62 σ k0 k1 rc4 u2 u3
      else
        f_X4_countNotIn_62 σ k0 k1 rc4 u2 u3
def f_X4_countNotIn_4 (σ : zt_St) (k0 : Nat) (k1 : Nat) : Nat → Int32 → Int32 → Option (Int32)
  | 0, _, _ => none
  | n + 1, u2, u3 => f_X4_countNotIn_4b σ k0 k1 (f_X4_countNotIn_4 σ k0 k1 n) u2 u3
def f_X4_countNotIn (σ : zt_St) (k0 : Nat) (k1 : Nat) : Option (Int32) :=
  f_X4_countNotIn_4 σ k0 k1 zt_FU 0 0

def f_X5_begin (σ : zt_St) (x1 : Int32) (x2 : Int32) (x3 : Int32) : Option (zt_St) :=
  zt_lt (zt_st σ 80 6 x1) fun σ1 =>
  zt_lt (zt_st σ1 80 7 x2) fun σ2 =>
  zt_gd (x3 == 0 || x3 == 1) <|
  zt_lt (zt_st σ2 80 5 x3) fun σ4 =>
  zt_lt (zt_st σ4 80 8 (-1)) fun σ5 =>
  zt_lt (zt_st σ5 80 9 50) fun σ6 =>
  zt_lt (zt_st σ6 80 10 0) fun σ7 =>
  zt_lt (zt_st σ7 80 11 0) fun σ8 =>
  zt_lt (zt_st σ8 80 12 0) fun σ9 =>
  zt_lt (zt_st σ9 80 13 0) fun σ10 =>
  zt_lt (zt_st σ10 80 14 0) fun σ11 =>
  some σ11

def f_X5_nearestKeptZone_106 (σ : zt_St) (rc4 : Int32 → Int32 → Option (Int32)) (u1 : Int32) (u2 : Int32) : Option (Int32) :=
  rc4 u1 (u2 + 1)
def f_X5_nearestKeptZone_67 (σ : zt_St) (rc4 : Int32 → Int32 → Option (Int32)) (y0 : Int32) (u1 : Int32) (u2 : Int32) (u3 : Int32) : Option (Int32) :=
  if y0 = 0 then
    f_X5_nearestKeptZone_106 σ rc4 u1 u2
  else
    zt_bd (f_X2_isZoneHolding σ u2 (σ 80 3)) fun v13 =>
    if v13 = 0 then
      f_X5_nearestKeptZone_106 σ rc4 u1 u2
    else
      zt_bd (f_X7_at σ u1) fun z18 => zt_gd (decide (zt_kd z18 = 5)) <|
      if u3 ≤ (σ z18 0) then
        f_X5_nearestKeptZone_106 σ rc4 u1 u2
      else
        f_X5_nearestKeptZone_106 σ rc4 u2 u2
def f_X5_nearestKeptZone_66 (σ : zt_St) (rc4 : Int32 → Int32 → Option (Int32)) (u1 : Int32) (u2 : Int32) (u3 : Int32) : Option (Int32) :=
  f_X5_nearestKeptZone_67 σ rc4 0 u1 u2 u3
def f_X5_nearestKeptZone_62 (σ : zt_St) (rc4 : Int32 → Int32 → Option (Int32)) (u1 : Int32) (u2 : Int32) (u3 : Int32) : Option (Int32) :=
  f_X5_nearestKeptZone_67 σ rc4 1 u1 u2 u3
def f_X5_nearestKeptZone_4b (σ : zt_St) (rc4 : Int32 → Int32 → Option (Int32)) (u1 : Int32) (u2 : Int32) : Option (Int32) :=
  if (σ 1 1) ≤ u2 then
    some u1
  else
    zt_bd (f_X7_at σ u2) fun z4 => zt_gd (decide (zt_kd z4 = 5)) <|
    zt_bd (f_X3_isUnder (σ 80 6) (σ z4 0)) fun v6 =>
    if v6 = 0 then
      f_X5_nearestKeptZone_66 σ rc4 u1 u2 (σ z4 0)
    else
      if (σ z4 0) = (σ 80 6) then
        if (σ 80 7) = 3 then
          f_X5_nearestKeptZone_66 σ rc4 u1 u2 (σ z4 0)
        else
          if (σ 80 7) = 4 then
            f_X5_nearestKeptZone_66 σ rc4 u1 u2 (σ z4 0)
          else
            f_X5_nearestKeptZone_62 σ rc4 u1 u2 (σ z4 0)
      else
        f_X5_nearestKeptZone_62 σ rc4 u1 u2 (σ z4 0)
def f_X5_nearestKeptZone_4 (σ : zt_St) : Nat → Int32 → Int32 → Option (Int32)
  | 0, _, _ => none
  | n + 1, u1, u2 => f_X5_nearestKeptZone_4b σ (f_X5_nearestKeptZone_4 σ n) u1 u2
def f_X5_nearestKeptZone (σ : zt_St) : Option (Int32) :=
  f_X5_nearestKeptZone_4 σ zt_FU 0 1

def f_X6_numberOfKey (x0 : Int32) : Option (Int32) :=
  some (((x0 * 31) + 7) - ((x0 * 31) + 7) / 997 * 997)

def f_X6_isKeyFor (x0 : Int32) (x1 : Int32) : Option (Int32) :=
  if x0 = (-1) then
    some 0
  else
    zt_bd (f_X6_numberOfKey x0) fun v2 =>
    if v2 = x1 then
      some 1
    else
      some 0

def f_X6_isGoodFor_48 (σ : zt_St) (k0 : Nat) : Option (Int32) :=
  some 1
def f_X6_isGoodFor_21 (σ : zt_St) (k0 : Nat) (y0 : Int32) (u1 : Int32) : Option (Int32) :=
  if y0 = 0 then
    some 0
  else
    zt_bd (f_X6_isKeyFor (σ k0 5) u1) fun v4 =>
    if v4 = 0 then
      zt_bd (f_X6_isKeyFor (σ k0 6) u1) fun v7 =>
      if v7 = 0 then
        some 0
      else
        f_X6_isGoodFor_48 σ k0
    else
      f_X6_isGoodFor_48 σ k0
def f_X6_isGoodFor_20 (σ : zt_St) (k0 : Nat) (u1 : Int32) : Option (Int32) :=
  f_X6_isGoodFor_21 σ k0 0 u1
def f_X6_isGoodFor (σ : zt_St) (k0 : Nat) (x1 : Int32) (x2 : Int32) : Option (Int32) :=
  if x2 < (σ k0 7) then
    f_X6_isGoodFor_20 σ k0 x1
  else
    if (σ k0 8) < x2 then
      f_X6_isGoodFor_20 σ k0 x1
    else
      f_X6_isGoodFor_21 σ k0 1 x1

def f_X5_goToStart_66 (σ : zt_St) (y0 : Int32) : Option (zt_St) :=
  zt_lt (zt_st σ 80 13 y0) fun σ16 =>
  some σ16
def f_X5_goToStart_16 (σ : zt_St) (y0 : Int32) : Option (zt_St) :=
  zt_lt (zt_st σ 80 8 y0) fun σ4 =>
  if (σ4 80 4) = (-1) then
    zt_lt (zt_st σ4 80 13 1) fun σ15 =>
    some σ15
  else
    zt_bd (f_X7_at σ4 0) fun z8 => zt_gd (decide (zt_kd z8 = 5)) <|
    zt_bd (f_X6_numberOfKey (σ4 80 4)) fun v10 =>
    zt_bd (f_X6_isGoodFor σ4 z8 v10 (σ4 80 3)) fun v12 =>
    if v12 = 0 then
      f_X5_goToStart_66 σ4 2
    else
      f_X5_goToStart_66 σ4 0
def f_X5_goToStart (σ : zt_St) : Option (zt_St) :=
  if (σ 80 5) = 0 then
    zt_bd (f_X5_nearestKeptZone σ) fun v2 =>
    f_X5_goToStart_16 σ v2
  else
    f_X5_goToStart_16 σ 0

def f_X6_isAnswering_15 (σ : zt_St) (k0 : Nat) : Option (Int32) :=
  some 1
def f_X6_isAnswering (σ : zt_St) (k0 : Nat) : Option (Int32) :=
  if (σ k0 4) = 0 then
    f_X6_isAnswering_15 σ k0
  else
    if (σ k0 3) = (-1) then
      some 0
    else
      f_X6_isAnswering_15 σ k0

def f_X6_answering (σ : zt_St) (k0 : Nat) : Option (Nat) :=
  if (σ k0 4) = 0 then
    some (k0 + 1)
  else
    some (k0 + 6)

def f_X6_isCutOff_30 (σ : zt_St) (k0 : Nat) (y0 : Int32) (u3 : Int32) : Option (Int32) :=
  if u3 = (-1) then
    some 0
  else
    if y0 = 0 then
      some 1
    else
      some 0
def f_X6_isCutOff_29 (σ : zt_St) (k0 : Nat) (u3 : Int32) : Option (Int32) :=
  f_X6_isCutOff_30 σ k0 0 u3
def f_X6_isCutOff_16 (σ : zt_St) (k0 : Nat) (u1 : Int32) (u3 : Int32) : Option (Int32) :=
  zt_bd (f_X4_placeAt σ k0 u3) fun v5 =>
  if v5 = u1 then
    f_X6_isCutOff_30 σ k0 1 u3
  else
    f_X6_isCutOff_29 σ k0 u3
def f_X6_isCutOff (σ : zt_St) (k0 : Nat) (x1 : Int32) (x2 : Int32) : Option (Int32) :=
  zt_bd (f_X4_cutOver σ k0 x1) fun v1 =>
  if x2 = 3 then
    f_X6_isCutOff_16 σ k0 x1 v1
  else
    if x2 = 4 then
      f_X6_isCutOff_16 σ k0 x1 v1
    else
      f_X6_isCutOff_29 σ k0 v1

def f_X6_answerCutOff (σ : zt_St) (k0 : Nat) (x1 : Int32) (x2 : Int32) (x3 : Int32) (k4 : Nat) : Option (zt_St) :=
  if x3 = 0 then
    zt_bd (f_X4_cutOver σ k0 x1) fun v2 =>
    zt_bd (f_X4_placeAt σ k0 v2) fun v4 =>
    zt_bd (f_X4_lifeAt σ k0 v2) fun v6 =>
    zt_bd (f_X0_tell σ k4 3 (-1) v4 v6) fun σ9 =>
    zt_bd (f_X4_numberAt σ9 k0 v2) fun v10 =>
    zt_lt (zt_st σ9 k4 6 v10) fun σ12 =>
    zt_bd (f_X4_rowOf σ12 k0 v4 4) fun v13 =>
    zt_bd (f_X4_numberAt σ12 k0 v13) fun v15 =>
    zt_lt (zt_st σ12 k4 7 v15) fun σ17 =>
    some σ17
  else
    zt_bd (f_X0_tell σ k4 4 (-1) x1 x2) fun σ19 =>
    some σ19

def f_X6_placeFor_59 (σ : zt_St) (k0 : Nat) (k1 : Nat) (u3 : Int32) : Option (Int32) :=
  if u3 = 0 then
    some (-1)
  else
    some (u3 * 10)
def f_X6_placeFor_19b (σ : zt_St) (k0 : Nat) (k1 : Nat) (rc19 : Int32 → Int32 → Option (Int32)) (u3 : Int32) (u4 : Int32) : Option (Int32) :=
  if 4 ≤ u4 then
    f_X6_placeFor_59 σ k0 k1 u3
  else
    if u3 = (σ k0 0) then
      f_X6_placeFor_59 σ k0 k1 u3
    else
      zt_bd (f_X4_isThereBy σ k1 (σ k1 4) (u3 / 10)) fun v6 =>
      if v6 = 0 then
        rc19 (u3 / 10) (u4 + 1)
      else
        f_X6_placeFor_59 σ k0 k1 (u3 / 10)
def f_X6_placeFor_19 (σ : zt_St) (k0 : Nat) (k1 : Nat) : Nat → Int32 → Int32 → Option (Int32)
  | 0, _, _ => none
  | n + 1, u3, u4 => f_X6_placeFor_19b σ k0 k1 (f_X6_placeFor_19 σ k0 k1 n) u3 u4
def f_X6_placeFor (σ : zt_St) (k0 : Nat) (k1 : Nat) (x2 : Int32) : Option (Int32) :=
  zt_bd (f_X4_isThereBy σ k1 (σ k1 4) x2) fun v1 =>
  if v1 = 0 then
    f_X6_placeFor_19 σ k0 k1 zt_FU x2 0
  else
    some x2

def f_X6_answerAt_72 (k0 : Nat) (k1 : Nat) (k6 : Nat) (σ : zt_St) (y0 : Int32) (u3 : Int32) (u5 : Int32) : Option (zt_St) :=
  zt_bd (f_X0_tell σ k6 y0 (-1) u3 (if (σ k0 1) < u5 then (σ k0 1) else u5)) fun σ16 =>
  some σ16
def f_X6_answerAt_58 (k0 : Nat) (k1 : Nat) (k6 : Nat) (σ : zt_St) (y0 : Int32) (u3 : Int32) (u5 : Int32) : Option (zt_St) :=
  if y0 = 0 then
    f_X6_answerAt_72 k0 k1 k6 σ 2 u3 u5
  else
    f_X6_answerAt_72 k0 k1 k6 σ 1 u3 u5
def f_X6_answerAt_53 (k0 : Nat) (k1 : Nat) (k6 : Nat) (σ : zt_St) (u3 : Int32) (u5 : Int32) : Option (zt_St) :=
  f_X6_answerAt_58 k0 k1 k6 σ 1 u3 u5
def f_X6_answerAt (σ : zt_St) (k0 : Nat) (k1 : Nat) (x2 : Int32) (x3 : Int32) (x4 : Int32) (x5 : Int32) (k6 : Nat) : Option (zt_St) :=
  zt_bd (f_X4_rowOf σ k1 x2 x4) fun v1 =>
  if v1 = (-1) then
    if x2 = x3 then
      f_X6_answerAt_53 k0 k1 k6 σ x3 x5
    else
      zt_bd (f_X4_countAt σ k1 x2) fun v5 =>
      if v5 ≤ 0 then
        f_X6_answerAt_58 k0 k1 k6 σ 0 x3 x5
      else
        f_X6_answerAt_53 k0 k1 k6 σ x3 x5
  else
    zt_bd (f_X4_numberAt σ k1 v1) fun v8 =>
    zt_bd (f_X4_lifeAt σ k1 v1) fun v10 =>
    zt_bd (f_X0_tell σ k6 0 v8 x3 (if v10 < x5 then v10 else x5)) fun σ13 =>
    some σ13

def f_X6_answer_207 (k0 : Nat) (k1 : Nat) (k4 : Nat) (σ : zt_St) : Option (zt_St) :=
  zt_bd (f_X0_tell σ k4 5 (-1) (-1) 0) fun σ16 =>
  some σ16
def f_X6_answer_144 (k0 : Nat) (k1 : Nat) (k4 : Nat) (rc10 : zt_St → Int32 → Int32 → Int32 → Int32 → Option (zt_St)) (σ : zt_St) (u3 : Int32) (u6 : Int32) (u7 : Int32) (u8 : Int32) (u9 : Int32) : Option (zt_St) :=
  zt_bd (f_X4_lifeAt σ k1 u8) fun v28 =>
  if u9 = (-1) then
    f_X6_answer_207 k0 k1 k4 σ
  else
    if u7 = 9 then
      f_X6_answer_207 k0 k1 k4 σ
    else
      zt_bd (f_X3_isUnder u9 (σ k0 0)) fun v32 =>
      if v32 = 0 then
        zt_bd (f_X0_tell σ k4 4 (-1) u9 (if v28 < u6 then v28 else u6)) fun σ36 =>
        some σ36
      else
        rc10 σ u3 u9 (if v28 < u6 then v28 else u6) (u7 + 1)
def f_X6_answer_121 (k0 : Nat) (k1 : Nat) (k4 : Nat) (σ : zt_St) (u3 : Int32) (u5 : Int32) (u6 : Int32) (u10 : Int32) : Option (zt_St) :=
  zt_bd (f_X6_answerAt σ k0 k1 u10 u5 u3 u6 k4) fun σ38 =>
  some σ38
def f_X6_answer_84 (k0 : Nat) (k1 : Nat) (k4 : Nat) (rc10 : zt_St → Int32 → Int32 → Int32 → Int32 → Option (zt_St)) (σ : zt_St) (y0 : Int32) (u3 : Int32) (u5 : Int32) (u6 : Int32) (u7 : Int32) (u8 : Int32) : Option (zt_St) :=
  if u8 = (-1) then
    zt_bd (f_X6_placeFor σ k0 k1 u5) fun v18 =>
    zt_bd (f_X4_rowOf σ k1 v18 1) fun v20 =>
    if v20 = (-1) then
      f_X6_answer_121 k0 k1 k4 σ u3 u5 u6 v18
    else
      if u3 = 1 then
        f_X6_answer_121 k0 k1 k4 σ u3 u5 u6 v18
      else
        zt_bd (f_X4_numberAt σ k1 v20) fun v24 =>
        f_X6_answer_144 k0 k1 k4 rc10 σ u3 u6 u7 v20 v24
  else
    f_X6_answer_144 k0 k1 k4 rc10 σ u3 u6 u7 u8 y0
def f_X6_answer_43 (k0 : Nat) (k1 : Nat) (k4 : Nat) (σ : zt_St) (y0 : Int32) (y1 : Int32) (y2 : Int32) : Option (zt_St) :=
  zt_bd (f_X6_answerCutOff σ k1 y2 y1 y0 k4) fun σ27 =>
  some σ27
def f_X6_answer_10b (k0 : Nat) (k1 : Nat) (k4 : Nat) (rc10 : zt_St → Int32 → Int32 → Int32 → Int32 → Option (zt_St)) (σ : zt_St) (u3 : Int32) (u5 : Int32) (u6 : Int32) (u7 : Int32) : Option (zt_St) :=
  if 9 < u7 then
    f_X6_answer_207 k0 k1 k4 σ
  else
    zt_bd (f_X6_isCutOff σ k1 u5 u3) fun v2 =>
    if v2 = 0 then
      zt_bd (f_X4_treeOver σ k1 u5) fun v5 =>
      if v5 = (-1) then
        f_X6_answer_84 k0 k1 k4 rc10 σ (-1) u3 u5 u6 u7 v5
      else
        zt_bd (f_X4_placeAt σ k1 v5) fun v8 =>
        zt_bd (f_X4_numberAt σ k1 v5) fun v10 =>
        zt_bd (f_X3_moved u5 v8 v10) fun v12 =>
        f_X6_answer_84 k0 k1 k4 rc10 σ v12 u3 u5 u6 u7 v5
    else
      if u7 ≤ 1 then
        f_X6_answer_43 k0 k1 k4 σ 0 u6 u5
      else
        f_X6_answer_43 k0 k1 k4 σ 1 u6 u5
def f_X6_answer_10 (k0 : Nat) (k1 : Nat) (k4 : Nat) : Nat → zt_St → Int32 → Int32 → Int32 → Int32 → Option (zt_St)
  | 0, _, _, _, _, _ => none
  | n + 1, σ, u3, u5, u6, u7 => f_X6_answer_10b k0 k1 k4 (f_X6_answer_10 k0 k1 k4 n) σ u3 u5 u6 u7
def f_X6_answer (σ : zt_St) (k0 : Nat) (k1 : Nat) (x2 : Int32) (x3 : Int32) (k4 : Nat) : Option (zt_St) :=
  f_X6_answer_10 k0 k1 k4 zt_FU σ x3 x2 50 1

def f_X5_keepPart (σ : zt_St) : Option (zt_St) :=
  if (σ 80 5) = 0 then
    if (σ 91 0) = 5 then
      some σ
    else
      if (σ 91 0) = 3 then
        zt_bd (f_X2_keepZone σ (σ 91 6) (σ 91 3) (σ 80 3)) fun σ7 =>
        some σ7
      else
        zt_bd (f_X2_keepAnswer σ (σ 80 6) (σ 80 7) 91 (σ 80 3)) fun σ5 =>
        some σ5
  else
    some σ

def f_X5_takeOldPart_26 (σ : zt_St) (y0 : Int32) : Option (zt_St) :=
  zt_bd (f_X2_isUsableAsOld σ y0 (σ 80 3)) fun v4 =>
  if v4 = 0 then
    zt_bd (f_X0_tell σ 91 6 (-1) (-1) 0) fun σ8 =>
    some σ8
  else
    zt_bd (f_X2_read σ y0 (σ 80 3) 91) fun σ10 =>
    zt_lt (zt_st σ10 80 12 1) fun σ11 =>
    some σ11
def f_X5_takeOldPart (σ : zt_St) : Option (zt_St) :=
  if (σ 80 5) = 0 then
    zt_bd (f_X2_rowOf σ (σ 80 6) (σ 80 7)) fun v2 =>
    f_X5_takeOldPart_26 σ v2
  else
    f_X5_takeOldPart_26 σ (-1)

def f_X5_askZone (σ : zt_St) : Option (zt_St) :=
  zt_lt (zt_st σ 80 10 ((σ 80 10) + 1)) fun σ1 =>
  zt_bd (f_X7_at σ1 (σ1 80 8)) fun z4 => zt_gd (decide (zt_kd z4 = 5)) <|
  zt_bd (f_X6_isAnswering σ1 z4) fun v6 =>
  if v6 = 0 then
    zt_bd (f_X5_takeOldPart σ1) fun σ10 =>
    some σ10
  else
    zt_bd (f_X6_answering σ1 z4) fun z13 => zt_gd (decide (zt_kd z13 = 3)) <|
    zt_bd (f_X6_answer σ1 z4 z13 (σ1 80 6) (σ1 80 7) 91) fun σ16 =>
    zt_bd (f_X5_keepPart σ16) fun σ18 =>
    some σ18

def f_X5_takePart_105 (σ : zt_St) : Option (zt_St) :=
  zt_bd (f_X5_askZone σ) fun σ17 =>
  some σ17
def f_X5_takePart_34 (σ : zt_St) (y0 : Int32) : Option (zt_St) :=
  zt_bd (f_X2_isHolding σ y0 (σ 80 3)) fun v5 =>
  if v5 = 0 then
    if (σ 80 10) < 12 then
      if (σ 80 8) = (-1) then
        zt_bd (f_X5_goToStart σ) fun σ11 =>
        f_X5_takePart_105 σ11
      else
        f_X5_takePart_105 σ
    else
      zt_bd (f_X0_tell σ 91 6 (-1) (-1) 0) fun σ13 =>
      some σ13
  else
    zt_bd (f_X2_read σ y0 (σ 80 3) 91) fun σ15 =>
    some σ15
def f_X5_takePart_15 (σ : zt_St) : Option (zt_St) :=
  f_X5_takePart_34 σ (-1)
def f_X5_takePart (σ : zt_St) : Option (zt_St) :=
  if (σ 80 5) = 0 then
    if (σ 80 8) = (-1) then
      zt_bd (f_X2_rowOf σ (σ 80 6) (σ 80 7)) fun v3 =>
      f_X5_takePart_34 σ v3
    else
      f_X5_takePart_15 σ
  else
    f_X5_takePart_15 σ

def f_X5_goDown_37 (σ : zt_St) : Option (zt_St) :=
  if (σ 80 13) = 0 then
    zt_bd (f_X7_at σ (σ 80 8)) fun z8 => zt_gd (decide (zt_kd z8 = 5)) <|
    zt_bd (f_X6_isGoodFor σ z8 (σ 91 7) (σ 80 3)) fun v10 =>
    if v10 = 0 then
      zt_lt (zt_st σ 80 13 2) fun σ13 =>
      some σ13
    else
      some σ
  else
    some σ
def f_X5_goDown (σ : zt_St) : Option (zt_St) :=
  zt_lt (zt_st σ 80 8 (σ 91 6)) fun σ1 =>
  if (σ1 80 13) = 0 then
    if (σ1 91 7) = (-1) then
      zt_lt (zt_st σ1 80 13 1) fun σ4 =>
      some σ4
    else
      f_X5_goDown_37 σ1
  else
    f_X5_goDown_37 σ1

def f_X5_finish_84 (k1 : Nat) (σ : zt_St) : Option (zt_St) :=
  zt_lt (zt_st σ k1 4 (σ 80 10)) fun σ7 =>
  zt_gd ((σ7 80 12) == 0 || (σ7 80 12) == 1) <|
  zt_lt (zt_st σ7 k1 5 (σ7 80 12)) fun σ9 =>
  some σ9
def f_X5_finish_69 (k1 : Nat) (σ : zt_St) (y0 : Int32) (y1 : Int32) (y2 : Int32) (y3 : Int32) : Option (zt_St) :=
  zt_bd (f_X0_tell σ k1 y3 y2 y1 y0) fun σ11 =>
  f_X5_finish_84 k1 σ11
def f_X5_finish_32 (k1 : Nat) (σ : zt_St) : Option (zt_St) :=
  if (σ 80 12) = 0 then
    f_X5_finish_69 k1 σ (σ 80 9) (σ 91 2) (σ 91 1) (σ 91 0)
  else
    f_X5_finish_69 k1 σ 0 (σ 91 2) (σ 91 1) (σ 91 0)
def f_X5_finish (σ : zt_St) (k1 : Nat) : Option (zt_St) :=
  if (σ 91 0) = 0 then
    f_X5_finish_32 k1 σ
  else
    if (σ 91 0) = 1 then
      f_X5_finish_32 k1 σ
    else
      if (σ 91 0) = 2 then
        f_X5_finish_32 k1 σ
      else
        zt_bd (f_X0_tell σ k1 6 (-1) (-1) 0) fun σ5 =>
        f_X5_finish_84 k1 σ5

def f_X5_run_131 (k4 : Nat) (σ : zt_St) : Option (zt_St) :=
  zt_bd (f_X5_finish σ k4) fun σ17 =>
  some σ17
def f_X5_run_125 (k4 : Nat) (rc10 : zt_St → Int32 → Option (zt_St)) (σ : zt_St) (u5 : Int32) : Option (zt_St) :=
  rc10 σ (u5 + 1)
def f_X5_run_10b (k4 : Nat) (rc10 : zt_St → Int32 → Option (zt_St)) (σ : zt_St) (u5 : Int32) : Option (zt_St) :=
  if 1000 ≤ u5 then
    f_X5_run_131 k4 σ
  else
    zt_bd (f_X5_takePart σ) fun σ5 =>
    if (σ5 91 0) = 3 then
      zt_bd (f_X5_goDown σ5) fun σ15 =>
      f_X5_run_125 k4 rc10 σ15 u5
    else
      zt_lt (zt_st σ5 80 9 (if (σ5 91 3) < (σ5 80 9) then (σ5 91 3) else (σ5 80 9))) fun σ7 =>
      zt_lt (zt_st σ7 80 14 (if (σ7 80 14) < (σ7 80 13) then (σ7 80 13) else (σ7 80 14))) fun σ8 =>
      if (σ8 91 0) = 4 then
        zt_lt (zt_st σ8 80 11 ((σ8 80 11) + 1)) fun σ10 =>
        if (σ10 80 11) < 9 then
          zt_lt (zt_st σ10 80 6 (σ10 91 2)) fun σ12 =>
          zt_lt (zt_st σ12 80 8 (-1)) fun σ13 =>
          f_X5_run_125 k4 rc10 σ13 u5
        else
          f_X5_run_131 k4 σ10
      else
        f_X5_run_131 k4 σ8
def f_X5_run_10 (k4 : Nat) : Nat → zt_St → Int32 → Option (zt_St)
  | 0, _, _ => none
  | n + 1, σ, u5 => f_X5_run_10b k4 (f_X5_run_10 k4 n) σ u5
def f_X5_run (σ : zt_St) (x1 : Int32) (x2 : Int32) (x3 : Int32) (k4 : Nat) : Option (zt_St) :=
  zt_bd (f_X5_begin σ x1 x2 x3) fun σ2 =>
  f_X5_run_10 k4 zt_FU σ2 0

def f_X6_countOwnNames_77 (σ : zt_St) (k0 : Nat) (rc4 : Int32 → Int32 → Option (Int32)) (rc44 : Int32 → Int32 → Int32 → Int32 → Int32 → Option (Int32)) (u1 : Int32) (u2 : Int32) (u3 : Int32) (u4 : Int32) (u5 : Int32) : Option (Int32) :=
  rc44 u1 u2 (u3 / 10) u4 (u5 + 1)
def f_X6_countOwnNames_44b (σ : zt_St) (k0 : Nat) (rc4 : Int32 → Int32 → Option (Int32)) (rc44 : Int32 → Int32 → Int32 → Int32 → Int32 → Option (Int32)) (u1 : Int32) (u2 : Int32) (u3 : Int32) (u4 : Int32) (u5 : Int32) : Option (Int32) :=
  if u4 < u5 then
    rc4 u1 (u2 + 1)
  else
    zt_bd (f_X4_isOwn σ (k0 + 1) u3) fun v11 =>
    if v11 = 0 then
      f_X6_countOwnNames_77 σ k0 rc4 rc44 u1 u2 u3 u4 u5
    else
      zt_bd (f_X4_isThereBy σ (k0 + 1) u2 u3) fun v14 =>
      if v14 = 0 then
        f_X6_countOwnNames_77 σ k0 rc4 rc44 (u1 + 1) u2 u3 u4 u5
      else
        f_X6_countOwnNames_77 σ k0 rc4 rc44 u1 u2 u3 u4 u5
def f_X6_countOwnNames_44 (σ : zt_St) (k0 : Nat) (rc4 : Int32 → Int32 → Option (Int32)) : Nat → Int32 → Int32 → Int32 → Int32 → Int32 → Option (Int32)
  | 0, _, _, _, _, _ => none
  | n + 1, u1, u2, u3, u4, u5 => f_X6_countOwnNames_44b σ k0 rc4 (f_X6_countOwnNames_44 σ k0 rc4 n) u1 u2 u3 u4 u5
def f_X6_countOwnNames_4b (σ : zt_St) (k0 : Nat) (rc4 : Int32 → Int32 → Option (Int32)) (u1 : Int32) (u2 : Int32) : Option (Int32) :=
  if (σ (k0 + 1) 4) ≤ u2 then
    some u1
  else
    zt_bd (f_X4_placeAt σ (k0 + 1) u2) fun v2 =>
    zt_bd (f_X3_nameOf v2) fun v4 =>
    zt_bd (f_X3_figures v4) fun v6 =>
    zt_bd (f_X3_figures (σ k0 0)) fun v8 =>
    f_X6_countOwnNames_44 σ k0 rc4 zt_FU u1 u2 v4 (v6 - v8) 0
def f_X6_countOwnNames_4 (σ : zt_St) (k0 : Nat) : Nat → Int32 → Int32 → Option (Int32)
  | 0, _, _ => none
  | n + 1, u1, u2 => f_X6_countOwnNames_4b σ k0 (f_X6_countOwnNames_4 σ k0 n) u1 u2
def f_X6_countOwnNames (σ : zt_St) (k0 : Nat) : Option (Int32) :=
  f_X6_countOwnNames_4 σ k0 zt_FU 0 0

def f_X6_detail (σ : zt_St) (k0 : Nat) (x1 : Int32) : Option (Int32) :=
  if x1 = 0 then
    some (σ k0 0)
  else
    if x1 = 1 then
      some (σ k0 2)
    else
      if x1 = 2 then
        some (σ (k0 + 1) 4)
      else
        if x1 = 3 then
          some (σ k0 3)
        else
          zt_bd (f_X6_countOwnNames σ k0) fun v5 =>
          some v5

def f_X6_nearer_61 (σ : zt_St) (k0 : Nat) (y0 : Int32) (y1 : Int32) (u1 : Int32) (u2 : Int32) : Option (Int32) :=
  if y1 = y0 then
    some u2
  else
    some u1
def f_X6_nearer_22 (σ : zt_St) (k0 : Nat) (y0 : Int32) (y1 : Int32) (u1 : Int32) (u2 : Int32) (u4 : Int32) (u5 : Int32) : Option (Int32) :=
  if y1 = y0 then
    zt_bd (f_X4_isOwn σ (k0 + 1) u2) fun v7 =>
    if v7 = 0 then
      some u1
    else
      if u1 = (-1) then
        some u2
      else
        zt_bd (f_X3_order u1) fun v11 =>
        if v11 ≤ u5 then
          f_X6_nearer_61 σ k0 0 u4 u1 u2
        else
          f_X6_nearer_61 σ k0 1 u4 u1 u2
  else
    some u1
def f_X6_nearer (σ : zt_St) (k0 : Nat) (x1 : Int32) (x2 : Int32) (x3 : Int32) (x4 : Int32) : Option (Int32) :=
  zt_bd (f_X3_order x2) fun v1 =>
  zt_bd (f_X3_order x3) fun v3 =>
  if v1 ≤ v3 then
    f_X6_nearer_22 σ k0 0 x4 x1 x2 x4 v1
  else
    f_X6_nearer_22 σ k0 1 x4 x1 x2 x4 v1

def f_X6_nearest_63b (σ : zt_St) (k0 : Nat) (rc5 : Int32 → Int32 → Int32 → Int32 → Option (Int32)) (rc63 : Int32 → Int32 → Int32 → Int32 → Int32 → Int32 → Int32 → Option (Int32)) (u1 : Int32) (u2 : Int32) (u3 : Int32) (u4 : Int32) (u6 : Int32) (u7 : Int32) (u8 : Int32) : Option (Int32) :=
  if u7 < u8 then
    rc5 u1 u2 u3 (u4 + 1)
  else
    zt_bd (f_X6_nearer σ k0 u3 u6 u1 u2) fun v13 =>
    rc63 u1 u2 v13 u4 (u6 / 10) u7 (u8 + 1)
def f_X6_nearest_63 (σ : zt_St) (k0 : Nat) (rc5 : Int32 → Int32 → Int32 → Int32 → Option (Int32)) : Nat → Int32 → Int32 → Int32 → Int32 → Int32 → Int32 → Int32 → Option (Int32)
  | 0, _, _, _, _, _, _, _ => none
  | n + 1, u1, u2, u3, u4, u6, u7, u8 => f_X6_nearest_63b σ k0 rc5 (f_X6_nearest_63 σ k0 rc5 n) u1 u2 u3 u4 u6 u7 u8
def f_X6_nearest_5b (σ : zt_St) (k0 : Nat) (rc5 : Int32 → Int32 → Int32 → Int32 → Option (Int32)) (u1 : Int32) (u2 : Int32) (u3 : Int32) (u4 : Int32) : Option (Int32) :=
  if (σ (k0 + 1) 4) ≤ u4 then
    some u3
  else
    zt_bd (f_X4_placeAt σ (k0 + 1) u4) fun v2 =>
    zt_bd (f_X6_nearer σ k0 u3 v2 u1 u2) fun v4 =>
    zt_bd (f_X3_nameOf v2) fun v6 =>
    zt_bd (f_X3_figures v6) fun v8 =>
    zt_bd (f_X3_figures (σ k0 0)) fun v10 =>
    f_X6_nearest_63 σ k0 rc5 zt_FU u1 u2 v4 u4 v6 (v8 - v10) 0
def f_X6_nearest_5 (σ : zt_St) (k0 : Nat) : Nat → Int32 → Int32 → Int32 → Int32 → Option (Int32)
  | 0, _, _, _, _ => none
  | n + 1, u1, u2, u3, u4 => f_X6_nearest_5b σ k0 (f_X6_nearest_5 σ k0 n) u1 u2 u3 u4
def f_X6_nearest (σ : zt_St) (k0 : Nat) (x1 : Int32) (x2 : Int32) : Option (Int32) :=
  f_X6_nearest_5 σ k0 zt_FU x1 x2 (-1) 0

def f_X6_renewCopy_86 (k0 : Nat) (σ : zt_St) (u2 : Int32) : Option (Int32 × zt_St) :=
  zt_bd (f_X4_become σ (k0 + 6) (k0 + 1)) fun σ10 =>
  zt_lt (zt_st σ10 k0 3 (σ10 k0 2)) fun σ11 =>
  some (u2, σ11)
def f_X6_renewCopy_39 (k0 : Nat) (σ : zt_St) (y0 : Int32) (y1 : Int32) : Option (Int32 × zt_St) :=
  if (σ k0 3) = (-1) then
    f_X6_renewCopy_86 k0 σ (σ (k0 + 1) 4)
  else
    if 4 < (y1 + y0) then
      f_X6_renewCopy_86 k0 σ (σ (k0 + 1) 4)
    else
      zt_bd (f_X4_countNotIn σ (k0 + 1) (k0 + 6)) fun v5 =>
      zt_bd (f_X4_countNotIn σ (k0 + 6) (k0 + 1)) fun v7 =>
      f_X6_renewCopy_86 k0 σ (v5 + v7)
def f_X6_renewCopy (σ : zt_St) (k0 : Nat) : Option (Int32 × zt_St) :=
  if (σ k0 3) = (σ k0 2) then
    some (0, σ)
  else
    if (σ k0 3) ≤ (σ k0 2) then
      f_X6_renewCopy_39 k0 σ 0 ((σ k0 2) - (σ k0 3))
    else
      f_X6_renewCopy_39 k0 σ 16 ((σ k0 2) - (σ k0 3))

def f_X6_changeKey_15 (k0 : Nat) (σ : zt_St) (y0 : Int32) (u1 : Int32) (u2 : Int32) : Option (Int32 × zt_St) :=
  if u1 = 0 then
    zt_lt (zt_st σ k0 5 u2) fun σ4 =>
    some (y0, σ4)
  else
    zt_lt (zt_st σ k0 6 u2) fun σ3 =>
    some (y0, σ3)
def f_X6_changeKey (σ : zt_St) (k0 : Nat) (x1 : Int32) (x2 : Int32) : Option (Int32 × zt_St) :=
  if x1 = 0 then
    f_X6_changeKey_15 k0 σ (σ k0 5) x1 x2
  else
    f_X6_changeKey_15 k0 σ (σ k0 6) x1 x2

def f_X7_isOneAt_2b (σ : zt_St) (rc2 : Int32 → Int32 → Option (Int32)) (u1 : Int32) (u2 : Int32) : Option (Int32) :=
  if (σ 1 1) ≤ u2 then
    some 0
  else
    zt_bd (f_X7_at σ u2) fun z4 => zt_gd (decide (zt_kd z4 = 5)) <|
    if (σ z4 0) = u1 then
      some 1
    else
      rc2 u1 (u2 + 1)
def f_X7_isOneAt_2 (σ : zt_St) : Nat → Int32 → Int32 → Option (Int32)
  | 0, _, _ => none
  | n + 1, u1, u2 => f_X7_isOneAt_2b σ (f_X7_isOneAt_2 σ n) u1 u2
def f_X7_isOneAt (σ : zt_St) (x1 : Int32) : Option (Int32) :=
  f_X7_isOneAt_2 σ zt_FU x1 0

def f_X7_make (σ : zt_St) (x1 : Int32) (x2 : Int32) : Option (Int32 × zt_St) :=
  zt_lt (zt_st σ 1 1 ((σ 1 1) + 1)) fun σ1 =>
  zt_bd (f_X7_at σ1 (σ 1 1)) fun z4 => zt_gd (decide (zt_kd z4 = 5)) <|
  zt_lt (zt_st σ1 z4 0 x1) fun σ6 =>
  zt_lt (zt_st σ6 z4 1 x2) fun σ7 =>
  some ((σ 1 1), σ7)

def f_X9_thrown (σ : zt_St) : Option (Int32) :=
  some (σ 94 0)

def f_X9_asked_10 (σ : zt_St) (y0 : Int32) (u1 : Int32) : Option (Int32 × zt_St) :=
  zt_lt (zt_st σ 94 0 y0) fun σ2 =>
  zt_gd (u1 == 0 || u1 == 1) <|
  some (u1, σ2)
def f_X9_asked (σ : zt_St) (x1 : Int32) : Option (Int32 × zt_St) :=
  if x1 = 0 then
    f_X9_asked_10 σ 1 x1
  else
    f_X9_asked_10 σ 0 x1

def f_X9_asked__18 (σ : zt_St) (y0 : Int32) : Option (Int32 × zt_St) :=
  zt_lt (zt_st σ 94 0 y0) fun σ3 =>
  if (σ3 94 0) = 0 then
    some (1, σ3)
  else
    some (0, σ3)
def f_X9_asked_ (σ : zt_St) (x1 : Int32) (x2 : Int32) : Option (Int32 × zt_St) :=
  if x1 = 0 then
    f_X9_asked__18 σ 1
  else
    if x2 = 0 then
      f_X9_asked__18 σ 2
    else
      f_X9_asked__18 σ 0

def f_X9_asked___26 (σ : zt_St) (y0 : Int32) : Option (Int32 × zt_St) :=
  zt_lt (zt_st σ 94 0 y0) fun σ4 =>
  if (σ4 94 0) = 0 then
    some (1, σ4)
  else
    some (0, σ4)
def f_X9_asked__ (σ : zt_St) (x1 : Int32) (x2 : Int32) (x3 : Int32) : Option (Int32 × zt_St) :=
  if x1 = 0 then
    f_X9_asked___26 σ 1
  else
    if x2 = 0 then
      f_X9_asked___26 σ 2
    else
      if x3 = 0 then
        f_X9_asked___26 σ 3
      else
        f_X9_asked___26 σ 0

def f_X9_in (x0 : Int32) (x1 : Int32) (x2 : Int32) : Option (Int32) :=
  if x0 < x1 then
    some 0
  else
    if x2 < x0 then
      some 0
    else
      some 1

def f_X9_figures_4b (rc4 : Int32 → Int32 → Option (Int32)) (u1 : Int32) (u2 : Int32) : Option (Int32) :=
  if u2 ≤ 0 then
    some u1
  else
    rc4 (u1 + 1) (u2 / 10)
def f_X9_figures_4 : Nat → Int32 → Int32 → Option (Int32)
  | 0, _, _ => none
  | n + 1, u1, u2 => f_X9_figures_4b (f_X9_figures_4 n) u1 u2
def f_X9_figures (x0 : Int32) : Option (Int32) :=
  f_X9_figures_4 zt_FU 0 x0

def f_X9_isName_31 (rc11 : Int32 → Int32 → Option (Int32)) (y0 : Int32) (u2 : Int32) : Option (Int32) :=
  rc11 y0 (u2 / 10)
def f_X9_isName_11b (rc11 : Int32 → Int32 → Option (Int32)) (u1 : Int32) (u2 : Int32) : Option (Int32) :=
  if u2 ≤ 0 then
    zt_gd (u1 == 0 || u1 == 1) <|
    some u1
  else
    if u1 = 0 then
      zt_gd (u1 == 0 || u1 == 1) <|
      some u1
    else
      if (u2 - u2 / 10 * 10) ≤ 0 then
        f_X9_isName_31 rc11 0 u2
      else
        f_X9_isName_31 rc11 1 u2
def f_X9_isName_11 : Nat → Int32 → Int32 → Option (Int32)
  | 0, _, _ => none
  | n + 1, u1, u2 => f_X9_isName_11b (f_X9_isName_11 n) u1 u2
def f_X9_isName (x0 : Int32) : Option (Int32) :=
  zt_bd (f_X9_in x0 0 9999) fun v1 =>
  f_X9_isName_11 zt_FU v1 x0

def f_X9_isStar (x0 : Int32) : Option (Int32) :=
  if x0 ≤ 0 then
    some 0
  else
    if (x0 - x0 / 10 * 10) = 0 then
      if 1000 ≤ (x0 / 10) then
        some 0
      else
        zt_bd (f_X9_isName (x0 / 10)) fun v4 =>
        if v4 = 0 then
          some 0
        else
          some 1
    else
      some 0

def f_X9_isPlace_14 : Option (Int32) :=
  some 1
def f_X9_isPlace (x0 : Int32) : Option (Int32) :=
  zt_bd (f_X9_isName x0) fun v1 =>
  if v1 = 0 then
    zt_bd (f_X9_isStar x0) fun v4 =>
    if v4 = 0 then
      some 0
    else
      f_X9_isPlace_14
  else
    f_X9_isPlace_14

def f_X9_base (x0 : Int32) : Option (Int32) :=
  if x0 ≤ 0 then
    some x0
  else
    if (x0 - x0 / 10 * 10) = 0 then
      some (x0 / 10)
    else
      some x0

def f_X9_ten_4b (rc4 : Int32 → Int32 → Int32 → Option (Int32)) (u0 : Int32) (u1 : Int32) (u2 : Int32) : Option (Int32) :=
  if u0 ≤ u2 then
    some u1
  else
    rc4 u0 (u1 * 10) (u2 + 1)
def f_X9_ten_4 : Nat → Int32 → Int32 → Int32 → Option (Int32)
  | 0, _, _, _ => none
  | n + 1, u0, u1, u2 => f_X9_ten_4b (f_X9_ten_4 n) u0 u1 u2
def f_X9_ten (x0 : Int32) : Option (Int32) :=
  f_X9_ten_4 zt_FU x0 1 0

def f_X9_head (x0 : Int32) (x1 : Int32) : Option (Int32) :=
  zt_bd (f_X9_figures x0) fun v1 =>
  zt_bd (f_X9_ten (v1 - x1)) fun v3 =>
  zt_gd (!(v3 == 0)) <|
  some (x0 / v3)

def f_X9_isUnder (x0 : Int32) (x1 : Int32) : Option (Int32) :=
  zt_bd (f_X9_figures x1) fun v1 =>
  zt_bd (f_X9_figures x0) fun v3 =>
  if v3 < v1 then
    some 0
  else
    zt_bd (f_X9_head x0 v1) fun v6 =>
    if v6 = x1 then
      some 1
    else
      some 0

def f_X9_isStrictly (x0 : Int32) (x1 : Int32) : Option (Int32) :=
  if x0 = x1 then
    some 0
  else
    zt_bd (f_X9_isUnder x0 x1) fun v2 =>
    if v2 = 0 then
      some 0
    else
      some 1

def f_X9_order_42 (rc9 : Int32 → Int32 → Int32 → Int32 → Option (Int32)) (y0 : Int32) (y1 : Int32) (u0 : Int32) (u1 : Int32) (u3 : Int32) : Option (Int32) :=
  rc9 u0 u1 (y1 + y0) (u3 + 1)
def f_X9_order_9b (rc9 : Int32 → Int32 → Int32 → Int32 → Option (Int32)) (u0 : Int32) (u1 : Int32) (u2 : Int32) (u3 : Int32) : Option (Int32) :=
  if 5 ≤ u3 then
    some u2
  else
    if u1 ≤ u3 then
      f_X9_order_42 rc9 0 (11 * u2) u0 u1 u3
    else
      zt_bd (f_X9_ten ((u1 - 1) - u3)) fun v5 =>
      zt_gd (!(v5 == 0)) <|
      f_X9_order_42 rc9 (((u0 / v5) - (u0 / v5) / 10 * 10) + 1) (11 * u2) u0 u1 u3
def f_X9_order_9 : Nat → Int32 → Int32 → Int32 → Int32 → Option (Int32)
  | 0, _, _, _, _ => none
  | n + 1, u0, u1, u2, u3 => f_X9_order_9b (f_X9_order_9 n) u0 u1 u2 u3
def f_X9_order (x0 : Int32) : Option (Int32) :=
  zt_bd (f_X9_figures x0) fun v1 =>
  f_X9_order_9 zt_FU x0 v1 0 0

def f_X9_find_47 (σ : zt_St) (rc6 : Int32 → Int32 → Int32 → Int32 → Option (Int32)) (u1 : Int32) (u2 : Int32) (u3 : Int32) (u4 : Int32) : Option (Int32) :=
  rc6 u1 u2 u3 (u4 + 1)
def f_X9_find_6b (σ : zt_St) (rc6 : Int32 → Int32 → Int32 → Int32 → Option (Int32)) (u1 : Int32) (u2 : Int32) (u3 : Int32) (u4 : Int32) : Option (Int32) :=
  zt_gd (zt_gI u1 13) <|
  if ((32 * u1) + (σ 103 u1.toNatClampNeg)) ≤ u4 then
    some (-1)
  else
    zt_gd (zt_gI u4 416) <|
    if (σ 104 u4.toNatClampNeg) = u2 then
      zt_gd (zt_gI u4 416) <|
      if (σ 105 u4.toNatClampNeg) = u3 then
        some u4
      else
        f_X9_find_47 σ rc6 u1 u2 u3 u4
    else
      f_X9_find_47 σ rc6 u1 u2 u3 u4
def f_X9_find_6 (σ : zt_St) : Nat → Int32 → Int32 → Int32 → Int32 → Option (Int32)
  | 0, _, _, _, _ => none
  | n + 1, u1, u2, u3, u4 => f_X9_find_6b σ (f_X9_find_6 σ n) u1 u2 u3 u4
def f_X9_find (σ : zt_St) (x1 : Int32) (x2 : Int32) (x3 : Int32) : Option (Int32) :=
  f_X9_find_6 σ zt_FU x1 x2 x3 (32 * x1)

def f_X9_isThere_8b (σ : zt_St) (rc8 : Int32 → Int32 → Int32 → Int32 → Option (Int32)) (u1 : Int32) (u2 : Int32) (u3 : Int32) (u4 : Int32) : Option (Int32) :=
  zt_gd (zt_gI u1 13) <|
  if ((32 * u1) + (σ 103 u1.toNatClampNeg)) ≤ u4 then
    zt_gd (u3 == 0 || u3 == 1) <|
    some u3
  else
    zt_gd (zt_gI u4 416) <|
    zt_bd (f_X9_base (σ 104 u4.toNatClampNeg)) fun v5 =>
    zt_bd (f_X9_isUnder v5 u2) fun v7 =>
    rc8 u1 u2 (u3 ||| v7) (u4 + 1)
def f_X9_isThere_8 (σ : zt_St) : Nat → Int32 → Int32 → Int32 → Int32 → Option (Int32)
  | 0, _, _, _, _ => none
  | n + 1, u1, u2, u3, u4 => f_X9_isThere_8b σ (f_X9_isThere_8 σ n) u1 u2 u3 u4
def f_X9_isThere (σ : zt_St) (x1 : Int32) (x2 : Int32) : Option (Int32) :=
  f_X9_isThere_8 σ zt_FU x1 x2 0 (32 * x1)

def f_X9_isStarThere_48 (σ : zt_St) (rc8 : Int32 → Int32 → Int32 → Int32 → Option (Int32)) (y0 : Int32) (y1 : Int32) (u1 : Int32) (u2 : Int32) (u4 : Int32) : Option (Int32) :=
  rc8 u1 u2 (y1 ||| y0) (u4 + 1)
def f_X9_isStarThere_47 (σ : zt_St) (rc8 : Int32 → Int32 → Int32 → Int32 → Option (Int32)) (y0 : Int32) (u1 : Int32) (u2 : Int32) (u4 : Int32) : Option (Int32) :=
  f_X9_isStarThere_48 σ rc8 0 y0 u1 u2 u4
def f_X9_isStarThere_8b (σ : zt_St) (rc8 : Int32 → Int32 → Int32 → Int32 → Option (Int32)) (u1 : Int32) (u2 : Int32) (u3 : Int32) (u4 : Int32) : Option (Int32) :=
  zt_gd (zt_gI u1 13) <|
  if ((32 * u1) + (σ 103 u1.toNatClampNeg)) ≤ u4 then
    zt_gd (u3 == 0 || u3 == 1) <|
    some u3
  else
    if u2 ≤ 0 then
      f_X9_isStarThere_47 σ rc8 u3 u1 u2 u4
    else
      zt_gd (zt_gI u4 416) <|
      if (σ 104 u4.toNatClampNeg) = (10 * u2) then
        f_X9_isStarThere_48 σ rc8 1 u3 u1 u2 u4
      else
        f_X9_isStarThere_47 σ rc8 u3 u1 u2 u4
def f_X9_isStarThere_8 (σ : zt_St) : Nat → Int32 → Int32 → Int32 → Int32 → Option (Int32)
  | 0, _, _, _, _ => none
  | n + 1, u1, u2, u3, u4 => f_X9_isStarThere_8b σ (f_X9_isStarThere_8 σ n) u1 u2 u3 u4
def f_X9_isStarThere (σ : zt_St) (x1 : Int32) (x2 : Int32) : Option (Int32) :=
  f_X9_isStarThere_8 σ zt_FU x1 x2 0 (32 * x1)

def f_X9_isOwn_69 (σ : zt_St) (rc8 : Int32 → Int32 → Int32 → Int32 → Option (Int32)) (y0 : Int32) (y1 : Int32) (u1 : Int32) (u2 : Int32) (u4 : Int32) : Option (Int32) :=
  rc8 u1 u2 (y1 &&& y0) (u4 + 1)
def f_X9_isOwn_64 (σ : zt_St) (rc8 : Int32 → Int32 → Int32 → Int32 → Option (Int32)) (y0 : Int32) (u1 : Int32) (u2 : Int32) (u4 : Int32) : Option (Int32) :=
  f_X9_isOwn_69 σ rc8 1 y0 u1 u2 u4
def f_X9_isOwn_8b (σ : zt_St) (rc8 : Int32 → Int32 → Int32 → Int32 → Option (Int32)) (u1 : Int32) (u2 : Int32) (u3 : Int32) (u4 : Int32) : Option (Int32) :=
  zt_gd (zt_gI u1 13) <|
  if ((32 * u1) + (σ 103 u1.toNatClampNeg)) ≤ u4 then
    zt_gd (u3 == 0 || u3 == 1) <|
    some u3
  else
    zt_gd (zt_gI u4 416) <|
    if (σ 105 u4.toNatClampNeg) = 3 then
      zt_bd (f_X9_base u2) fun v6 =>
      zt_gd (zt_gI u4 416) <|
      zt_bd (f_X9_isUnder v6 (σ 104 u4.toNatClampNeg)) fun v9 =>
      if v9 = 0 then
        f_X9_isOwn_64 σ rc8 u3 u1 u2 u4
      else
        zt_gd (zt_gI u4 416) <|
        if u2 = (σ 104 u4.toNatClampNeg) then
          f_X9_isOwn_64 σ rc8 u3 u1 u2 u4
        else
          f_X9_isOwn_69 σ rc8 0 u3 u1 u2 u4
    else
      f_X9_isOwn_64 σ rc8 u3 u1 u2 u4
def f_X9_isOwn_8 (σ : zt_St) : Nat → Int32 → Int32 → Int32 → Int32 → Option (Int32)
  | 0, _, _, _, _ => none
  | n + 1, u1, u2, u3, u4 => f_X9_isOwn_8b σ (f_X9_isOwn_8 σ n) u1 u2 u3 u4
def f_X9_isOwn (σ : zt_St) (x1 : Int32) (x2 : Int32) : Option (Int32) :=
  f_X9_isOwn_8 σ zt_FU x1 x2 1 (32 * x1)

def f_X9_lays (σ : zt_St) (x1 : Int32) (x2 : Int32) (x3 : Int32) (x4 : Int32) (x5 : Int32) (x6 : Int32) : Option (zt_St) :=
  zt_gd (zt_gI ((32 * x1) + x2) 416) <|
  zt_lt (zt_st σ 104 ((32 * x1) + x2).toNatClampNeg x3) fun σ2 =>
  zt_gd (zt_gI ((32 * x1) + x2) 416) <|
  zt_lt (zt_st σ2 105 ((32 * x1) + x2).toNatClampNeg x4) fun σ4 =>
  zt_gd (zt_gI ((32 * x1) + x2) 416) <|
  zt_lt (zt_st σ4 106 ((32 * x1) + x2).toNatClampNeg x5) fun σ6 =>
  zt_gd (zt_gI ((32 * x1) + x2) 416) <|
  zt_lt (zt_st σ6 107 ((32 * x1) + x2).toNatClampNeg x6) fun σ8 =>
  some σ8

def f_X9_copies_14b (rc14 : zt_St → Int32 → Int32 → Int32 → Option (zt_St)) (σ : zt_St) (u1 : Int32) (u2 : Int32) (u3 : Int32) : Option (zt_St) :=
  zt_gd (zt_gI u1 13) <|
  if (σ 103 u1.toNatClampNeg) ≤ u3 then
    some σ
  else
    zt_gd (zt_gI ((32 * u1) + u3) 416) <|
    zt_gd (zt_gI ((32 * u1) + u3) 416) <|
    zt_gd (zt_gI ((32 * u1) + u3) 416) <|
    zt_gd (zt_gI ((32 * u1) + u3) 416) <|
    zt_bd (f_X9_lays σ u2 u3 (σ 104 ((32 * u1) + u3).toNatClampNeg) (σ 105 ((32 * u1) + u3).toNatClampNeg) (σ 106 ((32 * u1) + u3).toNatClampNeg) (σ 107 ((32 * u1) + u3).toNatClampNeg)) fun σ11 =>
    rc14 σ11 u1 u2 (u3 + 1)
def f_X9_copies_14 : Nat → zt_St → Int32 → Int32 → Int32 → Option (zt_St)
  | 0, _, _, _, _ => none
  | n + 1, σ, u1, u2, u3 => f_X9_copies_14b (f_X9_copies_14 n) σ u1 u2 u3
def f_X9_copies (σ : zt_St) (x1 : Int32) (x2 : Int32) : Option (zt_St) :=
  zt_gd (zt_gI x1 13) <|
  zt_gd (zt_gI x2 13) <|
  zt_lt (zt_st σ 103 x2.toNatClampNeg (σ 103 x1.toNatClampNeg)) fun σ3 =>
  f_X9_copies_14 zt_FU σ3 x1 x2 0

def f_X9_fitsAt_282 (σ : zt_St) : Option (Int32) :=
  some 1
def f_X9_fitsAt_252 (σ : zt_St) (y0 : Int32) (y1 : Int32) (u2 : Int32) (u3 : Int32) : Option (Int32) :=
  if (y1 &&& y0) = 0 then
    some 0
  else
    zt_gd (zt_gI u2 416) <|
    if (σ 105 u2.toNatClampNeg) = 4 then
      zt_bd (f_X9_find σ 12 u3 3) fun v45 =>
      if v45 = (-1) then
        some 0
      else
        f_X9_fitsAt_282 σ
    else
      f_X9_fitsAt_282 σ
def f_X9_fitsAt_247 (σ : zt_St) (y0 : Int32) (u2 : Int32) (u3 : Int32) : Option (Int32) :=
  f_X9_fitsAt_252 σ 1 y0 u2 u3
def f_X9_fitsAt_251 (σ : zt_St) (y0 : Int32) (u2 : Int32) (u3 : Int32) : Option (Int32) :=
  f_X9_fitsAt_252 σ 0 y0 u2 u3
def f_X9_fitsAt_194 (σ : zt_St) (y0 : Int32) (y1 : Int32) (u1 : Int32) (u2 : Int32) (u3 : Int32) : Option (Int32) :=
  zt_gd (zt_gI u2 416) <|
  if (σ 105 u2.toNatClampNeg) = 3 then
    zt_gd (zt_gI u1 6) <|
    if u3 = (σ 95 u1.toNatClampNeg) then
      f_X9_fitsAt_251 σ (y1 &&& y0) u2 u3
    else
      zt_gd (zt_gI u2 416) <|
      if (σ 94 2) ≤ (σ 106 u2.toNatClampNeg) then
        f_X9_fitsAt_251 σ (y1 &&& y0) u2 u3
      else
        zt_gd (zt_gI u2 416) <|
        zt_gd (zt_gI (σ 106 u2.toNatClampNeg) 6) <|
        if (σ 95 (σ 106 u2.toNatClampNeg).toNatClampNeg) = u3 then
          f_X9_fitsAt_247 σ (y1 &&& y0) u2 u3
        else
          f_X9_fitsAt_251 σ (y1 &&& y0) u2 u3
  else
    f_X9_fitsAt_247 σ (y1 &&& y0) u2 u3
def f_X9_fitsAt_189 (σ : zt_St) (y0 : Int32) (u1 : Int32) (u2 : Int32) (u3 : Int32) : Option (Int32) :=
  f_X9_fitsAt_194 σ 1 y0 u1 u2 u3
def f_X9_fitsAt_178 (σ : zt_St) (y0 : Int32) (u1 : Int32) (u2 : Int32) (u3 : Int32) : Option (Int32) :=
  if u3 = 0 then
    f_X9_fitsAt_189 σ y0 u1 u2 u3
  else
    if (u3 - u3 / 10 * 10) = 0 then
      f_X9_fitsAt_194 σ 0 y0 u1 u2 u3
    else
      f_X9_fitsAt_189 σ y0 u1 u2 u3
def f_X9_fitsAt_137 (σ : zt_St) (rc27 : Int32 → Int32 → Int32 → Int32 → Int32 → Option (Int32)) (y0 : Int32) (y1 : Int32) (u1 : Int32) (u2 : Int32) (u3 : Int32) (u5 : Int32) : Option (Int32) :=
  rc27 u1 u2 u3 (y1 &&& y0) (u5 + 1)
def f_X9_fitsAt_132 (σ : zt_St) (rc27 : Int32 → Int32 → Int32 → Int32 → Int32 → Option (Int32)) (y0 : Int32) (u1 : Int32) (u2 : Int32) (u3 : Int32) (u5 : Int32) : Option (Int32) :=
  f_X9_fitsAt_137 σ rc27 1 y0 u1 u2 u3 u5
def f_X9_fitsAt_89 (σ : zt_St) (rc27 : Int32 → Int32 → Int32 → Int32 → Int32 → Option (Int32)) (y0 : Int32) (y1 : Int32) (u1 : Int32) (u2 : Int32) (u3 : Int32) (u5 : Int32) : Option (Int32) :=
  zt_gd (zt_gI u2 416) <|
  if (σ 105 u2.toNatClampNeg) = 2 then
    zt_gd (zt_gI u5 416) <|
    if (σ 104 u5.toNatClampNeg) = u3 then
      f_X9_fitsAt_132 σ rc27 (y1 &&& y0) u1 u2 u3 u5
    else
      zt_gd (zt_gI u5 416) <|
      zt_bd (f_X9_base (σ 104 u5.toNatClampNeg)) fun v37 =>
      zt_bd (f_X9_isUnder v37 u3) fun v39 =>
      if v39 = 0 then
        f_X9_fitsAt_132 σ rc27 (y1 &&& y0) u1 u2 u3 u5
      else
        f_X9_fitsAt_137 σ rc27 0 (y1 &&& y0) u1 u2 u3 u5
  else
    f_X9_fitsAt_132 σ rc27 (y1 &&& y0) u1 u2 u3 u5
def f_X9_fitsAt_84 (σ : zt_St) (rc27 : Int32 → Int32 → Int32 → Int32 → Int32 → Option (Int32)) (y0 : Int32) (u1 : Int32) (u2 : Int32) (u3 : Int32) (u5 : Int32) : Option (Int32) :=
  f_X9_fitsAt_89 σ rc27 1 y0 u1 u2 u3 u5
def f_X9_fitsAt_65 (σ : zt_St) (rc27 : Int32 → Int32 → Int32 → Int32 → Int32 → Option (Int32)) (y0 : Int32) (u1 : Int32) (u2 : Int32) (u3 : Int32) (u4 : Int32) (u5 : Int32) : Option (Int32) :=
  zt_gd (zt_gI u2 416) <|
  if (σ 105 u2.toNatClampNeg) = 1 then
    if y0 = 0 then
      f_X9_fitsAt_84 σ rc27 u4 u1 u2 u3 u5
    else
      f_X9_fitsAt_89 σ rc27 0 u4 u1 u2 u3 u5
  else
    f_X9_fitsAt_84 σ rc27 u4 u1 u2 u3 u5
def f_X9_fitsAt_64 (σ : zt_St) (rc27 : Int32 → Int32 → Int32 → Int32 → Int32 → Option (Int32)) (u1 : Int32) (u2 : Int32) (u3 : Int32) (u4 : Int32) (u5 : Int32) : Option (Int32) :=
  f_X9_fitsAt_65 σ rc27 0 u1 u2 u3 u4 u5
def f_X9_fitsAt_27b (σ : zt_St) (rc27 : Int32 → Int32 → Int32 → Int32 → Int32 → Option (Int32)) (u1 : Int32) (u2 : Int32) (u3 : Int32) (u4 : Int32) (u5 : Int32) : Option (Int32) :=
  if (384 + (σ 103 (12 : Int32).toNatClampNeg)) ≤ u5 then
    zt_gd (zt_gI u2 416) <|
    if (σ 105 u2.toNatClampNeg) = 2 then
      f_X9_fitsAt_178 σ u4 u1 u2 u3
    else
      zt_gd (zt_gI u2 416) <|
      if (σ 105 u2.toNatClampNeg) = 3 then
        f_X9_fitsAt_178 σ u4 u1 u2 u3
      else
        zt_gd (zt_gI u2 416) <|
        if (σ 105 u2.toNatClampNeg) = 4 then
          f_X9_fitsAt_178 σ u4 u1 u2 u3
        else
          f_X9_fitsAt_189 σ u4 u1 u2 u3
  else
    if u5 = u2 then
      f_X9_fitsAt_64 σ rc27 u1 u2 u3 u4 u5
    else
      zt_gd (zt_gI u5 416) <|
      if (σ 104 u5.toNatClampNeg) = u3 then
        f_X9_fitsAt_65 σ rc27 1 u1 u2 u3 u4 u5
      else
        f_X9_fitsAt_64 σ rc27 u1 u2 u3 u4 u5
def f_X9_fitsAt_27 (σ : zt_St) : Nat → Int32 → Int32 → Int32 → Int32 → Int32 → Option (Int32)
  | 0, _, _, _, _, _ => none
  | n + 1, u1, u2, u3, u4, u5 => f_X9_fitsAt_27b σ (f_X9_fitsAt_27 σ n) u1 u2 u3 u4 u5
def f_X9_fitsAt (σ : zt_St) (x1 : Int32) (x2 : Int32) : Option (Int32) :=
  zt_gd (zt_gI x2 416) <|
  zt_bd (f_X9_base (σ 104 x2.toNatClampNeg)) fun v2 =>
  zt_gd (zt_gI x1 6) <|
  zt_bd (f_X9_isUnder v2 (σ 95 x1.toNatClampNeg)) fun v5 =>
  f_X9_fitsAt_27 σ zt_FU x1 x2 (σ 104 x2.toNatClampNeg) v5 384

def f_X9_fits_55 (σ : zt_St) (rc22 : Int32 → Int32 → Int32 → Option (Int32)) (y0 : Int32) (u1 : Int32) (u3 : Int32) : Option (Int32) :=
  rc22 u1 y0 (u3 + 1)
def f_X9_fits_54 (σ : zt_St) (rc22 : Int32 → Int32 → Int32 → Option (Int32)) (u1 : Int32) (u3 : Int32) : Option (Int32) :=
  f_X9_fits_55 σ rc22 0 u1 u3
def f_X9_fits_22b (σ : zt_St) (rc22 : Int32 → Int32 → Int32 → Option (Int32)) (u1 : Int32) (u2 : Int32) (u3 : Int32) : Option (Int32) :=
  if (384 + (σ 103 (12 : Int32).toNatClampNeg)) ≤ u3 then
    zt_gd (u2 == 0 || u2 == 1) <|
    some u2
  else
    if u2 = 0 then
      f_X9_fits_54 σ rc22 u1 u3
    else
      zt_bd (f_X9_fitsAt σ u1 u3) fun v7 =>
      if v7 = 0 then
        f_X9_fits_54 σ rc22 u1 u3
      else
        f_X9_fits_55 σ rc22 1 u1 u3
def f_X9_fits_22 (σ : zt_St) : Nat → Int32 → Int32 → Int32 → Option (Int32)
  | 0, _, _, _ => none
  | n + 1, u1, u2, u3 => f_X9_fits_22b σ (f_X9_fits_22 σ n) u1 u2 u3
def f_X9_fits_17 (σ : zt_St) (y0 : Int32) (u1 : Int32) : Option (Int32) :=
  f_X9_fits_22 σ zt_FU u1 y0 384
def f_X9_fits (σ : zt_St) (x1 : Int32) : Option (Int32) :=
  if 20 < (σ 103 (12 : Int32).toNatClampNeg) then
    f_X9_fits_17 σ 0 x1
  else
    f_X9_fits_17 σ 1 x1

def f_X9_isZone (σ : zt_St) (x1 : Int32) : Option (Int32) :=
  zt_bd (f_X9_in x1 0 ((σ 94 2) - 1)) fun v1 =>
  zt_gd (v1 == 0 || v1 == 1) <|
  some v1

def f_X9_zone_79 (σ : zt_St) (y0 : Int32) (u1 : Int32) (u2 : Int32) (u3 : Int32) : Option (Int32 × zt_St) :=
  zt_bd (f_X9_asked_ σ y0 u3) fun q14 => zt_lt q14.1 fun v12 => zt_lt q14.2 fun σ13 =>
  if v12 = 0 then
    some (0, σ13)
  else
    zt_gd (zt_gI (σ13 94 2) 6) <|
    zt_lt (zt_st σ13 95 (σ13 94 2).toNatClampNeg u1) fun σ17 =>
    zt_gd (zt_gI (σ17 94 2) 6) <|
    zt_lt (zt_st σ17 96 (σ17 94 2).toNatClampNeg u2) fun σ19 =>
    zt_lt (zt_st σ19 94 2 ((σ19 94 2) + 1)) fun σ20 =>
    some (((σ20 94 2) - 1), σ20)
def f_X9_zone_78 (σ : zt_St) (u1 : Int32) (u2 : Int32) (u3 : Int32) : Option (Int32 × zt_St) :=
  f_X9_zone_79 σ 0 u1 u2 u3
def f_X9_zone_44 (rc18 : zt_St → Int32 → Int32 → Int32 → Int32 → Option (Int32 × zt_St)) (σ : zt_St) (y0 : Int32) (y1 : Int32) (u1 : Int32) (u2 : Int32) (u4 : Int32) : Option (Int32 × zt_St) :=
  rc18 σ u1 u2 (y1 &&& y0) (u4 + 1)
def f_X9_zone_18b (rc18 : zt_St → Int32 → Int32 → Int32 → Int32 → Option (Int32 × zt_St)) (σ : zt_St) (u1 : Int32) (u2 : Int32) (u3 : Int32) (u4 : Int32) : Option (Int32 × zt_St) :=
  if (σ 94 2) ≤ u4 then
    zt_bd (f_X9_isName u1) fun v3 =>
    if v3 = 0 then
      f_X9_zone_78 σ u1 u2 u3
    else
      if u1 ≤ 0 then
        f_X9_zone_78 σ u1 u2 u3
      else
        zt_bd (f_X9_in u2 1 50) fun v7 =>
        if v7 = 0 then
          f_X9_zone_78 σ u1 u2 u3
        else
          f_X9_zone_79 σ 1 u1 u2 u3
  else
    zt_gd (zt_gI u4 6) <|
    if (σ 95 u4.toNatClampNeg) = u1 then
      f_X9_zone_44 rc18 σ 0 u3 u1 u2 u4
    else
      f_X9_zone_44 rc18 σ 1 u3 u1 u2 u4
def f_X9_zone_18 : Nat → zt_St → Int32 → Int32 → Int32 → Int32 → Option (Int32 × zt_St)
  | 0, _, _, _, _, _ => none
  | n + 1, σ, u1, u2, u3, u4 => f_X9_zone_18b (f_X9_zone_18 n) σ u1 u2 u3 u4
def f_X9_zone_14 (σ : zt_St) (y0 : Int32) (u1 : Int32) (u2 : Int32) : Option (Int32 × zt_St) :=
  f_X9_zone_18 zt_FU σ u1 u2 y0 0
def f_X9_zone (σ : zt_St) (x1 : Int32) (x2 : Int32) : Option (Int32 × zt_St) :=
  if 6 ≤ (σ 94 2) then
    f_X9_zone_14 σ 0 x1 x2
  else
    f_X9_zone_14 σ 1 x1 x2

def f_X9_tells_41 (σ : zt_St) (y0 : Int32) (y1 : Int32) (u2 : Int32) (u3 : Int32) (u4 : Int32) (u5 : Int32) (u6 : Int32) : Option (Int32 × zt_St) :=
  zt_bd (f_X9_asked_ σ y1 y0) fun q11 => zt_lt q11.1 fun v9 => zt_lt q11.2 fun σ10 =>
  if v9 = 0 then
    some (0, σ10)
  else
    zt_gd (zt_gI (σ10 94 17) 10) <|
    zt_lt (zt_st σ10 108 (σ10 94 17).toNatClampNeg u2) fun σ14 =>
    zt_gd (zt_gI (σ14 94 17) 10) <|
    zt_lt (zt_st σ14 109 (σ14 94 17).toNatClampNeg u3) fun σ16 =>
    zt_gd (zt_gI (σ16 94 17) 10) <|
    zt_lt (zt_st σ16 110 (σ16 94 17).toNatClampNeg u4) fun σ18 =>
    zt_gd (zt_gI (σ18 94 17) 10) <|
    zt_lt (zt_st σ18 111 (σ18 94 17).toNatClampNeg u5) fun σ20 =>
    zt_gd (zt_gI (σ20 94 17) 10) <|
    zt_lt (zt_st σ20 112 (σ20 94 17).toNatClampNeg u6) fun σ22 =>
    zt_lt (zt_st σ22 94 17 ((σ22 94 17) + 1)) fun σ23 =>
    some ((σ23 94 17), σ23)
def f_X9_tells_27 (σ : zt_St) (y0 : Int32) (u2 : Int32) (u3 : Int32) (u4 : Int32) (u5 : Int32) (u6 : Int32) : Option (Int32 × zt_St) :=
  if 10 ≤ (σ 94 17) then
    f_X9_tells_41 σ 0 y0 u2 u3 u4 u5 u6
  else
    f_X9_tells_41 σ 1 y0 u2 u3 u4 u5 u6
def f_X9_tells_26 (σ : zt_St) (u2 : Int32) (u3 : Int32) (u4 : Int32) (u5 : Int32) (u6 : Int32) : Option (Int32 × zt_St) :=
  f_X9_tells_27 σ 0 u2 u3 u4 u5 u6
def f_X9_tells (σ : zt_St) (x1 : Int32) (x2 : Int32) (x3 : Int32) (x4 : Int32) (x5 : Int32) (x6 : Int32) : Option (Int32 × zt_St) :=
  if x1 = 0 then
    f_X9_tells_26 σ x2 x3 x4 x5 x6
  else
    zt_bd (f_X9_isPlace x3) fun v2 =>
    if v2 = 0 then
      f_X9_tells_26 σ x2 x3 x4 x5 x6
    else
      zt_bd (f_X9_in x4 0 4) fun v5 =>
      if v5 = 0 then
        f_X9_tells_26 σ x2 x3 x4 x5 x6
      else
        f_X9_tells_27 σ 1 x2 x3 x4 x5 x6

def f_X9_need_11 (σ : zt_St) (y0 : Int32) (u1 : Int32) (u2 : Int32) : Option (Int32 × zt_St) :=
  zt_bd (f_X9_tells σ 1 y0 u1 u2 0 0) fun q4 => zt_lt q4.1 fun v2 => zt_lt q4.2 fun σ3 =>
  some (v2, σ3)
def f_X9_need (σ : zt_St) (x1 : Int32) (x2 : Int32) (x3 : Int32) : Option (Int32 × zt_St) :=
  if x3 = 0 then
    f_X9_need_11 σ 1 x1 x2
  else
    f_X9_need_11 σ 0 x1 x2

def f_X9_isNumber (x0 : Int32) (x1 : Int32) : Option (Int32) :=
  if x0 = 0 then
    zt_bd (f_X9_in x1 0 99) fun v13 =>
    zt_gd (v13 == 0 || v13 == 1) <|
    some v13
  else
    if x0 = 3 then
      zt_bd (f_X9_in x1 0 5) fun v10 =>
      zt_gd (v10 == 0 || v10 == 1) <|
      some v10
    else
      if x0 = 4 then
        zt_bd (f_X9_in x1 0 996) fun v7 =>
        zt_gd (v7 == 0 || v7 == 1) <|
        some v7
      else
        zt_bd (f_X9_isName x1) fun v4 =>
        zt_gd (v4 == 0 || v4 == 1) <|
        some v4

def f_X9_put_25 (σ : zt_St) (y0 : Int32) (u1 : Int32) (u2 : Int32) (u3 : Int32) (u4 : Int32) : Option (Int32 × zt_St) :=
  zt_bd (f_X9_tells σ y0 2 u1 u2 u3 u4) fun q9 => zt_lt q9.1 fun v7 => zt_lt q9.2 fun σ8 =>
  some (v7, σ8)
def f_X9_put_24 (σ : zt_St) (u1 : Int32) (u2 : Int32) (u3 : Int32) (u4 : Int32) : Option (Int32 × zt_St) :=
  f_X9_put_25 σ 0 u1 u2 u3 u4
def f_X9_put (σ : zt_St) (x1 : Int32) (x2 : Int32) (x3 : Int32) (x4 : Int32) : Option (Int32 × zt_St) :=
  zt_bd (f_X9_isNumber x2 x3) fun v1 =>
  if v1 = 0 then
    f_X9_put_24 σ x1 x2 x3 x4
  else
    zt_bd (f_X9_in x4 1 50) fun v4 =>
    if v4 = 0 then
      f_X9_put_24 σ x1 x2 x3 x4
    else
      f_X9_put_25 σ 1 x1 x2 x3 x4

def f_X9_drop (σ : zt_St) (x1 : Int32) (x2 : Int32) : Option (Int32 × zt_St) :=
  zt_bd (f_X9_tells σ 1 3 x1 x2 0 0) fun q3 => zt_lt q3.1 fun v1 => zt_lt q3.2 fun σ2 =>
  some (v1, σ2)

def f_X9_does_50 (σ : zt_St) (y0 : Int32) (y1 : Int32) : Option (Int32 × zt_St) :=
  if y1 = y0 then
    some (1, σ)
  else
    some (0, σ)
def f_X9_does_36 (σ : zt_St) (y0 : Int32) (u2 : Int32) : Option (Int32 × zt_St) :=
  zt_gd (zt_gI u2 10) <|
  if (σ 108 u2.toNatClampNeg) = 0 then
    f_X9_does_50 σ 1 y0
  else
    f_X9_does_50 σ 0 y0
def f_X9_does_160 (σ : zt_St) (y0 : Int32) (y1 : Int32) : Option (Int32 × zt_St) :=
  zt_lt (zt_st σ 103 (12 : Int32).toNatClampNeg (y1 + y0)) fun σ39 =>
  some (1, σ39)
def f_X9_does_108 (σ : zt_St) (y0 : Int32) (u2 : Int32) (u3 : Int32) : Option (Int32 × zt_St) :=
  zt_gd (zt_gI u2 10) <|
  zt_gd (zt_gI u2 10) <|
  zt_gd (zt_gI u2 10) <|
  zt_gd (zt_gI u2 10) <|
  zt_bd (f_X9_lays σ 12 y0 (σ 109 u2.toNatClampNeg) (σ 110 u2.toNatClampNeg) (σ 111 u2.toNatClampNeg) (σ 112 u2.toNatClampNeg)) fun σ33 =>
  if u3 = (-1) then
    f_X9_does_160 σ33 1 (σ33 103 (12 : Int32).toNatClampNeg)
  else
    f_X9_does_160 σ33 0 (σ33 103 (12 : Int32).toNatClampNeg)
def f_X9_does_234 (σ : zt_St) (u3 : Int32) : Option (Int32 × zt_St) :=
  if u3 = (-1) then
    some (0, σ)
  else
    some (1, σ)
def f_X9_does (σ : zt_St) (x1 : Int32) (x2 : Int32) : Option (Int32 × zt_St) :=
  zt_gd (zt_gI x2 10) <|
  if 2 ≤ (σ 108 x2.toNatClampNeg) then
    zt_gd (zt_gI x2 10) <|
    zt_gd (zt_gI x2 10) <|
    zt_bd (f_X9_find σ 12 (σ 109 x2.toNatClampNeg) (σ 110 x2.toNatClampNeg)) fun v5 =>
    zt_gd (zt_gI x2 10) <|
    if (σ 108 x2.toNatClampNeg) = 2 then
      if v5 = (-1) then
        f_X9_does_108 σ (σ 103 (12 : Int32).toNatClampNeg) x2 v5
      else
        f_X9_does_108 σ (v5 - 384) x2 v5
    else
      if v5 = (-1) then
        f_X9_does_234 σ v5
      else
        zt_gd (zt_gI ((384 + (σ 103 (12 : Int32).toNatClampNeg)) - 1) 416) <|
        zt_gd (zt_gI ((384 + (σ 103 (12 : Int32).toNatClampNeg)) - 1) 416) <|
        zt_gd (zt_gI ((384 + (σ 103 (12 : Int32).toNatClampNeg)) - 1) 416) <|
        zt_gd (zt_gI ((384 + (σ 103 (12 : Int32).toNatClampNeg)) - 1) 416) <|
        zt_bd (f_X9_lays σ 12 (v5 - 384) (σ 104 ((384 + (σ 103 (12 : Int32).toNatClampNeg)) - 1).toNatClampNeg) (σ 105 ((384 + (σ 103 (12 : Int32).toNatClampNeg)) - 1).toNatClampNeg) (σ 106 ((384 + (σ 103 (12 : Int32).toNatClampNeg)) - 1).toNatClampNeg) (σ 107 ((384 + (σ 103 (12 : Int32).toNatClampNeg)) - 1).toNatClampNeg)) fun σ16 =>
        zt_lt (zt_st σ16 103 (12 : Int32).toNatClampNeg ((σ16 103 (12 : Int32).toNatClampNeg) - 1)) fun σ19 =>
        f_X9_does_234 σ19 v5
  else
    zt_gd (zt_gI x2 10) <|
    zt_gd (zt_gI x2 10) <|
    zt_bd (f_X9_find σ x1 (σ 109 x2.toNatClampNeg) (σ 110 x2.toNatClampNeg)) fun v24 =>
    if v24 = (-1) then
      f_X9_does_36 σ 0 x2
    else
      f_X9_does_36 σ 1 x2

def f_X9_update_72 (σ : zt_St) (y0 : Int32) (u1 : Int32) : Option (Int32 × zt_St) :=
  if y0 = 0 then
    zt_gd (y0 == 0 || y0 == 1) <|
    some (y0, σ)
  else
    zt_bd (f_X9_copies σ 12 u1) fun σ22 =>
    zt_gd (zt_gI u1 6) <|
    zt_gd (zt_gI u1 6) <|
    zt_lt (zt_st σ22 97 u1.toNatClampNeg (((σ22 97 u1.toNatClampNeg) + 1) - ((σ22 97 u1.toNatClampNeg) + 1) / 16 * 16)) fun σ25 =>
    zt_gd (y0 == 0 || y0 == 1) <|
    some (y0, σ25)
def f_X9_update_71 (σ : zt_St) (u1 : Int32) : Option (Int32 × zt_St) :=
  f_X9_update_72 σ 0 u1
def f_X9_update_50 (σ : zt_St) (u1 : Int32) (u2 : Int32) : Option (Int32 × zt_St) :=
  zt_lt (zt_st σ 94 17 0) fun σ14 =>
  if u2 = 0 then
    f_X9_update_71 σ14 u1
  else
    zt_bd (f_X9_fits σ14 u1) fun v16 =>
    if v16 = 0 then
      f_X9_update_71 σ14 u1
    else
      f_X9_update_72 σ14 1 u1
def f_X9_update_25b (rc25 : zt_St → Int32 → Int32 → Int32 → Option (Int32 × zt_St)) (σ : zt_St) (u1 : Int32) (u2 : Int32) (u3 : Int32) : Option (Int32 × zt_St) :=
  if (σ 94 17) ≤ u3 then
    f_X9_update_50 σ u1 u2
  else
    if u2 = 0 then
      f_X9_update_50 σ u1 u2
    else
      zt_bd (f_X9_does σ u1 u3) fun q13 => zt_lt q13.1 fun v11 => zt_lt q13.2 fun σ12 =>
      rc25 σ12 u1 v11 (u3 + 1)
def f_X9_update_25 : Nat → zt_St → Int32 → Int32 → Int32 → Option (Int32 × zt_St)
  | 0, _, _, _, _ => none
  | n + 1, σ, u1, u2, u3 => f_X9_update_25b (f_X9_update_25 n) σ u1 u2 u3
def f_X9_update (σ : zt_St) (x1 : Int32) : Option (Int32 × zt_St) :=
  zt_bd (f_X9_isZone σ x1) fun v1 =>
  zt_bd (f_X9_asked σ v1) fun q5 => zt_lt q5.1 fun v3 => zt_lt q5.2 fun σ4 =>
  if v3 = 0 then
    some (0, σ4)
  else
    zt_bd (f_X9_copies σ4 x1 12) fun σ8 =>
    f_X9_update_25 zt_FU σ8 x1 1 0

def f_X9_wasAhead_9b (σ : zt_St) (rc9 : Int32 → Int32 → Int32 → Int32 → Option (Int32)) (u2 : Int32) (u3 : Int32) (u4 : Int32) (u5 : Int32) : Option (Int32) :=
  if u2 ≤ u5 then
    zt_gd (u4 == 0 || u4 == 1) <|
    some u4
  else
    zt_gd (zt_gI u5 416) <|
    zt_bd (f_X9_base (σ 104 u5.toNatClampNeg)) fun v4 =>
    zt_bd (f_X9_isUnder v4 u3) fun v6 =>
    rc9 u2 u3 (u4 ||| v6) (u5 + 1)
def f_X9_wasAhead_9 (σ : zt_St) : Nat → Int32 → Int32 → Int32 → Int32 → Option (Int32)
  | 0, _, _, _, _ => none
  | n + 1, u2, u3, u4, u5 => f_X9_wasAhead_9b σ (f_X9_wasAhead_9 σ n) u2 u3 u4 u5
def f_X9_wasAhead (σ : zt_St) (x1 : Int32) (x2 : Int32) (x3 : Int32) : Option (Int32) :=
  f_X9_wasAhead_9 σ zt_FU x2 x3 0 (32 * x1)

def f_X9_names_93 (σ : zt_St) (rc7 : Int32 → Int32 → Int32 → Option (Int32)) (rc33 : Int32 → Int32 → Int32 → Int32 → Option (Int32)) (y0 : Int32) (y1 : Int32) (u1 : Int32) (u3 : Int32) (u4 : Int32) : Option (Int32) :=
  rc33 u1 (y1 + y0) u3 (u4 + 1)
def f_X9_names_92 (σ : zt_St) (rc7 : Int32 → Int32 → Int32 → Option (Int32)) (rc33 : Int32 → Int32 → Int32 → Int32 → Option (Int32)) (y0 : Int32) (u1 : Int32) (u3 : Int32) (u4 : Int32) : Option (Int32) :=
  f_X9_names_93 σ rc7 rc33 0 y0 u1 u3 u4
def f_X9_names_33b (σ : zt_St) (rc7 : Int32 → Int32 → Int32 → Option (Int32)) (rc33 : Int32 → Int32 → Int32 → Int32 → Option (Int32)) (u1 : Int32) (u2 : Int32) (u3 : Int32) (u4 : Int32) : Option (Int32) :=
  zt_gd (zt_gI u3 416) <|
  zt_bd (f_X9_base (σ 104 u3.toNatClampNeg)) fun v7 =>
  zt_bd (f_X9_figures v7) fun v9 =>
  if v9 < u4 then
    rc7 u1 u2 (u3 + 1)
  else
    zt_gd (zt_gI u3 416) <|
    zt_bd (f_X9_base (σ 104 u3.toNatClampNeg)) fun v13 =>
    zt_bd (f_X9_head v13 u4) fun v15 =>
    zt_bd (f_X9_isOwn σ u1 v15) fun v17 =>
    if v17 = 0 then
      f_X9_names_92 σ rc7 rc33 u2 u1 u3 u4
    else
      zt_bd (f_X9_wasAhead σ u1 u3 v15) fun v20 =>
      if v20 = 0 then
        f_X9_names_93 σ rc7 rc33 1 u2 u1 u3 u4
      else
        f_X9_names_92 σ rc7 rc33 u2 u1 u3 u4
def f_X9_names_33 (σ : zt_St) (rc7 : Int32 → Int32 → Int32 → Option (Int32)) : Nat → Int32 → Int32 → Int32 → Int32 → Option (Int32)
  | 0, _, _, _, _ => none
  | n + 1, u1, u2, u3, u4 => f_X9_names_33b σ rc7 (f_X9_names_33 σ rc7 n) u1 u2 u3 u4
def f_X9_names_7b (σ : zt_St) (rc7 : Int32 → Int32 → Int32 → Option (Int32)) (u1 : Int32) (u2 : Int32) (u3 : Int32) : Option (Int32) :=
  zt_gd (zt_gI u1 13) <|
  if ((32 * u1) + (σ 103 u1.toNatClampNeg)) ≤ u3 then
    some u2
  else
    zt_gd (zt_gI u1 6) <|
    zt_bd (f_X9_figures (σ 95 u1.toNatClampNeg)) fun v4 =>
    f_X9_names_33 σ rc7 zt_FU u1 u2 u3 v4
def f_X9_names_7 (σ : zt_St) : Nat → Int32 → Int32 → Int32 → Option (Int32)
  | 0, _, _, _ => none
  | n + 1, u1, u2, u3 => f_X9_names_7b σ (f_X9_names_7 σ n) u1 u2 u3
def f_X9_names (σ : zt_St) (x1 : Int32) : Option (Int32) :=
  f_X9_names_7 σ zt_FU x1 0 (32 * x1)

def f_X9_zoneHas (σ : zt_St) (x1 : Int32) (x2 : Int32) : Option (Int32 × zt_St) :=
  zt_bd (f_X9_isZone σ x1) fun v1 =>
  zt_bd (f_X9_in x2 0 4) fun v3 =>
  zt_bd (f_X9_asked_ σ v1 v3) fun q7 => zt_lt q7.1 fun v5 => zt_lt q7.2 fun σ6 =>
  if v5 = 0 then
    some (0, σ6)
  else
    if x2 = 0 then
      zt_gd (zt_gI x1 6) <|
      some ((σ6 95 x1.toNatClampNeg), σ6)
    else
      if x2 = 1 then
        zt_gd (zt_gI x1 6) <|
        some ((σ6 97 x1.toNatClampNeg), σ6)
      else
        if x2 = 2 then
          zt_gd (zt_gI x1 13) <|
          some ((σ6 103 x1.toNatClampNeg), σ6)
        else
          if x2 = 3 then
            zt_gd (zt_gI x1 6) <|
            some ((σ6 98 x1.toNatClampNeg), σ6)
          else
            zt_bd (f_X9_names σ6 x1) fun v13 =>
            some (v13, σ6)

def f_X9_record_27 (σ : zt_St) (y0 : Int32) (y1 : Int32) (u1 : Int32) (u2 : Int32) (u3 : Int32) : Option (Int32 × zt_St) :=
  zt_bd (f_X9_asked_ σ y1 y0) fun q11 => zt_lt q11.1 fun v9 => zt_lt q11.2 fun σ10 =>
  if v9 = 0 then
    some (0, σ10)
  else
    zt_bd (f_X9_find σ10 u1 u2 u3) fun v13 =>
    if v13 = (-1) then
      some ((-1), σ10)
    else
      zt_gd (zt_gI v13 416) <|
      some ((σ10 106 v13.toNatClampNeg), σ10)
def f_X9_record_26 (σ : zt_St) (y0 : Int32) (u1 : Int32) (u2 : Int32) (u3 : Int32) : Option (Int32 × zt_St) :=
  f_X9_record_27 σ 0 y0 u1 u2 u3
def f_X9_record (σ : zt_St) (x1 : Int32) (x2 : Int32) (x3 : Int32) : Option (Int32 × zt_St) :=
  zt_bd (f_X9_isZone σ x1) fun v1 =>
  zt_bd (f_X9_isPlace x2) fun v3 =>
  if v3 = 0 then
    f_X9_record_26 σ v1 x1 x2 x3
  else
    zt_bd (f_X9_in x3 0 4) fun v6 =>
    if v6 = 0 then
      f_X9_record_26 σ v1 x1 x2 x3
    else
      f_X9_record_27 σ 1 v1 x1 x2 x3

def f_X9_unlike_91 (σ : zt_St) (rc8 : Int32 → Int32 → Int32 → Int32 → Option (Int32)) (y0 : Int32) (y1 : Int32) (u1 : Int32) (u2 : Int32) (u4 : Int32) : Option (Int32) :=
  rc8 u1 u2 (y1 + y0) (u4 + 1)
def f_X9_unlike_86 (σ : zt_St) (rc8 : Int32 → Int32 → Int32 → Int32 → Option (Int32)) (y0 : Int32) (u1 : Int32) (u2 : Int32) (u4 : Int32) : Option (Int32) :=
  f_X9_unlike_91 σ rc8 1 y0 u1 u2 u4
def f_X9_unlike_8b (σ : zt_St) (rc8 : Int32 → Int32 → Int32 → Int32 → Option (Int32)) (u1 : Int32) (u2 : Int32) (u3 : Int32) (u4 : Int32) : Option (Int32) :=
  zt_gd (zt_gI u1 13) <|
  if ((32 * u1) + (σ 103 u1.toNatClampNeg)) ≤ u4 then
    some u3
  else
    zt_gd (zt_gI u4 416) <|
    zt_gd (zt_gI u4 416) <|
    zt_bd (f_X9_find σ u2 (σ 104 u4.toNatClampNeg) (σ 105 u4.toNatClampNeg)) fun v5 =>
    if v5 = (-1) then
      f_X9_unlike_86 σ rc8 u3 u1 u2 u4
    else
      zt_gd (zt_gI v5 416) <|
      zt_gd (zt_gI u4 416) <|
      if (σ 106 v5.toNatClampNeg) = (σ 106 u4.toNatClampNeg) then
        zt_gd (zt_gI v5 416) <|
        zt_gd (zt_gI u4 416) <|
        if (σ 107 v5.toNatClampNeg) = (σ 107 u4.toNatClampNeg) then
          f_X9_unlike_91 σ rc8 0 u3 u1 u2 u4
        else
          f_X9_unlike_86 σ rc8 u3 u1 u2 u4
      else
        f_X9_unlike_86 σ rc8 u3 u1 u2 u4
def f_X9_unlike_8 (σ : zt_St) : Nat → Int32 → Int32 → Int32 → Int32 → Option (Int32)
  | 0, _, _, _, _ => none
  | n + 1, u1, u2, u3, u4 => f_X9_unlike_8b σ (f_X9_unlike_8 σ n) u1 u2 u3 u4
def f_X9_unlike (σ : zt_St) (x1 : Int32) (x2 : Int32) : Option (Int32) :=
  f_X9_unlike_8 σ zt_FU x1 x2 0 (32 * x1)

def f_X9_bringUp_103 (σ : zt_St) (y0 : Int32) (u1 : Int32) : Option (Int32 × zt_St) :=
  zt_bd (f_X9_copies σ u1 (6 + u1)) fun σ22 =>
  zt_gd (zt_gI u1 6) <|
  zt_gd (zt_gI u1 6) <|
  zt_lt (zt_st σ22 98 u1.toNatClampNeg (σ22 97 u1.toNatClampNeg)) fun σ25 =>
  some (y0, σ25)
def f_X9_bringUp_70 (σ : zt_St) (y0 : Int32) (u1 : Int32) : Option (Int32 × zt_St) :=
  if y0 = 0 then
    zt_gd (zt_gI u1 13) <|
    f_X9_bringUp_103 σ (σ 103 u1.toNatClampNeg) u1
  else
    zt_bd (f_X9_unlike σ u1 (6 + u1)) fun v17 =>
    zt_bd (f_X9_unlike σ (6 + u1) u1) fun v19 =>
    f_X9_bringUp_103 σ (v17 + v19) u1
def f_X9_bringUp_69 (σ : zt_St) (u1 : Int32) : Option (Int32 × zt_St) :=
  f_X9_bringUp_70 σ 0 u1
def f_X9_bringUp_50 (σ : zt_St) (u1 : Int32) (u2 : Int32) : Option (Int32 × zt_St) :=
  zt_gd (zt_gI u1 6) <|
  if (σ 98 u1.toNatClampNeg) = (-1) then
    f_X9_bringUp_69 σ u1
  else
    if 4 < u2 then
      f_X9_bringUp_69 σ u1
    else
      f_X9_bringUp_70 σ 1 u1
def f_X9_bringUp (σ : zt_St) (x1 : Int32) : Option (Int32 × zt_St) :=
  zt_bd (f_X9_isZone σ x1) fun v1 =>
  zt_bd (f_X9_asked σ v1) fun q5 => zt_lt q5.1 fun v3 => zt_lt q5.2 fun σ4 =>
  if v3 = 0 then
    some (0, σ4)
  else
    zt_gd (zt_gI x1 6) <|
    zt_gd (zt_gI x1 6) <|
    zt_gd (zt_gI x1 6) <|
    if (σ4 98 x1.toNatClampNeg) = (-1) then
      f_X9_bringUp_50 σ4 x1 ((((σ4 97 x1.toNatClampNeg) - (σ4 98 x1.toNatClampNeg)) + 16) - (((σ4 97 x1.toNatClampNeg) - (σ4 98 x1.toNatClampNeg)) + 16) / 16 * 16)
    else
      if ((((σ4 97 x1.toNatClampNeg) - (σ4 98 x1.toNatClampNeg)) + 16) - (((σ4 97 x1.toNatClampNeg) - (σ4 98 x1.toNatClampNeg)) + 16) / 16 * 16) = 0 then
        some (0, σ4)
      else
        f_X9_bringUp_50 σ4 x1 ((((σ4 97 x1.toNatClampNeg) - (σ4 98 x1.toNatClampNeg)) + 16) - (((σ4 97 x1.toNatClampNeg) - (σ4 98 x1.toNatClampNeg)) + 16) / 16 * 16)

def f_X9_setDead (σ : zt_St) (x1 : Int32) (x2 : Int32) : Option (zt_St) :=
  zt_bd (f_X9_isZone σ x1) fun v1 =>
  zt_bd (f_X9_asked σ v1) fun q5 => zt_lt q5.1 fun v3 => zt_lt q5.2 fun σ4 =>
  if v3 = 0 then
    some σ4
  else
    zt_gd (zt_gI x1 6) <|
    zt_gd (x2 == 0 || x2 == 1) <|
    zt_lt (zt_st σ4 99 x1.toNatClampNeg x2) fun σ9 =>
    some σ9

def f_X9_least (x1 : Int32) (x2 : Int32) : Option (Int32) :=
  if x2 ≤ x1 then
    some x2
  else
    some x1

def f_X9_cutAbove_94 (σ : zt_St) (rc8 : Int32 → Int32 → Int32 → Int32 → Option (Int32)) (y0 : Int32) (u1 : Int32) (u2 : Int32) (u4 : Int32) : Option (Int32) :=
  rc8 u1 u2 y0 (u4 + 1)
def f_X9_cutAbove_93 (σ : zt_St) (rc8 : Int32 → Int32 → Int32 → Int32 → Option (Int32)) (u1 : Int32) (u2 : Int32) (u3 : Int32) (u4 : Int32) : Option (Int32) :=
  f_X9_cutAbove_94 σ rc8 u3 u1 u2 u4
def f_X9_cutAbove_88 (σ : zt_St) (rc8 : Int32 → Int32 → Int32 → Int32 → Option (Int32)) (u1 : Int32) (u2 : Int32) (u4 : Int32) : Option (Int32) :=
  f_X9_cutAbove_94 σ rc8 u4 u1 u2 u4
def f_X9_cutAbove_54 (σ : zt_St) (rc8 : Int32 → Int32 → Int32 → Int32 → Option (Int32)) (y0 : Int32) (u1 : Int32) (u2 : Int32) (u3 : Int32) (u4 : Int32) : Option (Int32) :=
  if y0 = 0 then
    f_X9_cutAbove_93 σ rc8 u1 u2 u3 u4
  else
    if u3 = (-1) then
      f_X9_cutAbove_88 σ rc8 u1 u2 u4
    else
      zt_gd (zt_gI u4 416) <|
      zt_bd (f_X9_figures (σ 104 u4.toNatClampNeg)) fun v12 =>
      zt_gd (zt_gI u3 416) <|
      zt_bd (f_X9_figures (σ 104 u3.toNatClampNeg)) fun v15 =>
      if v15 ≤ v12 then
        f_X9_cutAbove_93 σ rc8 u1 u2 u3 u4
      else
        f_X9_cutAbove_88 σ rc8 u1 u2 u4
def f_X9_cutAbove_53 (σ : zt_St) (rc8 : Int32 → Int32 → Int32 → Int32 → Option (Int32)) (u1 : Int32) (u2 : Int32) (u3 : Int32) (u4 : Int32) : Option (Int32) :=
  f_X9_cutAbove_54 σ rc8 0 u1 u2 u3 u4
def f_X9_cutAbove_8b (σ : zt_St) (rc8 : Int32 → Int32 → Int32 → Int32 → Option (Int32)) (u1 : Int32) (u2 : Int32) (u3 : Int32) (u4 : Int32) : Option (Int32) :=
  zt_gd (zt_gI u1 13) <|
  if ((32 * u1) + (σ 103 u1.toNatClampNeg)) ≤ u4 then
    some u3
  else
    zt_gd (zt_gI u4 416) <|
    if (σ 105 u4.toNatClampNeg) = 3 then
      zt_gd (zt_gI u4 416) <|
      zt_bd (f_X9_isUnder u2 (σ 104 u4.toNatClampNeg)) fun v6 =>
      if v6 = 0 then
        f_X9_cutAbove_53 σ rc8 u1 u2 u3 u4
      else
        f_X9_cutAbove_54 σ rc8 1 u1 u2 u3 u4
    else
      f_X9_cutAbove_53 σ rc8 u1 u2 u3 u4
def f_X9_cutAbove_8 (σ : zt_St) : Nat → Int32 → Int32 → Int32 → Int32 → Option (Int32)
  | 0, _, _, _, _ => none
  | n + 1, u1, u2, u3, u4 => f_X9_cutAbove_8b σ (f_X9_cutAbove_8 σ n) u1 u2 u3 u4
def f_X9_cutAbove (σ : zt_St) (x1 : Int32) (x2 : Int32) : Option (Int32) :=
  f_X9_cutAbove_8 σ zt_FU x1 x2 (-1) (32 * x1)

def f_X9_treeAbove_55 (σ : zt_St) (rc8 : Int32 → Int32 → Int32 → Int32 → Option (Int32)) (y0 : Int32) (u1 : Int32) (u2 : Int32) (u4 : Int32) : Option (Int32) :=
  rc8 u1 u2 y0 (u4 + 1)
def f_X9_treeAbove_54 (σ : zt_St) (rc8 : Int32 → Int32 → Int32 → Int32 → Option (Int32)) (u1 : Int32) (u2 : Int32) (u3 : Int32) (u4 : Int32) : Option (Int32) :=
  f_X9_treeAbove_55 σ rc8 u3 u1 u2 u4
def f_X9_treeAbove_8b (σ : zt_St) (rc8 : Int32 → Int32 → Int32 → Int32 → Option (Int32)) (u1 : Int32) (u2 : Int32) (u3 : Int32) (u4 : Int32) : Option (Int32) :=
  zt_gd (zt_gI u1 13) <|
  if ((32 * u1) + (σ 103 u1.toNatClampNeg)) ≤ u4 then
    some u3
  else
    zt_gd (zt_gI u4 416) <|
    if (σ 105 u4.toNatClampNeg) = 2 then
      zt_gd (zt_gI u4 416) <|
      zt_bd (f_X9_isStrictly u2 (σ 104 u4.toNatClampNeg)) fun v6 =>
      if v6 = 0 then
        f_X9_treeAbove_54 σ rc8 u1 u2 u3 u4
      else
        f_X9_treeAbove_55 σ rc8 u4 u1 u2 u4
    else
      f_X9_treeAbove_54 σ rc8 u1 u2 u3 u4
def f_X9_treeAbove_8 (σ : zt_St) : Nat → Int32 → Int32 → Int32 → Int32 → Option (Int32)
  | 0, _, _, _, _ => none
  | n + 1, u1, u2, u3, u4 => f_X9_treeAbove_8b σ (f_X9_treeAbove_8 σ n) u1 u2 u3 u4
def f_X9_treeAbove (σ : zt_St) (x1 : Int32) (x2 : Int32) : Option (Int32) :=
  f_X9_treeAbove_8 σ zt_FU x1 x2 (-1) (32 * x1)

def f_X9_joined (x0 : Int32) (x1 : Int32) (x2 : Int32) : Option (Int32) :=
  zt_bd (f_X9_figures x1) fun v1 =>
  zt_bd (f_X9_ten (v1 - x2)) fun v3 =>
  zt_gd (!(v3 == 0)) <|
  zt_bd (f_X9_figures x0) fun v6 =>
  if (v6 + (v1 - x2)) ≤ 4 then
    zt_bd (f_X9_ten (v1 - x2)) fun v9 =>
    some ((x0 * v9) + (x1 - x1 / v3 * v3))
  else
    some (-1)

def f_X9_encloser_6b (σ : zt_St) (rc6 : Int32 → Int32 → Int32 → Int32 → Option (Int32)) (u1 : Int32) (u2 : Int32) (u3 : Int32) (u4 : Int32) : Option (Int32) :=
  zt_gd (zt_gI u2 6) <|
  zt_bd (f_X9_figures (σ 95 u2.toNatClampNeg)) fun v4 =>
  if u4 ≤ v4 then
    zt_gd (zt_gI u2 6) <|
    some (σ 95 u2.toNatClampNeg)
  else
    zt_bd (f_X9_head u3 u4) fun v8 =>
    zt_bd (f_X9_isThere σ u1 v8) fun v10 =>
    if v10 = 0 then
      rc6 u1 u2 u3 (u4 + (-1))
    else
      zt_bd (f_X9_head u3 u4) fun v13 =>
      some v13
def f_X9_encloser_6 (σ : zt_St) : Nat → Int32 → Int32 → Int32 → Int32 → Option (Int32)
  | 0, _, _, _, _ => none
  | n + 1, u1, u2, u3, u4 => f_X9_encloser_6b σ (f_X9_encloser_6 σ n) u1 u2 u3 u4
def f_X9_encloser (σ : zt_St) (x1 : Int32) (x2 : Int32) (x3 : Int32) : Option (Int32) :=
  zt_bd (f_X9_figures x3) fun v1 =>
  f_X9_encloser_6 σ zt_FU x1 x2 x3 v1

def f_X9_asks_390 (σ : zt_St) : Option (Int32 × zt_St) :=
  zt_lt (zt_st σ 94 33 (-1)) fun σ66 =>
  zt_lt (zt_st σ66 94 34 0) fun σ67 =>
  some (5, σ67)
def f_X9_asks_353 (rc18 : zt_St → Int32 → Int32 → Int32 → Int32 → Int32 → Option (Int32 × zt_St)) (σ : zt_St) (u1 : Int32) (u2 : Int32) (u4 : Int32) (u5 : Int32) (u6 : Int32) (u9 : Int32) (u10 : Int32) : Option (Int32 × zt_St) :=
  zt_gd (zt_gI u10 416) <|
  zt_bd (f_X9_least u5 (σ 107 u10.toNatClampNeg)) fun v33 =>
  zt_lt (zt_st σ 94 34 v33) fun σ35 =>
  if u9 = (-1) then
    f_X9_asks_390 σ35
  else
    if (u6 + 1) ≤ 8 then
      zt_lt (zt_st σ35 94 33 u9) fun σ38 =>
      zt_gd (zt_gI u2 6) <|
      zt_bd (f_X9_isUnder u9 (σ38 95 u2.toNatClampNeg)) fun v40 =>
      if v40 = 0 then
        some (4, σ38)
      else
        rc18 σ38 u1 u2 u4 v33 (u6 + 1)
    else
      f_X9_asks_390 σ35
def f_X9_asks_347 (σ : zt_St) : Option (Int32 × zt_St) :=
  some (1, σ)
def f_X9_asks_307 (rc18 : zt_St → Int32 → Int32 → Int32 → Int32 → Int32 → Option (Int32 × zt_St)) (σ : zt_St) (u1 : Int32) (u2 : Int32) (u4 : Int32) (u5 : Int32) (u6 : Int32) (u9 : Int32) (u10 : Int32) (u11 : Int32) (u12 : Int32) : Option (Int32 × zt_St) :=
  if u10 = (-1) then
    zt_gd (zt_gI u2 6) <|
    zt_bd (f_X9_least u5 (σ 96 u2.toNatClampNeg)) fun v59 =>
    zt_lt (zt_st σ 94 34 v59) fun σ61 =>
    if u11 = 0 then
      zt_bd (f_X9_isStarThere σ61 u1 (u12 / 10)) fun v63 =>
      if v63 = 0 then
        some (2, σ61)
      else
        f_X9_asks_347 σ61
    else
      f_X9_asks_347 σ61
  else
    f_X9_asks_353 rc18 σ u1 u2 u4 u5 u6 u9 u10
def f_X9_asks_252 (rc18 : zt_St → Int32 → Int32 → Int32 → Int32 → Int32 → Option (Int32 × zt_St)) (σ : zt_St) (u1 : Int32) (u2 : Int32) (u4 : Int32) (u5 : Int32) (u6 : Int32) (u9 : Int32) (u10 : Int32) (u11 : Int32) (u12 : Int32) (u13 : Int32) (u14 : Int32) : Option (Int32 × zt_St) :=
  if u13 = (-1) then
    if u14 = (-1) then
      f_X9_asks_307 rc18 σ u1 u2 u4 u5 u6 u9 u10 u11 u12
    else
      zt_gd (zt_gI u14 416) <|
      f_X9_asks_307 rc18 σ u1 u2 u4 u5 u6 (σ 106 u14.toNatClampNeg) u14 u11 u12
  else
    zt_gd (zt_gI u13 416) <|
    zt_lt (zt_st σ 94 32 (σ 106 u13.toNatClampNeg)) fun σ52 =>
    zt_gd (zt_gI u13 416) <|
    zt_bd (f_X9_least u5 (σ52 107 u13.toNatClampNeg)) fun v54 =>
    zt_lt (zt_st σ52 94 34 v54) fun σ56 =>
    some (0, σ56)
def f_X9_asks_219 (rc18 : zt_St → Int32 → Int32 → Int32 → Int32 → Int32 → Option (Int32 × zt_St)) (σ : zt_St) (y0 : Int32) (u1 : Int32) (u2 : Int32) (u4 : Int32) (u5 : Int32) (u6 : Int32) (u9 : Int32) (u10 : Int32) (u11 : Int32) : Option (Int32 × zt_St) :=
  zt_bd (f_X9_find σ u1 y0 u4) fun v26 =>
  zt_bd (f_X9_find σ u1 y0 1) fun v28 =>
  if 0 < y0 then
    f_X9_asks_252 rc18 σ u1 u2 u4 u5 u6 u9 u10 u11 y0 v26 v28
  else
    if u11 = 0 then
      f_X9_asks_307 rc18 σ u1 u2 u4 u5 u6 u9 u10 u11 y0
    else
      f_X9_asks_252 rc18 σ u1 u2 u4 u5 u6 u9 u10 u11 y0 v26 v28
def f_X9_asks_127 (rc18 : zt_St → Int32 → Int32 → Int32 → Int32 → Int32 → Option (Int32 × zt_St)) (σ : zt_St) (u1 : Int32) (u2 : Int32) (u4 : Int32) (u5 : Int32) (u6 : Int32) : Option (Int32 × zt_St) :=
  zt_bd (f_X9_treeAbove σ u1 (σ 94 33)) fun v10 =>
  if v10 = (-1) then
    zt_bd (f_X9_isThere σ u1 (σ 94 33)) fun v13 =>
    if v13 = 0 then
      zt_bd (f_X9_encloser σ u1 u2 (σ 94 33)) fun v16 =>
      f_X9_asks_219 rc18 σ (10 * v16) u1 u2 u4 u5 u6 (-1) (-1) v13
    else
      f_X9_asks_219 rc18 σ (σ 94 33) u1 u2 u4 u5 u6 (-1) (-1) v13
  else
    zt_gd (zt_gI v10 416) <|
    zt_gd (zt_gI v10 416) <|
    zt_bd (f_X9_figures (σ 104 v10.toNatClampNeg)) fun v20 =>
    zt_bd (f_X9_joined (σ 106 v10.toNatClampNeg) (σ 94 33) v20) fun v22 =>
    f_X9_asks_353 rc18 σ u1 u2 u4 u5 u6 v22 v10
def f_X9_asks_113 (σ : zt_St) (y0 : Int32) (u6 : Int32) : Option (Int32 × zt_St) :=
  zt_lt (zt_st σ 94 33 y0) fun σ68 =>
  if u6 ≤ 0 then
    some (3, σ68)
  else
    some (4, σ68)
def f_X9_asks_79 (σ : zt_St) (y0 : Int32) (u6 : Int32) (u7 : Int32) : Option (Int32 × zt_St) :=
  zt_lt (zt_st σ 94 34 y0) fun σ43 =>
  zt_gd (zt_gI u7 416) <|
  zt_lt (zt_st σ43 94 32 (σ43 106 u7.toNatClampNeg)) fun σ45 =>
  if u6 ≤ 0 then
    zt_gd (zt_gI u7 416) <|
    f_X9_asks_113 σ45 (σ45 104 u7.toNatClampNeg) u6
  else
    f_X9_asks_113 σ45 (σ45 94 33) u6
def f_X9_asks_61 (σ : zt_St) (u5 : Int32) (u6 : Int32) (u7 : Int32) : Option (Int32 × zt_St) :=
  if u6 ≤ 0 then
    zt_gd (zt_gI u7 416) <|
    f_X9_asks_79 σ (σ 107 u7.toNatClampNeg) u6 u7
  else
    f_X9_asks_79 σ u5 u6 u7
def f_X9_asks_18b (rc18 : zt_St → Int32 → Int32 → Int32 → Int32 → Int32 → Option (Int32 × zt_St)) (σ : zt_St) (u1 : Int32) (u2 : Int32) (u4 : Int32) (u5 : Int32) (u6 : Int32) : Option (Int32 × zt_St) :=
  zt_bd (f_X9_cutAbove σ u1 (σ 94 33)) fun v3 =>
  if v3 = (-1) then
    f_X9_asks_127 rc18 σ u1 u2 u4 u5 u6
  else
    zt_gd (zt_gI v3 416) <|
    if (σ 104 v3.toNatClampNeg) = (σ 94 33) then
      if u4 = 3 then
        f_X9_asks_127 rc18 σ u1 u2 u4 u5 u6
      else
        if u4 = 4 then
          f_X9_asks_127 rc18 σ u1 u2 u4 u5 u6
        else
          f_X9_asks_61 σ u5 u6 v3
    else
      f_X9_asks_61 σ u5 u6 v3
def f_X9_asks_18 : Nat → zt_St → Int32 → Int32 → Int32 → Int32 → Int32 → Option (Int32 × zt_St)
  | 0, _, _, _, _, _, _ => none
  | n + 1, σ, u1, u2, u4, u5, u6 => f_X9_asks_18b (f_X9_asks_18 n) σ u1 u2 u4 u5 u6
def f_X9_asks (σ : zt_St) (x1 : Int32) (x2 : Int32) (x3 : Int32) (x4 : Int32) : Option (Int32 × zt_St) :=
  zt_lt (zt_st σ 94 33 x3) fun σ1 =>
  zt_lt (zt_st σ1 94 32 (-1)) fun σ2 =>
  f_X9_asks_18 zt_FU σ2 x1 x2 x4 1000 0

def f_X9_tell (σ : zt_St) (x1 : Int32) (x2 : Int32) (x3 : Int32) (x4 : Int32) (x5 : Int32) : Option (zt_St) :=
  zt_lt (zt_st σ 121 (0 : Int32).toNatClampNeg x1) fun σ2 =>
  zt_lt (zt_st σ2 121 (1 : Int32).toNatClampNeg x2) fun σ4 =>
  zt_lt (zt_st σ4 121 (2 : Int32).toNatClampNeg x3) fun σ6 =>
  zt_lt (zt_st σ6 121 (3 : Int32).toNatClampNeg x4) fun σ8 =>
  zt_lt (zt_st σ8 121 (4 : Int32).toNatClampNeg x5) fun σ10 =>
  some σ10

def f_X9_ask_94 (σ : zt_St) (y0 : Int32) (u5 : Int32) : Option (Int32 × zt_St) :=
  zt_bd (f_X9_tell σ y0 (σ 94 33) (σ 94 34) 1 0) fun σ26 =>
  some (u5, σ26)
def f_X9_ask_62 (σ : zt_St) (y0 : Int32) (y1 : Int32) (y2 : Int32) (u1 : Int32) (u2 : Int32) (u3 : Int32) : Option (Int32 × zt_St) :=
  zt_bd (f_X9_asked__ σ y2 y1 y0) fun q19 => zt_lt q19.1 fun v17 => zt_lt q19.2 fun σ18 =>
  if v17 = 0 then
    some (0, σ18)
  else
    zt_bd (f_X9_asks σ18 u1 u1 u2 u3) fun q23 => zt_lt q23.1 fun v21 => zt_lt q23.2 fun σ22 =>
    if v21 = 0 then
      f_X9_ask_94 σ22 (σ22 94 32) v21
    else
      f_X9_ask_94 σ22 (-1) v21
def f_X9_ask_61 (σ : zt_St) (y0 : Int32) (y1 : Int32) (u1 : Int32) (u2 : Int32) (u3 : Int32) : Option (Int32 × zt_St) :=
  f_X9_ask_62 σ 0 y0 y1 u1 u2 u3
def f_X9_ask_21 (σ : zt_St) (y0 : Int32) (u1 : Int32) (u2 : Int32) (u3 : Int32) : Option (Int32 × zt_St) :=
  zt_bd (f_X9_isZone σ u1) fun v7 =>
  zt_bd (f_X9_isZone σ u1) fun v9 =>
  if v9 = 0 then
    f_X9_ask_61 σ y0 v7 u1 u2 u3
  else
    if y0 = 0 then
      f_X9_ask_61 σ y0 v7 u1 u2 u3
    else
      zt_gd (zt_gI u1 6) <|
      zt_bd (f_X9_isUnder u2 (σ 95 u1.toNatClampNeg)) fun v14 =>
      if v14 = 0 then
        f_X9_ask_61 σ y0 v7 u1 u2 u3
      else
        f_X9_ask_62 σ 1 y0 v7 u1 u2 u3
def f_X9_ask_20 (σ : zt_St) (u1 : Int32) (u2 : Int32) (u3 : Int32) : Option (Int32 × zt_St) :=
  f_X9_ask_21 σ 0 u1 u2 u3
def f_X9_ask (σ : zt_St) (x1 : Int32) (x2 : Int32) (x3 : Int32) : Option (Int32 × zt_St) :=
  zt_bd (f_X9_isName x2) fun v1 =>
  if v1 = 0 then
    f_X9_ask_20 σ x1 x2 x3
  else
    zt_bd (f_X9_in x3 0 4) fun v4 =>
    if v4 = 0 then
      f_X9_ask_20 σ x1 x2 x3
    else
      f_X9_ask_21 σ 1 x1 x2 x3

def f_X9_told (σ : zt_St) (x1 : Int32) : Option (Int32 × zt_St) :=
  zt_bd (f_X9_in x1 0 4) fun v1 =>
  zt_bd (f_X9_asked σ v1) fun q5 => zt_lt q5.1 fun v3 => zt_lt q5.2 fun σ4 =>
  if v3 = 0 then
    some (0, σ4)
  else
    zt_gd (zt_gI x1 5) <|
    some ((σ4 121 x1.toNatClampNeg), σ4)

def f_X9_nearer_71 (σ : zt_St) (u4 : Int32) : Option (Int32) :=
  some u4
def f_X9_nearer_67 (σ : zt_St) (y0 : Int32) (u3 : Int32) (u4 : Int32) (u5 : Int32) : Option (Int32) :=
  if y0 = u3 then
    f_X9_nearer_71 σ u4
  else
    some u5
def f_X9_nearer_36 (σ : zt_St) (y0 : Int32) (u3 : Int32) (u4 : Int32) (u5 : Int32) : Option (Int32) :=
  if y0 = 0 then
    some u5
  else
    if u5 = (-1) then
      f_X9_nearer_71 σ u4
    else
      zt_bd (f_X9_order u4) fun v12 =>
      zt_bd (f_X9_order u5) fun v14 =>
      if v14 ≤ v12 then
        f_X9_nearer_67 σ 0 u3 u4 u5
      else
        f_X9_nearer_67 σ 1 u3 u4 u5
def f_X9_nearer_35 (σ : zt_St) (u3 : Int32) (u4 : Int32) (u5 : Int32) : Option (Int32) :=
  f_X9_nearer_36 σ 0 u3 u4 u5
def f_X9_nearer_27 (σ : zt_St) (y0 : Int32) (u3 : Int32) (u4 : Int32) (u5 : Int32) : Option (Int32) :=
  if y0 = u3 then
    f_X9_nearer_36 σ 1 u3 u4 u5
  else
    f_X9_nearer_35 σ u3 u4 u5
def f_X9_nearer (σ : zt_St) (x1 : Int32) (x2 : Int32) (x3 : Int32) (x4 : Int32) (x5 : Int32) : Option (Int32) :=
  zt_bd (f_X9_isOwn σ x1 x4) fun v1 =>
  if v1 = 0 then
    f_X9_nearer_35 σ x3 x4 x5
  else
    zt_bd (f_X9_order x4) fun v4 =>
    zt_bd (f_X9_order x2) fun v6 =>
    if v4 ≤ v6 then
      f_X9_nearer_27 σ 0 x3 x4 x5
    else
      f_X9_nearer_27 σ 1 x3 x4 x5

def f_X9_neighbour_54b (rc27 : zt_St → Int32 → Int32 → Int32 → Int32 → Int32 → Option (Int32 × zt_St)) (rc54 : zt_St → Int32 → Int32 → Int32 → Int32 → Int32 → Int32 → Option (Int32 × zt_St)) (σ : zt_St) (u1 : Int32) (u2 : Int32) (u3 : Int32) (u4 : Int32) (u5 : Int32) (u6 : Int32) : Option (Int32 × zt_St) :=
  zt_gd (zt_gI u5 416) <|
  zt_bd (f_X9_base (σ 104 u5.toNatClampNeg)) fun v15 =>
  zt_bd (f_X9_figures v15) fun v17 =>
  if v17 < u6 then
    zt_gd (zt_gI u5 416) <|
    zt_bd (f_X9_nearer σ u1 u2 u3 (σ 104 u5.toNatClampNeg) u4) fun v21 =>
    rc27 σ u1 u2 u3 v21 (u5 + 1)
  else
    zt_gd (zt_gI u5 416) <|
    zt_bd (f_X9_base (σ 104 u5.toNatClampNeg)) fun v24 =>
    zt_bd (f_X9_head v24 u6) fun v26 =>
    zt_bd (f_X9_nearer σ u1 u2 u3 v26 u4) fun v28 =>
    rc54 σ u1 u2 u3 v28 u5 (u6 + 1)
def f_X9_neighbour_54 (rc27 : zt_St → Int32 → Int32 → Int32 → Int32 → Int32 → Option (Int32 × zt_St)) : Nat → zt_St → Int32 → Int32 → Int32 → Int32 → Int32 → Int32 → Option (Int32 × zt_St)
  | 0, _, _, _, _, _, _, _ => none
  | n + 1, σ, u1, u2, u3, u4, u5, u6 => f_X9_neighbour_54b rc27 (f_X9_neighbour_54 rc27 n) σ u1 u2 u3 u4 u5 u6
def f_X9_neighbour_27b (rc27 : zt_St → Int32 → Int32 → Int32 → Int32 → Int32 → Option (Int32 × zt_St)) (σ : zt_St) (u1 : Int32) (u2 : Int32) (u3 : Int32) (u4 : Int32) (u5 : Int32) : Option (Int32 × zt_St) :=
  zt_gd (zt_gI u1 13) <|
  if ((32 * u1) + (σ 103 u1.toNatClampNeg)) ≤ u5 then
    some (u4, σ)
  else
    zt_gd (zt_gI u1 6) <|
    zt_bd (f_X9_figures (σ 95 u1.toNatClampNeg)) fun v12 =>
    f_X9_neighbour_54 rc27 zt_FU σ u1 u2 u3 u4 u5 v12
def f_X9_neighbour_27 : Nat → zt_St → Int32 → Int32 → Int32 → Int32 → Int32 → Option (Int32 × zt_St)
  | 0, _, _, _, _, _, _ => none
  | n + 1, σ, u1, u2, u3, u4, u5 => f_X9_neighbour_27b (f_X9_neighbour_27 n) σ u1 u2 u3 u4 u5
def f_X9_neighbour (σ : zt_St) (x1 : Int32) (x2 : Int32) (x3 : Int32) : Option (Int32 × zt_St) :=
  zt_bd (f_X9_isZone σ x1) fun v1 =>
  zt_bd (f_X9_isPlace x2) fun v3 =>
  zt_bd (f_X9_asked_ σ v1 v3) fun q7 => zt_lt q7.1 fun v5 => zt_lt q7.2 fun σ6 =>
  if v5 = 0 then
    some (0, σ6)
  else
    f_X9_neighbour_27 zt_FU σ6 x1 x2 x3 (-1) (32 * x1)

def f_X9_keptOf_32 (σ : zt_St) (rc2 : Int32 → Int32 → Int32 → Option (Int32)) (u1 : Int32) (u2 : Int32) (u3 : Int32) : Option (Int32) :=
  rc2 u1 u2 (u3 + 1)
def f_X9_keptOf_2b (σ : zt_St) (rc2 : Int32 → Int32 → Int32 → Option (Int32)) (u1 : Int32) (u2 : Int32) (u3 : Int32) : Option (Int32) :=
  if (σ 94 24) ≤ u3 then
    some (-1)
  else
    zt_gd (zt_gI u3 41) <|
    if (σ 114 u3.toNatClampNeg) = u1 then
      zt_gd (zt_gI u3 41) <|
      if (σ 115 u3.toNatClampNeg) = u2 then
        some u3
      else
        f_X9_keptOf_32 σ rc2 u1 u2 u3
    else
      f_X9_keptOf_32 σ rc2 u1 u2 u3
def f_X9_keptOf_2 (σ : zt_St) : Nat → Int32 → Int32 → Int32 → Option (Int32)
  | 0, _, _, _ => none
  | n + 1, u1, u2, u3 => f_X9_keptOf_2b σ (f_X9_keptOf_2 σ n) u1 u2 u3
def f_X9_keptOf (σ : zt_St) (x1 : Int32) (x2 : Int32) : Option (Int32) :=
  f_X9_keptOf_2 σ zt_FU x1 x2 0

def f_X9_shifts_12b (rc12 : zt_St → Int32 → Option (zt_St)) (σ : zt_St) (u2 : Int32) : Option (zt_St) :=
  if (σ 94 24) ≤ u2 then
    some σ
  else
    zt_gd (zt_gI (u2 + 1) 41) <|
    zt_gd (zt_gI u2 41) <|
    zt_lt (zt_st σ 114 u2.toNatClampNeg (σ 114 (u2 + 1).toNatClampNeg)) fun σ5 =>
    zt_gd (zt_gI (u2 + 1) 41) <|
    zt_gd (zt_gI u2 41) <|
    zt_lt (zt_st σ5 115 u2.toNatClampNeg (σ5 115 (u2 + 1).toNatClampNeg)) fun σ8 =>
    zt_gd (zt_gI (u2 + 1) 41) <|
    zt_gd (zt_gI u2 41) <|
    zt_lt (zt_st σ8 116 u2.toNatClampNeg (σ8 116 (u2 + 1).toNatClampNeg)) fun σ11 =>
    zt_gd (zt_gI (u2 + 1) 41) <|
    zt_gd (zt_gI u2 41) <|
    zt_lt (zt_st σ11 117 u2.toNatClampNeg (σ11 117 (u2 + 1).toNatClampNeg)) fun σ14 =>
    zt_gd (zt_gI (u2 + 1) 41) <|
    zt_gd (zt_gI u2 41) <|
    zt_lt (zt_st σ14 118 u2.toNatClampNeg (σ14 118 (u2 + 1).toNatClampNeg)) fun σ17 =>
    zt_gd (zt_gI (u2 + 1) 41) <|
    zt_gd (zt_gI u2 41) <|
    zt_lt (zt_st σ17 119 u2.toNatClampNeg (σ17 119 (u2 + 1).toNatClampNeg)) fun σ20 =>
    zt_gd (zt_gI (u2 + 1) 41) <|
    zt_gd (zt_gI u2 41) <|
    zt_lt (zt_st σ20 120 u2.toNatClampNeg (σ20 120 (u2 + 1).toNatClampNeg)) fun σ23 =>
    rc12 σ23 (u2 + 1)
def f_X9_shifts_12 : Nat → zt_St → Int32 → Option (zt_St)
  | 0, _, _ => none
  | n + 1, σ, u2 => f_X9_shifts_12b (f_X9_shifts_12 n) σ u2
def f_X9_shifts (σ : zt_St) (x1 : Int32) : Option (zt_St) :=
  zt_lt (zt_st σ 94 24 ((σ 94 24) - 1)) fun σ1 =>
  f_X9_shifts_12 zt_FU σ1 x1

def f_X9_keeps_70 (σ : zt_St) (y0 : Int32) (y1 : Int32) : Option (zt_St) :=
  zt_gd (zt_gI y1 41) <|
  zt_lt (zt_st σ 117 y1.toNatClampNeg y0) fun σ14 =>
  zt_gd (zt_gI (σ14 94 24) 41) <|
  zt_lt (zt_st σ14 118 (σ14 94 24).toNatClampNeg (σ14 94 33)) fun σ16 =>
  zt_gd (zt_gI (σ16 94 24) 41) <|
  zt_lt (zt_st σ16 119 (σ16 94 24).toNatClampNeg (σ16 94 34)) fun σ18 =>
  zt_gd (zt_gI (σ18 94 24) 41) <|
  zt_lt (zt_st σ18 120 (σ18 94 24).toNatClampNeg (σ18 94 1)) fun σ20 =>
  zt_lt (zt_st σ20 94 24 ((σ20 94 24) + 1)) fun σ21 =>
  if (σ21 94 24) ≤ 40 then
    some σ21
  else
    zt_bd (f_X9_shifts σ21 0) fun σ24 =>
    some σ24
def f_X9_keeps_20 (σ : zt_St) (u1 : Int32) (u2 : Int32) (u3 : Int32) : Option (zt_St) :=
  zt_gd (zt_gI (σ 94 24) 41) <|
  zt_lt (zt_st σ 114 (σ 94 24).toNatClampNeg u1) fun σ7 =>
  zt_gd (zt_gI (σ7 94 24) 41) <|
  zt_lt (zt_st σ7 115 (σ7 94 24).toNatClampNeg u2) fun σ9 =>
  zt_gd (zt_gI (σ9 94 24) 41) <|
  zt_lt (zt_st σ9 116 (σ9 94 24).toNatClampNeg u3) fun σ11 =>
  if u3 = 0 then
    f_X9_keeps_70 σ11 (σ11 94 32) (σ11 94 24)
  else
    f_X9_keeps_70 σ11 (-1) (σ11 94 24)
def f_X9_keeps (σ : zt_St) (x1 : Int32) (x2 : Int32) (x3 : Int32) : Option (zt_St) :=
  zt_bd (f_X9_keptOf σ x1 x2) fun v1 =>
  if v1 = (-1) then
    f_X9_keeps_20 σ x1 x2 x3
  else
    zt_bd (f_X9_shifts σ v1) fun σ5 =>
    f_X9_keeps_20 σ5 x1 x2 x3

def f_X9_bestZone_110 (σ : zt_St) (rc6 : Int32 → Int32 → Int32 → Int32 → Int32 → Option (Int32)) (y0 : Int32) (u1 : Int32) (u2 : Int32) (u3 : Int32) (u5 : Int32) : Option (Int32) :=
  rc6 u1 u2 u3 y0 (u5 + 1)
def f_X9_bestZone_108 (σ : zt_St) (rc6 : Int32 → Int32 → Int32 → Int32 → Int32 → Option (Int32)) (u1 : Int32) (u2 : Int32) (u3 : Int32) (u4 : Int32) (u5 : Int32) : Option (Int32) :=
  f_X9_bestZone_110 σ rc6 u4 u1 u2 u3 u5
def f_X9_bestZone_73 (σ : zt_St) (rc6 : Int32 → Int32 → Int32 → Int32 → Int32 → Option (Int32)) (y0 : Int32) (u1 : Int32) (u2 : Int32) (u3 : Int32) (u4 : Int32) (u5 : Int32) : Option (Int32) :=
  if y0 = 0 then
    f_X9_bestZone_108 σ rc6 u1 u2 u3 u4 u5
  else
    zt_gd (zt_gI u5 6) <|
    zt_bd (f_X9_figures (σ 95 u5.toNatClampNeg)) fun v15 =>
    zt_gd (zt_gI u4 6) <|
    zt_bd (f_X9_figures (σ 95 u4.toNatClampNeg)) fun v18 =>
    if v15 ≤ v18 then
      f_X9_bestZone_108 σ rc6 u1 u2 u3 u4 u5
    else
      f_X9_bestZone_110 σ rc6 u5 u1 u2 u3 u5
def f_X9_bestZone_72 (σ : zt_St) (rc6 : Int32 → Int32 → Int32 → Int32 → Int32 → Option (Int32)) (u1 : Int32) (u2 : Int32) (u3 : Int32) (u4 : Int32) (u5 : Int32) : Option (Int32) :=
  f_X9_bestZone_73 σ rc6 0 u1 u2 u3 u4 u5
def f_X9_bestZone_68 (σ : zt_St) (rc6 : Int32 → Int32 → Int32 → Int32 → Int32 → Option (Int32)) (u1 : Int32) (u2 : Int32) (u3 : Int32) (u4 : Int32) (u5 : Int32) : Option (Int32) :=
  f_X9_bestZone_73 σ rc6 1 u1 u2 u3 u4 u5
def f_X9_bestZone_6b (σ : zt_St) (rc6 : Int32 → Int32 → Int32 → Int32 → Int32 → Option (Int32)) (u1 : Int32) (u2 : Int32) (u3 : Int32) (u4 : Int32) (u5 : Int32) : Option (Int32) :=
  if (σ 94 2) ≤ u5 then
    some u4
  else
    if u3 = 0 then
      zt_gd (zt_gI u5 6) <|
      if (σ 113 u5.toNatClampNeg) ≤ (σ 94 1) then
        f_X9_bestZone_72 σ rc6 u1 u2 u3 u4 u5
      else
        zt_gd (zt_gI u5 6) <|
        zt_bd (f_X9_isUnder u1 (σ 95 u5.toNatClampNeg)) fun v6 =>
        if v6 = 0 then
          f_X9_bestZone_72 σ rc6 u1 u2 u3 u4 u5
        else
          zt_gd (zt_gI u5 6) <|
          if (σ 95 u5.toNatClampNeg) = u1 then
            if u2 = 3 then
              f_X9_bestZone_72 σ rc6 u1 u2 u3 u4 u5
            else
              if u2 = 4 then
                f_X9_bestZone_72 σ rc6 u1 u2 u3 u4 u5
              else
                f_X9_bestZone_68 σ rc6 u1 u2 u3 u4 u5
          else
            f_X9_bestZone_68 σ rc6 u1 u2 u3 u4 u5
    else
      f_X9_bestZone_72 σ rc6 u1 u2 u3 u4 u5
def f_X9_bestZone_6 (σ : zt_St) : Nat → Int32 → Int32 → Int32 → Int32 → Int32 → Option (Int32)
  | 0, _, _, _, _, _ => none
  | n + 1, u1, u2, u3, u4, u5 => f_X9_bestZone_6b σ (f_X9_bestZone_6 σ n) u1 u2 u3 u4 u5
def f_X9_bestZone (σ : zt_St) (x1 : Int32) (x2 : Int32) (x3 : Int32) : Option (Int32) :=
  f_X9_bestZone_6 σ zt_FU x1 x2 x3 0 1

def f_X9_code (x1 : Int32) : Option (Int32) :=
  some (((31 * x1) + 7) - ((31 * x1) + 7) / 997 * 997)

def f_X9_isGood_51 (σ : zt_St) (rc5 : Int32 → Int32 → Int32 → Int32 → Option (Int32)) (y0 : Int32) (y1 : Int32) (u1 : Int32) (u2 : Int32) (u4 : Int32) : Option (Int32) :=
  rc5 u1 u2 (y1 ||| y0) (u4 + 1)
def f_X9_isGood_50 (σ : zt_St) (rc5 : Int32 → Int32 → Int32 → Int32 → Option (Int32)) (y0 : Int32) (u1 : Int32) (u2 : Int32) (u4 : Int32) : Option (Int32) :=
  f_X9_isGood_51 σ rc5 0 y0 u1 u2 u4
def f_X9_isGood_5b (σ : zt_St) (rc5 : Int32 → Int32 → Int32 → Int32 → Option (Int32)) (u1 : Int32) (u2 : Int32) (u3 : Int32) (u4 : Int32) : Option (Int32) :=
  if 2 ≤ u4 then
    if u3 = 0 then
      some 0
    else
      zt_gd (zt_gI u1 6) <|
      zt_gd (zt_gI u1 6) <|
      zt_bd (f_X9_in (σ 94 1) (σ 101 u1.toNatClampNeg) (σ 102 u1.toNatClampNeg)) fun v5 =>
      if v5 = 0 then
        some 0
      else
        some 1
  else
    zt_gd (zt_gI ((2 * u1) + u4) 12) <|
    if (σ 100 ((2 * u1) + u4).toNatClampNeg) = (-1) then
      f_X9_isGood_50 σ rc5 u3 u1 u2 u4
    else
      zt_gd (zt_gI ((2 * u1) + u4) 12) <|
      zt_bd (f_X9_code (σ 100 ((2 * u1) + u4).toNatClampNeg)) fun v11 =>
      if v11 = u2 then
        f_X9_isGood_51 σ rc5 1 u3 u1 u2 u4
      else
        f_X9_isGood_50 σ rc5 u3 u1 u2 u4
def f_X9_isGood_5 (σ : zt_St) : Nat → Int32 → Int32 → Int32 → Int32 → Option (Int32)
  | 0, _, _, _, _ => none
  | n + 1, u1, u2, u3, u4 => f_X9_isGood_5b σ (f_X9_isGood_5 σ n) u1 u2 u3 u4
def f_X9_isGood (σ : zt_St) (x1 : Int32) (x2 : Int32) : Option (Int32) :=
  f_X9_isGood_5 σ zt_FU x1 x2 0 0

def f_X9_takes (σ : zt_St) (x1 : Int32) : Option (zt_St) :=
  zt_gd (zt_gI x1 41) <|
  zt_lt (zt_st σ 94 32 (σ 117 x1.toNatClampNeg)) fun σ2 =>
  zt_gd (zt_gI x1 41) <|
  zt_lt (zt_st σ2 94 33 (σ2 118 x1.toNatClampNeg)) fun σ4 =>
  zt_lt (zt_st σ4 94 34 0) fun σ5 =>
  some σ5

def f_X9_fails (σ : zt_St) (x1 : Int32) (x2 : Int32) (x3 : Int32) : Option (Int32 × zt_St) :=
  if x3 = 0 then
    some (6, σ)
  else
    zt_bd (f_X9_tell σ (-1) (-1) 0 x1 x2) fun σ3 =>
    some (6, σ3)

def f_X9_resolves_570 (rc28 : zt_St → Int32 → Int32 → Int32 → Int32 → Int32 → Int32 → Int32 → Int32 → Int32 → Int32 → Option (Int32 × zt_St)) (σ : zt_St) (u2 : Int32) (u3 : Int32) (u4 : Int32) (u5 : Int32) (u6 : Int32) (u7 : Int32) (u8 : Int32) (u9 : Int32) (u10 : Int32) (u11 : Int32) : Option (Int32 × zt_St) :=
  rc28 σ u2 u3 u4 u5 u6 u7 u8 u9 u10 u11
def f_X9_resolves_533 (σ : zt_St) (y0 : Int32) (y1 : Int32) (y2 : Int32) (u6 : Int32) (u9 : Int32) (u13 : Int32) : Option (Int32 × zt_St) :=
  zt_bd (f_X9_tell σ y2 y1 y0 u6 u9) fun σ79 =>
  some (u13, σ79)
def f_X9_resolves_517 (σ : zt_St) (y0 : Int32) (u6 : Int32) (u8 : Int32) (u9 : Int32) (u13 : Int32) : Option (Int32 × zt_St) :=
  if u9 = 1 then
    f_X9_resolves_533 σ 0 (σ 94 33) y0 u6 u9 u13
  else
    f_X9_resolves_533 σ u8 (σ 94 33) y0 u6 u9 u13
def f_X9_resolves_474 (rc28 : zt_St → Int32 → Int32 → Int32 → Int32 → Int32 → Int32 → Int32 → Int32 → Int32 → Int32 → Option (Int32 × zt_St)) (σ : zt_St) (y0 : Int32) (u2 : Int32) (u3 : Int32) (u4 : Int32) (u6 : Int32) (u7 : Int32) (u8 : Int32) (u9 : Int32) (u11 : Int32) (u13 : Int32) : Option (Int32 × zt_St) :=
  zt_lt (zt_st σ 94 36 y0) fun σ35 =>
  zt_bd (f_X9_least u8 (σ35 94 34)) fun v36 =>
  if u13 = 4 then
    if (u7 + 1) ≤ 8 then
      f_X9_resolves_570 rc28 σ35 u2 u3 u4 (σ35 94 33) u6 (u7 + 1) v36 u9 (-1) u11
    else
      zt_bd (f_X9_fails σ35 u6 u9 u4) fun q42 => zt_lt q42.1 fun v40 => zt_lt q42.2 fun σ41 =>
      some (v40, σ41)
  else
    if u4 = 0 then
      some (u13, σ35)
    else
      if u13 = 0 then
        f_X9_resolves_517 σ35 (σ35 94 32) u6 v36 u9 u13
      else
        f_X9_resolves_517 σ35 (-1) u6 v36 u9 u13
def f_X9_resolves_449 (rc28 : zt_St → Int32 → Int32 → Int32 → Int32 → Int32 → Int32 → Int32 → Int32 → Int32 → Int32 → Option (Int32 × zt_St)) (σ : zt_St) (u2 : Int32) (u3 : Int32) (u4 : Int32) (u5 : Int32) (u6 : Int32) (u7 : Int32) (u8 : Int32) (u9 : Int32) (u10 : Int32) (u11 : Int32) (u13 : Int32) : Option (Int32 × zt_St) :=
  if u13 = 3 then
    f_X9_resolves_570 rc28 σ u2 u3 u4 u5 u6 u7 u8 u9 u10 u11
  else
    if u11 ≤ (σ 94 36) then
      f_X9_resolves_474 rc28 σ (σ 94 36) u2 u3 u4 u6 u7 u8 u9 u11 u13
    else
      f_X9_resolves_474 rc28 σ u11 u2 u3 u4 u6 u7 u8 u9 u11 u13
def f_X9_resolves_429 (rc28 : zt_St → Int32 → Int32 → Int32 → Int32 → Int32 → Int32 → Int32 → Int32 → Int32 → Int32 → Option (Int32 × zt_St)) (σ : zt_St) (u2 : Int32) (u3 : Int32) (u4 : Int32) (u5 : Int32) (u6 : Int32) (u7 : Int32) (u8 : Int32) (u9 : Int32) (u11 : Int32) (u13 : Int32) (u16 : Int32) : Option (Int32 × zt_St) :=
  f_X9_resolves_449 rc28 σ u2 u3 u4 u5 u6 u7 u8 u9 u16 u11 u13
def f_X9_resolves_407 (rc28 : zt_St → Int32 → Int32 → Int32 → Int32 → Int32 → Int32 → Int32 → Int32 → Int32 → Int32 → Option (Int32 × zt_St)) (σ : zt_St) (y0 : Int32) (u2 : Int32) (u3 : Int32) (u4 : Int32) (u5 : Int32) (u6 : Int32) (u7 : Int32) (u8 : Int32) (u9 : Int32) (u13 : Int32) (u16 : Int32) : Option (Int32 × zt_St) :=
  if u3 = 0 then
    zt_gd (zt_gI u16 6) <|
    zt_lt (zt_st σ 113 u16.toNatClampNeg ((σ 94 1) + (σ 94 34))) fun σ71 =>
    f_X9_resolves_429 rc28 σ71 u2 u3 u4 u5 u6 u7 u8 u9 y0 u13 u16
  else
    f_X9_resolves_429 rc28 σ u2 u3 u4 u5 u6 u7 u8 u9 y0 u13 u16
def f_X9_resolves_279 (σ : zt_St) (u4 : Int32) (u6 : Int32) (u9 : Int32) : Option (Int32 × zt_St) :=
  zt_bd (f_X9_fails σ u6 u9 u4) fun q82 => zt_lt q82.1 fun v80 => zt_lt q82.2 fun σ81 =>
  some (v80, σ81)
def f_X9_resolves_254 (rc28 : zt_St → Int32 → Int32 → Int32 → Int32 → Int32 → Int32 → Int32 → Int32 → Int32 → Int32 → Option (Int32 × zt_St)) (σ : zt_St) (y0 : Int32) (u2 : Int32) (u3 : Int32) (u4 : Int32) (u5 : Int32) (u6 : Int32) (u7 : Int32) (u8 : Int32) (u9 : Int32) (u10 : Int32) (u11 : Int32) : Option (Int32 × zt_St) :=
  if y0 = (-1) then
    f_X9_resolves_279 σ u4 u6 u9
  else
    zt_gd (zt_gI y0 41) <|
    if (σ 94 1) < ((σ 120 y0.toNatClampNeg) + 60) then
      zt_gd (zt_gI y0 41) <|
      zt_bd (f_X9_takes σ y0) fun σ77 =>
      f_X9_resolves_449 rc28 σ77 u2 u3 u4 u5 u6 u7 u8 1 u10 u11 (σ 116 y0.toNatClampNeg)
    else
      f_X9_resolves_279 σ u4 u6 u9
def f_X9_resolves_231 (rc28 : zt_St → Int32 → Int32 → Int32 → Int32 → Int32 → Int32 → Int32 → Int32 → Int32 → Int32 → Option (Int32 × zt_St)) (σ : zt_St) (y0 : Int32) (u2 : Int32) (u3 : Int32) (u4 : Int32) (u5 : Int32) (u6 : Int32) (u7 : Int32) (u8 : Int32) (u9 : Int32) (u10 : Int32) (u11 : Int32) : Option (Int32 × zt_St) :=
  if y0 = (-1) then
    if u3 = 0 then
      zt_bd (f_X9_keptOf σ u5 u2) fun v66 =>
      f_X9_resolves_254 rc28 σ v66 u2 u3 u4 u5 u6 u7 u8 u9 u10 u11
    else
      f_X9_resolves_254 rc28 σ (-1) u2 u3 u4 u5 u6 u7 u8 u9 u10 u11
  else
    zt_bd (f_X9_asks σ y0 u10 u5 u2) fun q48 => zt_lt q48.1 fun v46 => zt_lt q48.2 fun σ47 =>
    if v46 = 5 then
      zt_bd (f_X9_fails σ47 u6 u9 u4) fun q64 => zt_lt q64.1 fun v62 => zt_lt q64.2 fun σ63 =>
      some (v62, σ63)
    else
      if v46 = 3 then
        zt_bd (f_X9_find σ47 y0 (σ47 94 33) 4) fun v54 =>
        if u11 = 0 then
          if v54 = (-1) then
            f_X9_resolves_407 rc28 σ47 1 u2 u3 u4 u5 u6 u7 u8 u9 v46 (σ47 94 32)
          else
            zt_gd (zt_gI v54 416) <|
            zt_bd (f_X9_isGood σ47 (σ47 94 32) (σ47 106 v54.toNatClampNeg)) fun v59 =>
            if v59 = 0 then
              f_X9_resolves_407 rc28 σ47 2 u2 u3 u4 u5 u6 u7 u8 u9 v46 (σ47 94 32)
            else
              f_X9_resolves_407 rc28 σ47 0 u2 u3 u4 u5 u6 u7 u8 u9 v46 (σ47 94 32)
        else
          f_X9_resolves_407 rc28 σ47 u11 u2 u3 u4 u5 u6 u7 u8 u9 v46 (σ47 94 32)
      else
        if u3 = 0 then
          zt_bd (f_X9_keeps σ47 u5 u2 v46) fun σ53 =>
          f_X9_resolves_449 rc28 σ53 u2 u3 u4 u5 u6 u7 u8 u9 u10 u11 v46
        else
          f_X9_resolves_449 rc28 σ47 u2 u3 u4 u5 u6 u7 u8 u9 u10 u11 v46
def f_X9_resolves_175 (rc28 : zt_St → Int32 → Int32 → Int32 → Int32 → Int32 → Int32 → Int32 → Int32 → Int32 → Int32 → Option (Int32 × zt_St)) (σ : zt_St) (u2 : Int32) (u3 : Int32) (u4 : Int32) (u5 : Int32) (u6 : Int32) (u7 : Int32) (u8 : Int32) (u9 : Int32) (u10 : Int32) (u11 : Int32) : Option (Int32 × zt_St) :=
  if u6 = 12 then
    zt_bd (f_X9_fails σ u6 u9 u4) fun q34 => zt_lt q34.1 fun v32 => zt_lt q34.2 fun σ33 =>
    some (v32, σ33)
  else
    zt_gd (zt_gI u10 6) <|
    if (σ 99 u10.toNatClampNeg) = 0 then
      f_X9_resolves_231 rc28 σ u10 u2 u3 u4 u5 (u6 + 1) u7 u8 u9 u10 u11
    else
      zt_gd (zt_gI u10 6) <|
      if (σ 98 u10.toNatClampNeg) = (-1) then
        f_X9_resolves_231 rc28 σ (-1) u2 u3 u4 u5 (u6 + 1) u7 u8 u9 u10 u11
      else
        f_X9_resolves_231 rc28 σ (6 + u10) u2 u3 u4 u5 (u6 + 1) u7 u8 u9 u10 u11
def f_X9_resolves_173 (rc28 : zt_St → Int32 → Int32 → Int32 → Int32 → Int32 → Int32 → Int32 → Int32 → Int32 → Int32 → Option (Int32 × zt_St)) (σ : zt_St) (y0 : Int32) (u2 : Int32) (u3 : Int32) (u4 : Int32) (u5 : Int32) (u6 : Int32) (u7 : Int32) (u8 : Int32) (u9 : Int32) (u10 : Int32) : Option (Int32 × zt_St) :=
  f_X9_resolves_175 rc28 σ u2 u3 u4 u5 u6 u7 u8 u9 u10 y0
def f_X9_resolves_124 (rc28 : zt_St → Int32 → Int32 → Int32 → Int32 → Int32 → Int32 → Int32 → Int32 → Int32 → Int32 → Option (Int32 × zt_St)) (σ : zt_St) (u2 : Int32) (u3 : Int32) (u4 : Int32) (u5 : Int32) (u6 : Int32) (u7 : Int32) (u8 : Int32) (u9 : Int32) (u10 : Int32) (u11 : Int32) : Option (Int32 × zt_St) :=
  if u10 = (-1) then
    zt_bd (f_X9_bestZone σ u5 u2 u3) fun v17 =>
    if (σ 94 11) = (-1) then
      f_X9_resolves_173 rc28 σ 1 u2 u3 u4 u5 u6 u7 u8 u9 v17
    else
      zt_bd (f_X9_code (σ 94 11)) fun v20 =>
      zt_bd (f_X9_isGood σ 0 v20) fun v22 =>
      if v22 = 0 then
        f_X9_resolves_173 rc28 σ 2 u2 u3 u4 u5 u6 u7 u8 u9 v17
      else
        f_X9_resolves_173 rc28 σ 0 u2 u3 u4 u5 u6 u7 u8 u9 v17
  else
    f_X9_resolves_175 rc28 σ u2 u3 u4 u5 u6 u7 u8 u9 u10 u11
def f_X9_resolves_49 (rc28 : zt_St → Int32 → Int32 → Int32 → Int32 → Int32 → Int32 → Int32 → Int32 → Int32 → Int32 → Option (Int32 × zt_St)) (σ : zt_St) (y0 : Int32) (u2 : Int32) (u3 : Int32) (u4 : Int32) (u5 : Int32) (u6 : Int32) (u7 : Int32) (u8 : Int32) (u9 : Int32) (u10 : Int32) (u11 : Int32) : Option (Int32 × zt_St) :=
  if y0 = (-1) then
    f_X9_resolves_124 rc28 σ u2 u3 u4 u5 u6 u7 u8 u9 u10 u11
  else
    zt_gd (zt_gI y0 41) <|
    zt_gd (zt_gI y0 41) <|
    if ((σ 120 y0.toNatClampNeg) + (σ 119 y0.toNatClampNeg)) ≤ (σ 94 1) then
      f_X9_resolves_124 rc28 σ u2 u3 u4 u5 u6 u7 u8 u9 u10 u11
    else
      zt_gd (zt_gI y0 41) <|
      zt_bd (f_X9_takes σ y0) fun σ12 =>
      zt_gd (zt_gI y0 41) <|
      zt_gd (zt_gI y0 41) <|
      zt_lt (zt_st σ12 94 34 (((σ12 120 y0.toNatClampNeg) + (σ12 119 y0.toNatClampNeg)) - (σ12 94 1))) fun σ15 =>
      f_X9_resolves_449 rc28 σ15 u2 u3 u4 u5 u6 u7 u8 u9 u10 u11 (σ 116 y0.toNatClampNeg)
def f_X9_resolves_38 (rc28 : zt_St → Int32 → Int32 → Int32 → Int32 → Int32 → Int32 → Int32 → Int32 → Int32 → Int32 → Option (Int32 × zt_St)) (σ : zt_St) (u2 : Int32) (u3 : Int32) (u4 : Int32) (u5 : Int32) (u6 : Int32) (u7 : Int32) (u8 : Int32) (u9 : Int32) (u10 : Int32) (u11 : Int32) : Option (Int32 × zt_St) :=
  f_X9_resolves_49 rc28 σ (-1) u2 u3 u4 u5 u6 u7 u8 u9 u10 u11
def f_X9_resolves_28b (rc28 : zt_St → Int32 → Int32 → Int32 → Int32 → Int32 → Int32 → Int32 → Int32 → Int32 → Int32 → Option (Int32 × zt_St)) (σ : zt_St) (u2 : Int32) (u3 : Int32) (u4 : Int32) (u5 : Int32) (u6 : Int32) (u7 : Int32) (u8 : Int32) (u9 : Int32) (u10 : Int32) (u11 : Int32) : Option (Int32 × zt_St) :=
  if u3 = 0 then
    if u10 = (-1) then
      zt_bd (f_X9_keptOf σ u5 u2) fun v4 =>
      f_X9_resolves_49 rc28 σ v4 u2 u3 u4 u5 u6 u7 u8 u9 u10 u11
    else
      f_X9_resolves_38 rc28 σ u2 u3 u4 u5 u6 u7 u8 u9 u10 u11
  else
    f_X9_resolves_38 rc28 σ u2 u3 u4 u5 u6 u7 u8 u9 u10 u11
def f_X9_resolves_28 : Nat → zt_St → Int32 → Int32 → Int32 → Int32 → Int32 → Int32 → Int32 → Int32 → Int32 → Int32 → Option (Int32 × zt_St)
  | 0, _, _, _, _, _, _, _, _, _, _, _ => none
  | n + 1, σ, u2, u3, u4, u5, u6, u7, u8, u9, u10, u11 => f_X9_resolves_28b (f_X9_resolves_28 n) σ u2 u3 u4 u5 u6 u7 u8 u9 u10 u11
def f_X9_resolves (σ : zt_St) (x1 : Int32) (x2 : Int32) (x3 : Int32) (x4 : Int32) : Option (Int32 × zt_St) :=
  zt_lt (zt_st σ 94 36 0) fun σ1 =>
  f_X9_resolves_28 zt_FU σ1 x2 x3 x4 x1 0 0 1000 0 (-1) 0

def f_X9_isAsked (x0 : Int32) (x1 : Int32) : Option (Int32) :=
  zt_bd (f_X9_isName x0) fun v1 =>
  if v1 = 0 then
    some 0
  else
    zt_bd (f_X9_in x1 0 4) fun v4 =>
    if v4 = 0 then
      some 0
    else
      some 1

def f_X9_resolve (σ : zt_St) (x1 : Int32) (x2 : Int32) : Option (Int32 × zt_St) :=
  zt_bd (f_X9_isAsked x1 x2) fun v1 =>
  zt_bd (f_X9_asked σ v1) fun q5 => zt_lt q5.1 fun v3 => zt_lt q5.2 fun σ4 =>
  if v3 = 0 then
    some (0, σ4)
  else
    zt_bd (f_X9_resolves σ4 x1 x2 0 1) fun q9 => zt_lt q9.1 fun v7 => zt_lt q9.2 fun σ8 =>
    some (v7, σ8)

def f_X9_resolveAnew (σ : zt_St) (x1 : Int32) (x2 : Int32) : Option (Int32 × zt_St) :=
  zt_bd (f_X9_isAsked x1 x2) fun v1 =>
  zt_bd (f_X9_asked σ v1) fun q5 => zt_lt q5.1 fun v3 => zt_lt q5.2 fun σ4 =>
  if v3 = 0 then
    some (0, σ4)
  else
    zt_bd (f_X9_resolves σ4 x1 x2 1 1) fun q9 => zt_lt q9.1 fun v7 => zt_lt q9.2 fun σ8 =>
    some (v7, σ8)

def f_X9_forget_58b (rc58 : zt_St → Int32 → Int32 → Option (Int32 × zt_St)) (σ : zt_St) (u1 : Int32) (u2 : Int32) : Option (Int32 × zt_St) :=
  if 6 ≤ u2 then
    some (u1, σ)
  else
    zt_gd (zt_gI u2 6) <|
    zt_lt (zt_st σ 113 u2.toNatClampNeg 0) fun σ9 =>
    rc58 σ9 u1 (u2 + 1)
def f_X9_forget_58 : Nat → zt_St → Int32 → Int32 → Option (Int32 × zt_St)
  | 0, _, _, _ => none
  | n + 1, σ, u1, u2 => f_X9_forget_58b (f_X9_forget_58 n) σ u1 u2
def f_X9_forget_43 (rc9 : zt_St → Int32 → Int32 → Option (Int32 × zt_St)) (σ : zt_St) (y0 : Int32) (y1 : Int32) (u2 : Int32) : Option (Int32 × zt_St) :=
  rc9 σ (y1 + y0) (u2 + 1)
def f_X9_forget_9b (rc9 : zt_St → Int32 → Int32 → Option (Int32 × zt_St)) (σ : zt_St) (u1 : Int32) (u2 : Int32) : Option (Int32 × zt_St) :=
  if (σ 94 24) ≤ u2 then
    zt_lt (zt_st σ 94 24 0) fun σ3 =>
    f_X9_forget_58 zt_FU σ3 u1 0
  else
    zt_gd (zt_gI u2 41) <|
    zt_gd (zt_gI u2 41) <|
    if ((σ 120 u2.toNatClampNeg) + (σ 119 u2.toNatClampNeg)) ≤ (σ 94 1) then
      f_X9_forget_43 rc9 σ 0 u1 u2
    else
      f_X9_forget_43 rc9 σ 1 u1 u2
def f_X9_forget_9 : Nat → zt_St → Int32 → Int32 → Option (Int32 × zt_St)
  | 0, _, _, _ => none
  | n + 1, σ, u1, u2 => f_X9_forget_9b (f_X9_forget_9 n) σ u1 u2
def f_X9_forget (σ : zt_St) : Option (Int32 × zt_St) :=
  zt_lt (zt_st σ 94 0 0) fun σ1 =>
  f_X9_forget_9 zt_FU σ1 0 0

def f_X9_pass (σ : zt_St) (x1 : Int32) : Option (Int32 × zt_St) :=
  zt_bd (f_X9_in x1 1 100) fun v1 =>
  zt_bd (f_X9_asked σ v1) fun q5 => zt_lt q5.1 fun v3 => zt_lt q5.2 fun σ4 =>
  if v3 = 0 then
    some (0, σ4)
  else
    zt_lt (zt_st σ4 94 1 ((σ4 94 1) + x1)) fun σ7 =>
    some ((σ7 94 1), σ7)

def f_X9_setKey_30 (σ : zt_St) (y0 : Int32) (y1 : Int32) (u1 : Int32) (u2 : Int32) (u3 : Int32) : Option (Int32 × zt_St) :=
  zt_bd (f_X9_asked_ σ y1 y0) fun q11 => zt_lt q11.1 fun v9 => zt_lt q11.2 fun σ10 =>
  if v9 = 0 then
    some (0, σ10)
  else
    zt_gd (zt_gI ((2 * u1) + u2) 12) <|
    zt_gd (zt_gI ((2 * u1) + u2) 12) <|
    zt_lt (zt_st σ10 100 ((2 * u1) + u2).toNatClampNeg u3) fun σ15 =>
    some ((σ10 100 ((2 * u1) + u2).toNatClampNeg), σ15)
def f_X9_setKey_29 (σ : zt_St) (y0 : Int32) (u1 : Int32) (u2 : Int32) (u3 : Int32) : Option (Int32 × zt_St) :=
  f_X9_setKey_30 σ 0 y0 u1 u2 u3
def f_X9_setKey (σ : zt_St) (x1 : Int32) (x2 : Int32) (x3 : Int32) : Option (Int32 × zt_St) :=
  zt_bd (f_X9_isZone σ x1) fun v1 =>
  zt_bd (f_X9_in x2 0 1) fun v3 =>
  if v3 = 0 then
    f_X9_setKey_29 σ v1 x1 x2 x3
  else
    zt_bd (f_X9_in x3 (-1) 99) fun v6 =>
    if v6 = 0 then
      f_X9_setKey_29 σ v1 x1 x2 x3
    else
      f_X9_setKey_30 σ 1 v1 x1 x2 x3

def f_X9_setWindow_33 (σ : zt_St) (y0 : Int32) (y1 : Int32) (u1 : Int32) (u2 : Int32) (u3 : Int32) : Option (zt_St) :=
  zt_bd (f_X9_asked_ σ y1 y0) fun q11 => zt_lt q11.1 fun v9 => zt_lt q11.2 fun σ10 =>
  if v9 = 0 then
    some σ10
  else
    zt_gd (zt_gI u1 6) <|
    zt_lt (zt_st σ10 101 u1.toNatClampNeg u2) fun σ14 =>
    zt_gd (zt_gI u1 6) <|
    zt_lt (zt_st σ14 102 u1.toNatClampNeg u3) fun σ16 =>
    some σ16
def f_X9_setWindow_32 (σ : zt_St) (y0 : Int32) (u1 : Int32) (u2 : Int32) (u3 : Int32) : Option (zt_St) :=
  f_X9_setWindow_33 σ 0 y0 u1 u2 u3
def f_X9_setWindow (σ : zt_St) (x1 : Int32) (x2 : Int32) (x3 : Int32) : Option (zt_St) :=
  zt_bd (f_X9_isZone σ x1) fun v1 =>
  zt_bd (f_X9_in x2 0 10000) fun v3 =>
  if v3 = 0 then
    f_X9_setWindow_32 σ v1 x1 x2 x3
  else
    zt_bd (f_X9_in x3 x2 10000) fun v6 =>
    if v6 = 0 then
      f_X9_setWindow_32 σ v1 x1 x2 x3
    else
      f_X9_setWindow_33 σ 1 v1 x1 x2 x3

def f_X9_setAnchor (σ : zt_St) (x1 : Int32) : Option (Int32 × zt_St) :=
  zt_bd (f_X9_in x1 (-1) 99) fun v1 =>
  zt_bd (f_X9_asked σ v1) fun q5 => zt_lt q5.1 fun v3 => zt_lt q5.2 fun σ4 =>
  if v3 = 0 then
    some (0, σ4)
  else
    zt_lt (zt_st σ4 94 11 x1) fun σ7 =>
    some ((σ4 94 11), σ7)

def f_X9_trust (σ : zt_St) (x1 : Int32) (x2 : Int32) : Option (Int32 × zt_St) :=
  zt_bd (f_X9_isAsked x1 x2) fun v1 =>
  zt_bd (f_X9_asked σ v1) fun q5 => zt_lt q5.1 fun v3 => zt_lt q5.2 fun σ4 =>
  if v3 = 0 then
    some (0, σ4)
  else
    zt_bd (f_X9_resolves σ4 x1 x2 1 0) fun q9 => zt_lt q9.1 fun v7 => zt_lt q9.2 fun σ8 =>
    if v7 = 6 then
      some ((-1), σ8)
    else
      some ((σ8 94 36), σ8)
