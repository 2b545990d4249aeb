/-! the reference's bestZone from its start; a zone at an apex, in both -/
theorem z9bz {σ : zt_St} {Z : Nat × (Nat → Nat)} {n s : Nat} (hZ : zZM σ Z) (hB : zZB Z) (hn : n < 10000) (hs : s < 5) (h0 : Z.2 0 = 0) : f_X9_bestZone σ (nI n) (nI s) 0 = some (nI (zbz Z (σ 113) n s (σ 94 1) (Z.1 - 1) 1 0)) := by
  have hb6 := hB.1
  have hb1 := hB.2.1
  unfold f_X9_bestZone
  rw [zfu (Z.1 - 1) (by omega)]
  exact z9bzL hZ hB hn hs (Z.1 - 1) 1 0 _ (by omega) (by omega) (by
    rw [h0]
    unfold zun
    apply decide_eq_true
    omega)
theorem z9bz1L {σ : zt_St} {Z : Nat × (Nat → Nat)} {x y : Int32} (hZ : zZM σ Z) (hB : zZB Z) : ∀ d i b m, i + d = Z.1 → f_X9_bestZone_6 σ (m + d + 1) x y 1 (nI b) (nI i) = some (nI b) := by
  have hb6 := hB.1
  intro d
  induction d with
  | zero =>
    intro i b m h
    rw [zs_bz9]
    unfold f_X9_bestZone_6b
    rw [hZ.1, if_pos (nI_le (by omega) (by omega))]
  | succ d ih =>
    intro i b m h
    rw [show m + (d + 1) + 1 = (m + d + 1) + 1 from rfl, zs_bz9]
    unfold f_X9_bestZone_6b f_X9_bestZone_72 f_X9_bestZone_73 f_X9_bestZone_108 f_X9_bestZone_110
    rw [hZ.1, if_neg (nI_ge (by omega) (by omega)), if_neg (show ¬ (1 : Int32) = 0 by decide), if_pos (show (0 : Int32) = 0 from rfl), nI_1]
    exact ih (i + 1) b m (by omega)
theorem z9bz1 {σ : zt_St} {Z : Nat × (Nat → Nat)} {x y : Int32} (hZ : zZM σ Z) (hB : zZB Z) : f_X9_bestZone σ x y 1 = some (nI 0) := by
  have hb6 := hB.1
  have hb1 := hB.2.1
  unfold f_X9_bestZone
  rw [zfu (Z.1 - 1) (by omega)]
  exact z9bz1L hZ hB (Z.1 - 1) 1 0 _ (by omega)
def zia2 (Z : Nat × (Nat → Nat)) (x : Int32) (j : Nat) : Bool := decide (nI (Z.2 j) = x)
theorem zs_ioa {σ : zt_St} {n : Nat} {a b : Int32} : f_X7_isOneAt_2 σ (n + 1) a b = f_X7_isOneAt_2b σ (f_X7_isOneAt_2 σ n) a b := rfl
theorem z3ioL {σ : zt_St} {Z : Nat × (Nat → Nat)} {x : Int32} (hZ : zZC σ Z) (hB : zZB Z) : ∀ d i m, i + d = Z.1 → f_X7_isOneAt_2 σ (m + d + 1) x (nI i) = some (zb (zan (zia2 Z x) d i)) := by
  have hb6 := hB.1
  intro d
  induction d with
  | zero =>
    intro i m h
    rw [zs_ioa]
    unfold f_X7_isOneAt_2b
    rw [hZ.1, if_pos (nI_le (by omega) (by omega))]
    rfl
  | succ d ih =>
    intro i m h
    rw [show m + (d + 1) + 1 = (m + d + 1) + 1 from rfl, zs_ioa, zan_s]
    unfold f_X7_isOneAt_2b
    rw [hZ.1, if_neg (nI_ge (by omega) (by omega)), z3at hZ hB (by omega), zbd_s, zgd_d (zkd5 i (by omega)), hZ.2 i (by omega), nI_1, ih (i + 1) m (by omega)]
    by_cases c : nI (Z.2 i) = x
    · rw [if_pos c, show zia2 Z x i = true from decide_eq_true c]; rfl
    · rw [if_neg c, show zia2 Z x i = false from decide_eq_false c, Bool.false_or]
theorem z3ioa {σ : zt_St} {Z : Nat × (Nat → Nat)} {x : Int32} (hZ : zZC σ Z) (hB : zZB Z) : f_X7_isOneAt σ x = some (zb (zan (zia2 Z x) Z.1 0)) := by
  have hb6 := hB.1
  unfold f_X7_isOneAt
  rw [zfu Z.1 (by omega), zl_0]
  exact z3ioL hZ hB Z.1 0 _ (by omega)
theorem zs_zon {n : Nat} {σ : zt_St} {a b c d : Int32} : f_X9_zone_18 (n + 1) σ a b c d = f_X9_zone_18b (f_X9_zone_18 n) σ a b c d := rfl
theorem z9zoL {σ : zt_St} {Z : Nat × (Nat → Nat)} {x y : Int32} (hZ : zZM σ Z) (hB : zZB Z) : ∀ d i c m, i + d = Z.1 → f_X9_zone_18 (m + d + 1) σ x y (zb c) (nI i) = f_X9_zone_18 1 σ x y (zb (c && !(zan (zia2 Z x) d i))) (nI Z.1) := by
  have hb6 := hB.1
  intro d
  induction d with
  | zero =>
    intro i c m h
    rw [zs_zon, zs_zon, show i = Z.1 by omega]
    unfold f_X9_zone_18b
    rw [hZ.1, if_pos (nI_le (Nat.le_refl _) (by omega)), if_pos (nI_le (Nat.le_refl _) (by omega))]
    show _ = _
    rw [show (c && !(zan (zia2 Z x) 0 Z.1)) = c from Bool.and_true c]
  | succ d ih =>
    intro i c m h
    have i0 := ih (i + 1) (c && false) m (by omega)
    have i1 := ih (i + 1) (c && true) m (by omega)
    rw [show m + (d + 1) + 1 = (m + d + 1) + 1 from rfl, zs_zon, zan_s]
    unfold f_X9_zone_18b f_X9_zone_44
    rw [hZ.1, if_neg (nI_ge (by omega) (by omega)), zgd_i (by omega) (by decide), nI_clamp (by omega), hZ.2 i (by omega), nI_1, show zb c &&& 0 = zb (c && false) from zba c false, show zb c &&& 1 = zb (c && true) from zba c true, i0, i1]
    by_cases q : nI (Z.2 i) = x
    · rw [if_pos q, show zia2 Z x i = true from decide_eq_true q, Bool.true_or, Bool.not_true, Bool.and_false, Bool.false_and]
    · rw [if_neg q, show zia2 Z x i = false from decide_eq_false q, Bool.false_or, Bool.and_true]
