/-! the zone that is kept nearest, in both -/
def zcz (Z : Nat × (Nat → Nat)) (U : Nat → Int32) (n s : Nat) (now : Int32) (i : Nat) : Bool := (zun n (Z.2 i) && !(decide (Z.2 i = n) && decide (s = 3 ∨ s = 4))) && !(decide (U i ≤ now))
def zbz (Z : Nat × (Nat → Nat)) (U : Nat → Int32) (n s : Nat) (now : Int32) : Nat → Nat → Nat → Nat
  | 0, _, b => b
  | d + 1, i, b => zbz Z U n s now d (i + 1) (if (zcz Z U n s now i && decide (Z.2 b < Z.2 i)) = true then i else b)
theorem zbz_s {Z : Nat × (Nat → Nat)} {U : Nat → Int32} {n s : Nat} {now : Int32} {d i b : Nat} : zbz Z U n s now (d + 1) i b = zbz Z U n s now d (i + 1) (if (zcz Z U n s now i && decide (Z.2 b < Z.2 i)) = true then i else b) := rfl
theorem zs_nkz {σ : zt_St} {n : Nat} {a b : Int32} : f_X5_nearestKeptZone_4 σ (n + 1) a b = f_X5_nearestKeptZone_4b σ (f_X5_nearestKeptZone_4 σ n) a b := rfl
theorem z3zh {σ : zt_St} {i : Nat} {now : Int32} (hi : i < 6) : f_X2_isZoneHolding σ (nI i) now = some (zb (!(decide (σ 90 i ≤ now)))) := by
  unfold f_X2_isZoneHolding
  rw [if_neg (nI_pos (by omega)), zl_6, if_neg (nI_ge (by omega) (by omega)), zgd_i (by omega) (by decide), nI_clamp (by omega)]
  by_cases c : σ 90 i ≤ now
  · rw [if_pos c, decide_eq_true c]; rfl
  · rw [if_neg c, decide_eq_false c]; rfl
theorem z3nkL {σ : zt_St} {Z : Nat × (Nat → Nat)} {n s : Nat} (hZ : zZC σ Z) (hB : zZB Z) (hn : n < 10000) (hs : s < 5) (h6 : σ 80 6 = nI n) (h7 : σ 80 7 = nI s) : ∀ d i b m, i + d = Z.1 → b < Z.1 → f_X5_nearestKeptZone_4 σ (m + d + 1) (nI b) (nI i) = some (nI (zbz Z (σ 90) n s (σ 80 3) d i b)) := by
  have hb6 := hB.1
  intro d
  induction d with
  | zero =>
    intro i b m h hb
    rw [zs_nkz]
    unfold f_X5_nearestKeptZone_4b
    rw [hZ.1, if_pos (nI_le (by omega) (by omega))]
    rfl
  | succ d ih =>
    intro i b m h hb
    have e := hZ.2 i (by omega)
    have e2 := hZ.2 b hb
    have a1 := znm_lt (hB.2.2 i (by omega))
    have a2 := znm_lt (hB.2.2 b hb)
    have s3 : nI s = 3 ↔ s = 3 := nI_eq (b := 3) (by omega) (by decide)
    have s4 : nI s = 4 ↔ s = 4 := nI_eq (b := 4) (by omega) (by decide)
    have c66 : f_X5_nearestKeptZone_66 σ (f_X5_nearestKeptZone_4 σ (m + d + 1)) (nI b) (nI i) (nI (Z.2 i)) = some (nI (zbz Z (σ 90) n s (σ 80 3) d (i + 1) b)) := by
      unfold f_X5_nearestKeptZone_66 f_X5_nearestKeptZone_67 f_X5_nearestKeptZone_106
      rw [if_pos (show (0 : Int32) = 0 from rfl), nI_1]
      exact ih (i + 1) b m (by omega) hb
    have c62 : f_X5_nearestKeptZone_62 σ (f_X5_nearestKeptZone_4 σ (m + d + 1)) (nI b) (nI i) (nI (Z.2 i)) = some (nI (zbz Z (σ 90) n s (σ 80 3) d (i + 1) (if (!(decide (σ 90 i ≤ σ 80 3)) && decide (Z.2 b < Z.2 i)) = true then i else b))) := by
      unfold f_X5_nearestKeptZone_62 f_X5_nearestKeptZone_67 f_X5_nearestKeptZone_106
      rw [if_neg (show ¬ (1 : Int32) = 0 by decide), z3zh (by omega), zbd_s, z3at hZ hB hb, zbd_s, zgd_d (zkd5 b (by omega)), e2, nI_1, ih (i + 1) b m (by omega) hb, ih (i + 1) i m (by omega) (by omega)]
      cases (decide (σ 90 i ≤ σ 80 3)) with
      | true => rw [if_pos (show zb (!true) = 0 from rfl), Bool.not_true, Bool.false_and, if_neg (by decide)]
      | false =>
        rw [if_neg (show ¬ zb (!false) = 0 by decide), Bool.not_false, Bool.true_and]
        by_cases c : Z.2 b < Z.2 i
        · rw [if_neg (nI_ge c (by omega)), decide_eq_true c, if_pos rfl]
        · rw [if_pos (nI_le (by omega) (by omega)), decide_eq_false c, if_neg (by decide)]
    rw [show m + (d + 1) + 1 = (m + d + 1) + 1 from rfl, zs_nkz, zbz_s]
    unfold f_X5_nearestKeptZone_4b
    rw [hZ.1, if_neg (nI_ge (by omega) (by omega)), z3at hZ hB (show i < Z.1 by omega), zbd_s, zgd_d (zkd5 i (by omega)), e, h6, h7, z3un hn (by omega), zbd_s, c66, c62]
    simp only [nI_eq (show Z.2 i < 2 ^ 31 by omega) (show n < 2 ^ 31 by omega), s3, s4]
    unfold zcz
    cases zun n (Z.2 i) with
    | false => rw [if_pos (show zb false = 0 from rfl), Bool.false_and, Bool.false_and, Bool.false_and, if_neg (by decide)]
    | true =>
      rw [if_neg (show ¬ zb true = 0 by decide), Bool.true_and]
      by_cases c1 : Z.2 i = n
      · rw [if_pos c1, decide_eq_true c1, Bool.true_and]
        by_cases c3 : s = 3
        · rw [if_pos c3, decide_eq_true (show s = 3 ∨ s = 4 from Or.inl c3), Bool.not_true, Bool.false_and, Bool.false_and, if_neg (by decide)]
        · rw [if_neg c3]
          by_cases c4 : s = 4
          · rw [if_pos c4, decide_eq_true (show s = 3 ∨ s = 4 from Or.inr c4), Bool.not_true, Bool.false_and, Bool.false_and, if_neg (by decide)]
          · rw [if_neg c4, decide_eq_false (show ¬ (s = 3 ∨ s = 4) by omega), Bool.not_false, Bool.true_and]
      · rw [if_neg c1, decide_eq_false c1, Bool.false_and, Bool.not_false, Bool.true_and]
theorem z3nk {σ : zt_St} {Z : Nat × (Nat → Nat)} {n s : Nat} (hZ : zZC σ Z) (hB : zZB Z) (hn : n < 10000) (hs : s < 5) (h6 : σ 80 6 = nI n) (h7 : σ 80 7 = nI s) : f_X5_nearestKeptZone σ = some (nI (zbz Z (σ 90) n s (σ 80 3) (Z.1 - 1) 1 0)) := by
  have hb6 := hB.1
  have hb1 := hB.2.1
  unfold f_X5_nearestKeptZone
  rw [zfu (Z.1 - 1) (by omega), zl_0, zl_1]
  exact z3nkL hZ hB hn hs h6 h7 (Z.1 - 1) 1 0 _ (by omega) (by omega)
theorem zs_bz9 {σ : zt_St} {n : Nat} {a b c d e : Int32} : f_X9_bestZone_6 σ (n + 1) a b c d e = f_X9_bestZone_6b σ (f_X9_bestZone_6 σ n) a b c d e := rfl
theorem z9bzL {σ : zt_St} {Z : Nat × (Nat → Nat)} {n s : Nat} (hZ : zZM σ Z) (hB : zZB Z) (hn : n < 10000) (hs : s < 5) : ∀ d i b m, i + d = Z.1 → b < Z.1 → zun n (Z.2 b) = true → f_X9_bestZone_6 σ (m + d + 1) (nI n) (nI s) 0 (nI b) (nI i) = some (nI (zbz Z (σ 113) n s (σ 94 1) d i b)) := by
  have hb6 := hB.1
  intro d
  induction d with
  | zero =>
    intro i b m h hb hub
    rw [zs_bz9]
    unfold f_X9_bestZone_6b
    rw [hZ.1, if_pos (nI_le (by omega) (by omega))]
    rfl
  | succ d ih =>
    intro i b m h hb hub
    have e := hZ.2 i (by omega)
    have e2 := hZ.2 b hb
    have a1 := znm_lt (hB.2.2 i (by omega))
    have a2 := znm_lt (hB.2.2 b hb)
    have s3 : nI s = 3 ↔ s = 3 := nI_eq (b := 3) (by omega) (by decide)
    have s4 : nI s = 4 ↔ s = 4 := nI_eq (b := 4) (by omega) (by decide)
    have f1 := zfg4 (Z.2 i)
    have f2 := zfg4 (Z.2 b)
    have c72 : f_X9_bestZone_72 σ (f_X9_bestZone_6 σ (m + d + 1)) (nI n) (nI s) 0 (nI b) (nI i) = some (nI (zbz Z (σ 113) n s (σ 94 1) d (i + 1) b)) := by
      unfold f_X9_bestZone_72 f_X9_bestZone_73 f_X9_bestZone_108 f_X9_bestZone_110
      rw [if_pos (show (0 : Int32) = 0 from rfl), nI_1]
      exact ih (i + 1) b m (by omega) hb hub
    have c68 : zun n (Z.2 i) = true → f_X9_bestZone_68 σ (f_X9_bestZone_6 σ (m + d + 1)) (nI n) (nI s) 0 (nI b) (nI i) = some (nI (zbz Z (σ 113) n s (σ 94 1) d (i + 1) (if decide (Z.2 b < Z.2 i) = true then i else b))) := by
      intro hui
      have hf := zun_fg hn hub hui
      unfold f_X9_bestZone_68 f_X9_bestZone_73 f_X9_bestZone_108 f_X9_bestZone_110
      rw [if_neg (show ¬ (1 : Int32) = 0 by decide), zgd_i (show i < 6 by omega) (by decide), nI_clamp (show i < 2 ^ 31 by omega), e, z9fg a1, zbd_s, zgd_i (show b < 6 by omega) (by decide), nI_clamp (show b < 2 ^ 31 by omega), e2, z9fg a2, zbd_s, nI_1, ih (i + 1) b m (by omega) hb hub, ih (i + 1) i m (by omega) (by omega) hui]
      by_cases c : Z.2 b < Z.2 i
      · rw [if_neg (nI_ge (hf.mpr c) (by omega)), decide_eq_true c, if_pos rfl]
      · rw [if_pos (nI_le (Nat.le_of_not_lt (fun w => c (hf.mp w))) (by omega)), decide_eq_false c, if_neg (by decide)]
    rw [show m + (d + 1) + 1 = (m + d + 1) + 1 from rfl, zs_bz9, zbz_s]
    unfold f_X9_bestZone_6b
    rw [hZ.1, if_neg (nI_ge (by omega) (by omega)), if_pos (show (0 : Int32) = 0 from rfl), zgd_i (by omega) (by decide), zgd_i (by omega) (by decide), zgd_i (by omega) (by decide), nI_clamp (by omega), e, z9un hn a1, zbd_s, c72]
    simp only [nI_eq (show Z.2 i < 2 ^ 31 by omega) (show n < 2 ^ 31 by omega), s3, s4]
    unfold zcz
    by_cases cu : σ 113 i ≤ σ 94 1
    · rw [if_pos cu, decide_eq_true cu, Bool.not_true, Bool.and_false, Bool.false_and, if_neg (by decide)]
    · rw [if_neg cu, decide_eq_false cu, Bool.not_false, Bool.and_true]
      cases hui : zun n (Z.2 i) with
      | false => rw [if_pos (show zb false = 0 from rfl), Bool.false_and, Bool.false_and, if_neg (by decide)]
      | true =>
        rw [if_neg (show ¬ zb true = 0 by decide), Bool.true_and, c68 hui]
        by_cases c1 : Z.2 i = n
        · rw [if_pos c1, decide_eq_true c1, Bool.true_and]
          by_cases c3 : s = 3
          · rw [if_pos c3, decide_eq_true (show s = 3 ∨ s = 4 from Or.inl c3), Bool.not_true, Bool.false_and, if_neg (by decide)]
          · rw [if_neg c3]
            by_cases c4 : s = 4
            · rw [if_pos c4, decide_eq_true (show s = 3 ∨ s = 4 from Or.inr c4), Bool.not_true, Bool.false_and, if_neg (by decide)]
            · rw [if_neg c4, decide_eq_false (show ¬ (s = 3 ∨ s = 4) by omega), Bool.not_false, Bool.true_and]
        · rw [if_neg c1, decide_eq_false c1, Bool.false_and, Bool.not_false, Bool.true_and]
