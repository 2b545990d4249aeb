/-! what fits: both say the same of a set of records -/
def zal (q : Nat → Bool) : Nat → Nat → Bool
  | 0, _ => true
  | d + 1, i => q i && zal q d (i + 1)
theorem zal_s {q : Nat → Bool} {d i : Nat} : zal q (d + 1) i = (q i && zal q d (i + 1)) := rfl
theorem zan_s {q : Nat → Bool} {d i : Nat} : zan q (d + 1) i = (q i || zan q d (i + 1)) := rfl
theorem zal_c (q : Nat → Bool) : ∀ d i, zal q d i = true ↔ ∀ j, i ≤ j → j < i + d → q j = true := by
  intro d
  induction d with
  | zero => intro i; exact ⟨fun _ j a b => by omega, fun _ => rfl⟩
  | succ d ih =>
    intro i
    rw [zal_s, Bool.and_eq_true, ih]
    constructor
    · rintro ⟨h, f⟩ j a b
      rcases Nat.lt_or_ge i j with w | w
      · exact f j w (by omega)
      · rw [show j = i by omega]; exact h
    · intro f
      exact ⟨f i (by omega) (by omega), fun j a b => f j (by omega) (by omega)⟩
/-- the zones: how many, and the apex of each -/
def zZC (σ : zt_St) (Z : Nat × (Nat → Nat)) : Prop := σ 1 1 = nI Z.1 ∧ ∀ i, i < Z.1 → σ (3 + 11 * i) 0 = nI (Z.2 i)
def zZM (σ : zt_St) (Z : Nat × (Nat → Nat)) : Prop := σ 94 2 = nI Z.1 ∧ ∀ i, i < Z.1 → σ 95 i = nI (Z.2 i)
def zZB (Z : Nat × (Nat → Nat)) : Prop := Z.1 ≤ 6 ∧ 1 ≤ Z.1 ∧ ∀ i, i < Z.1 → znm (Z.2 i) = true
def zia (Z : Nat × (Nat → Nat)) (v p : Nat) : Bool := decide (v < Z.1 ∧ Z.2 v = p)
theorem zkd5 : ∀ i, i < 6 → zt_kd (3 + 11 * i) = 5 := by decide
theorem zgd_d {α : Type} {p : Prop} {d : Decidable p} {x : Option α} (h : p) : zt_gd (@decide p d) x = x := by rw [decide_eq_true h]; rfl
theorem z3at {σ : zt_St} {Z : Nat × (Nat → Nat)} {i : Nat} (hZ : zZC σ Z) (hB : zZB Z) (h : i < Z.1) : f_X7_at σ (nI i) = some (3 + 11 * i) := by
  have b := hB.1
  unfold f_X7_at
  rw [if_neg (nI_pos (by omega)), hZ.1, if_neg (nI_ge h (by omega)), zl_6, if_neg (nI_ge (by omega) (by omega)), zgd_i (by omega) (by omega), nI_clamp (by omega), zgd_d (zkd5 i (by omega))]
theorem z3isAt {σ : zt_St} {Z : Nat × (Nat → Nat)} {v p : Nat} (hZ : zZC σ Z) (hB : zZB Z) (hv : v < 10000) (hp : p < 10000) : f_X7_isAt σ (nI v) (nI p) = some (zb (zia Z v p)) := by
  have b := hB.1
  unfold f_X7_isAt zia
  rw [if_neg (nI_pos (by omega)), hZ.1]
  by_cases c : v < Z.1
  · have e := hZ.2 v c
    have b2 := znm_lt (hB.2.2 v c)
    rw [if_neg (nI_ge c (by omega)), z3at hZ hB c, zbd_s, zgd_d (zkd5 v (by omega)), e]
    simp only [nI_eq (show Z.2 v < 2 ^ 31 by omega) (show p < 2 ^ 31 by omega)]
    by_cases c2 : Z.2 v = p
    · rw [if_pos c2, decide_eq_true ⟨c, c2⟩]; rfl
    · rw [if_neg c2, decide_eq_false (fun w => c2 w.2)]; rfl
  · rw [if_pos (nI_le (by omega) (by omega)), decide_eq_false (fun w => c w.1)]; rfl
def zrf (R : zR) (a : Nat) (Z : Nat × (Nat → Nat)) (i : Nat) : Bool := zun (zbs (zP R i)) a && (if zS R i = 1 then decide (zct (zqa R (nI (zP R i))) R.1 0 = 1) else if zS R i = 2 then !(zsr (zP R i)) && !(zan (zqe R (zP R i)) R.1 0) else if zS R i = 3 then decide (zP R i ≠ a) && zia Z (zV R i) (zP R i) else if zS R i = 4 then (zrw R (nI (zP R i)) (nI 3)).isSome else true)
theorem z3rf {σ : zt_St} {k0 k M i a : Nat} {R : zR} {Z : Nat × (Nat → Nat)} (hk : zK k M R) (hR : zRC σ k R) (hb : zRB R) (hi : i < R.1) (ha : σ k0 0 = nI a) (ha2 : a < 10000) (hZ : zZC σ Z) (hB : zZB Z) : f_X6_isRowFit σ k0 k (nI i) = some (zb (zrf R a Z i)) := by
  have b := hb i hi
  have q := z3pa hk hR hi
  have hM := hk.2.2.2.2
  have ct := (zct_c (zqa R (nI (zP R i))) R.1 0).1
  unfold f_X6_isRowFit zrf
  rw [q.1, zbd_s, q.2.1, zbd_s, z3bs (by omega), zbd_s, ha, z3un (zbs_lt b.1) (by omega), zbd_s]
  have k1 : nI (zS R i) = 1 ↔ zS R i = 1 := nI_eq (b := 1) (by omega) (by decide)
  have k2 : nI (zS R i) = 2 ↔ zS R i = 2 := nI_eq (b := 2) (by omega) (by decide)
  have k3 : nI (zS R i) = 3 ↔ zS R i = 3 := nI_eq (b := 3) (by omega) (by decide)
  have k4 : nI (zS R i) = 4 ↔ zS R i = 4 := nI_eq (b := 4) (by omega) (by decide)
  have kc : nI (zct (zqa R (nI (zP R i))) R.1 0) = 1 ↔ zct (zqa R (nI (zP R i))) R.1 0 = 1 := nI_eq (b := 1) (by omega) (by decide)
  have f : f_X4_rowOf σ k (nI (zP R i)) 3 = some (oI 0 (zrw R (nI (zP R i)) (nI 3))) := z3row hk hR
  have zb00 : ∀ x : Bool, (zb x = 0) = (x = false) := fun x => zb0
  simp only [z3cnt hk hR, z3sr (show zP R i < 2 ^ 31 by omega), z3any hk hR hb b.1, q.2.2.1, z3isAt hZ hB b.2.2.1 b.1, f, zbd_s, zb00, k1, k2, k3, k4, kc, nI_eq (show zP R i < 2 ^ 31 by omega) (show a < 2 ^ 31 by omega)]
  cases zun (zbs (zP R i)) a with
  | false => rw [if_pos rfl, Bool.false_and]; rfl
  | true =>
    rw [if_neg (by decide), Bool.true_and]
    by_cases c1 : zS R i = 1
    · rw [if_pos c1, if_pos c1]
      by_cases c : zct (zqa R (nI (zP R i))) R.1 0 = 1
      · rw [if_pos c, decide_eq_true c]; rfl
      · rw [if_neg c, decide_eq_false c]; rfl
    · rw [if_neg c1, if_neg c1]
      by_cases c2 : zS R i = 2
      · rw [if_pos c2, if_pos c2]
        cases zsr (zP R i) with
        | true => rw [if_neg (by decide)]; rfl
        | false =>
          rw [if_pos rfl]
          cases zan (zqe R (zP R i)) R.1 0 with
          | true => rw [if_neg (by decide)]; rfl
          | false => rw [if_pos rfl]; rfl
      · rw [if_neg c2, if_neg c2]
        by_cases c3 : zS R i = 3
        · rw [if_pos c3, if_pos c3]
          by_cases c : zP R i = a
          · rw [if_pos c, decide_eq_false (fun w => w c)]; rfl
          · rw [if_neg c, decide_eq_true c, Bool.true_and]
            cases zia Z (zV R i) (zP R i) with
            | true => rw [if_neg (by decide)]; rfl
            | false => rw [if_pos rfl]; rfl
        · rw [if_neg c3, if_neg c3]
          by_cases c4 : zS R i = 4
          · rw [if_pos c4, if_pos c4]
            cases hz : zrw R (nI (zP R i)) (nI 3) with
            | none => rfl
            | some j =>
              have hj := (zrw_lt hz).1
              rw [if_neg (oI_1 (by omega))]
              rfl
          · rw [if_neg c4, if_neg c4]; rfl
theorem zs_fit {σ : zt_St} {k0 k n : Nat} {a b : Int32} : f_X6_isFit_18 σ k0 k (n + 1) a b = f_X6_isFit_18b σ k0 k (f_X6_isFit_18 σ k0 k n) a b := rfl
theorem z3fit0 {σ : zt_St} {k0 k n : Nat} {b : Int32} : f_X6_isFit_18 σ k0 k (n + 1) 0 b = some 0 := by
  rw [zs_fit]
  unfold f_X6_isFit_18b
  rw [if_pos (show (0 : Int32) = 0 from rfl)]
  split <;> rfl
theorem z3fitL {σ : zt_St} {k0 k M a : Nat} {R : zR} {Z : Nat × (Nat → Nat)} (hk : zK k M R) (hR : zRC σ k R) (hb : zRB R) (ha : σ k0 0 = nI a) (ha2 : a < 10000) (hZ : zZC σ Z) (hB : zZB Z) : ∀ d i m, i + d = R.1 → f_X6_isFit_18 σ k0 k (m + d + 1) 1 (nI i) = some (zb (zal (zrf R a Z) d i)) := by
  have hM := hk.2.2.2.2
  intro d
  induction d with
  | zero =>
    intro i m h
    rw [zs_fit]
    unfold f_X6_isFit_18b
    rw [hR.1, if_pos (nI_le (by omega) (by omega))]
    rfl
  | succ d ih =>
    intro i m h
    rw [show m + (d + 1) + 1 = (m + d + 1) + 1 from rfl, zs_fit, zal_s]
    unfold f_X6_isFit_18b
    rw [hR.1, if_neg (nI_ge (by omega) (by omega)), if_neg (show ¬ (1 : Int32) = 0 by decide), z3rf hk hR hb (by omega) ha ha2 hZ hB, zbd_s, nI_1]
    cases zrf R a Z i with
    | true => exact ih (i + 1) m (by omega)
    | false => exact z3fit0
def zfit (R : zR) (a : Nat) (Z : Nat × (Nat → Nat)) : Bool := decide (R.1 ≤ 20) && zal (zrf R a Z) R.1 0
theorem z3fit {σ : zt_St} {k0 k M a : Nat} {R : zR} {Z : Nat × (Nat → Nat)} (hk : zK k M R) (hR : zRC σ k R) (hb : zRB R) (ha : σ k0 0 = nI a) (ha2 : a < 10000) (hZ : zZC σ Z) (hB : zZB Z) : f_X6_isFit σ k0 k = some (zb (zfit R a Z)) := by
  have hM := hk.2.2.2.2
  unfold f_X6_isFit f_X6_isFit_14 zfit
  rw [hR.1, zl_20]
  by_cases c : R.1 ≤ 20
  · rw [if_neg (nI_nlt c (by omega)), decide_eq_true c, Bool.true_and, zfu R.1 (by omega)]
    exact z3fitL hk hR hb ha ha2 hZ hB R.1 0 _ (by omega)
  · rw [if_pos (nI_lt (by omega) (by omega)), decide_eq_false c, Bool.false_and, zfu 0 (by omega)]
    exact z3fit0
/-- the reference's: what stands against a row -/
def zqf (R : zR) (i q : Nat) : Bool := (decide (zS R i = 1) && (decide (q ≠ i) && decide (zP R q = zP R i))) || (decide (zS R i = 2) && (decide (zP R q ≠ zP R i) && zun (zbs (zP R q)) (zP R i)))
def zrg (R : zR) (a : Nat) (Z : Nat × (Nat → Nat)) (i : Nat) : Bool := ((zun (zbs (zP R i)) a && !(zan (zqf R i) R.1 0)) && (decide (¬ (zS R i = 2 ∨ zS R i = 3 ∨ zS R i = 4)) || (decide (zP R i = 0) || decide (zP R i % 10 ≠ 0)))) && ((decide (zS R i ≠ 3) || (decide (zP R i ≠ a) && zia Z (zV R i) (zP R i))) && (decide (zS R i ≠ 4) || (zrw R (nI (zP R i)) (nI 3)).isSome))
